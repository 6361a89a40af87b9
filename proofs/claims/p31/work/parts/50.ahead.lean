/-! The law's look ahead -/
theorem cpz_lt {d s : Nat → Int32} {m i : Nat} (hi : i < m) : cpz d s m i = s i := if_pos hi
theorem VG.cp {z : zZ} {d g : Nat → Int32} (h : VG z g) : VG z (cpz d g 19) := fun i hi => (cpz_lt hi).trans (h i hi)
theorem VK.cp {z : zZ} {d g : Nat → Int32} (h : VK z g) : VK z (cpz d g 35) := fun i hi => (cpz_lt hi).trans (h i hi)
theorem VT.cp {z : zZ} {d g : Nat → Int32} (h : VT z g) : VT z (cpz d g 8) := fun i hi => (cpz_lt hi).trans (h i hi)
theorem pin3 {B : Nat} {z : zZ} {pins : Nat → Int32} (h : ZI B z) (vp : VP z pins) : ∀ i, i < 56 → pins i = 0 ∨ pins i = 1 ∨ pins i = -1 := fun i hi => by
  rw [vp i hi]
  exact h.p i hi
theorem VG.at {z : zZ} {g : Nat → Int32} (h : VG z g) {i k : Nat} (hi : i < 19) (hk : gi i = k) : g i = z k := (h i hi).trans (by rw [hk])
theorem falL_t {pins g t t2 : Nat → Int32} {c : Nat} : ∀ r, (falL pins g t c r).1.1 = (falL pins g t2 c r).1.1 ∧ (falL pins g t c r).2 = (falL pins g t2 c r).2
  | 0 => ⟨rfl, rfl⟩
  | r + 1 => by
    obtain ⟨e1, e2⟩ := falL_t (pins := pins) (g := g) (t := t) (t2 := t2) (c := c) r
    show (falLS _ _ _ _ _).1.1 = (falLS _ _ _ _ _).1.1 ∧ (falLS _ _ _ _ _).2 = (falLS _ _ _ _ _).2
    unfold falLS
    rw [e1, e2]
    split
    · exact ⟨rfl, rfl⟩
    · exact ⟨rfl, rfl⟩
theorem V_lchN {B : Nat} {z : zZ} {g pins k t : Nat → Int32} (hz : ZI B z) (hv : VI z) (h : VG z g) (hp : VP z pins) (hk : VK z k) {c : Nat} (hc : c < 7) : VG (lchZ z c) (lG pins g k t c) ∧ VP (lchZ z c) pins ∧ VK (lchZ z c) (lK pins g k t c) ∧ lV pins g k t c = lchZr z c := by
  obtain ⟨h1, h2, h3, h4, h5⟩ := V_lch (t := fun i => z (167 + i)) hz hv h hp hk (fun i hi => rfl) hc
  obtain ⟨e1, e2⟩ := falL_t (pins := pins) (g := lcL2 (lcL1 g)) (t := t) (t2 := fun i => z (167 + i)) (c := c) 8
  unfold lG lK lV lF at *
  rw [e1, e2]
  exact ⟨h1, h2, h3, h5⟩
theorem tu_end {B : Nat} {β τ : zB} {z zz : zZ} (h : RB B β z) {c r m : Nat} (hc : c < 7) (he : ltN c 201 (z, 0) = ltN c r (zz, m)) (hend : r = 0 ∨ ¬ zz 10 = 0) : tuV β τ c = if 200 < m then -1 else nI m := by
  have e : ltN c r (zz, m) = (zz, m) := by
    cases r with
    | zero => rfl
    | succ r => rw [ltN_s, if_neg (hend.resolve_left (by omega))]
  rw [tu_lt h hc]
  unfold ltV
  rw [he, e]
theorem lt_next {z zz : zZ} {c r m : Nat} (he : ltN c 201 (z, 0) = ltN c (r + 1) (zz, m)) (h0 : zz 10 = 0) : ltN c 201 (z, 0) = ltN c r (lchZ zz c, m + 1) := by
  rw [he, ltN_s, if_pos h0]
theorem td_0 {B : Nat} {β τ : zB} {z : zZ} (h : RB B β z) {c : Nat} (hc : c < 7) {x : Int32} (e : x = lchZ z c 12) : tdV (lchB (cpB τ β) c) β 0 = x := by
  rw [td_ld h hc (by omega), e]; unfold ldV; rw [if_pos rfl]
theorem td_1 {B : Nat} {β τ : zB} {z : zZ} (h : RB B β z) {c : Nat} (hc : c < 7) {x : Int32} (e : x = lchZr z c) : tdV (lchB (cpB τ β) c) β 1 = x := by
  rw [td_ld h hc (by omega), e]; unfold ldV; rw [if_neg (by decide), if_pos rfl]
theorem td_2 {B : Nat} {β τ : zB} {z : zZ} (h : RB B β z) {c : Nat} (hc : c < 7) {x : Int32} (e : x = lchZ z c 7) : tdV (lchB (cpB τ β) c) β 2 = x := by
  rw [td_ld h hc (by omega), e]; unfold ldV; rw [if_neg (by decide), if_neg (by decide), if_pos rfl]
theorem td_3 {B : Nat} {β τ : zB} {z : zZ} (h : RB B β z) {c : Nat} (hc : c < 7) {x : Int32} (e : x = lchZ z c 10) : tdV (lchB (cpB τ β) c) β 3 = x := by
  rw [td_ld h hc (by omega), e]; unfold ldV; rw [if_neg (by decide), if_neg (by decide), if_neg (by decide)]
set_option maxRecDepth 100000 in
set_option maxHeartbeats 1000000 in
theorem c_L_isAhead {l : Launch} {D : va_G} {base : Nat} (G : l.stackTraces = false) {h : zH} {n : Nat} {a : Nat} {β τ : zB} {rf : Nat → Option Nat} {φ : Nat → Int32} {c π : zB} {sn : Option Nat} {o s : Int32} {B : Nat} {z : zZ} {g pins k t : Nat → Int32} (hg : h (a + 31) = some (.inl (19, .inl g))) (hp : h (a + 32) = some (.inl (56, .inl pins))) (hk : h (a + 33) = some (.inl (35, .inl k))) (ht : h (a + 34) = some (.inl (8, .inl t))) (hR : RB B β z) (hI : VI z) (vg : VG z g) (vp : VP z pins) (vk : VK z k) (vt : VT z t) (hB : B < 2 ^ 27) {c1 : Nat} (hc : c1 < 7) (hn : a + 35 ≤ n) :
    zCt l D base 9 yL_isAhead w_L_isAhead [.ref a, .int (nI c1), .ref (a + 31), .ref (a + 32), .ref (a + 33), .ref (a + 34)] (zTo h a β τ o s rf φ c π sn) n 3 62 (zRT (some (.int 1)) (fun H2 n2 => ∃ h2 τ2, H2 = zTo h2 a β τ2 o s rf φ c π sn ∧ (∀ q, q < n → h2 q = h q) ∧ n2 = n + 3)) := by
  refine zCt.of G (by decide) (Nat.le_of_ble_eq_true rfl) (fun Sx V X hV hE hX => ?_)
  show V 0 [(0, .ref a), (1, .int (nI c1)), (2, .ref (a + 31)), (3, .ref (a + 32)), (4, .ref (a + 33)), (5, .ref (a + 34))] [] (zTo h a β τ o s rf φ c π sn) n 0 0
  have hpin := pin3 hR.2.2 vp
  refine hV.bipush (v := 19) dL_isAhead_0 (by decide) ?_
  refine hV.newi (N := 19) (h2 := zTo (zput h n (some (.inl (19, .inl (fun _ => 0))))) a β τ o s rf φ c π sn) dL_isAhead_2 ⟨by decide, by decide⟩ (by decide) (Nat.le_of_ble_eq_true rfl) (Nat.le_of_ble_eq_true rfl) ((To_z (by omega)).trans (congrArg (fun w => zTo w _ _ _ _ _ _ _ _ _ _) rfl)) ?_
  refine hV.astore (ls2 := [(6, .ref n), (0, .ref a), (1, .int (nI c1)), (2, .ref (a + 31)), (3, .ref (a + 32)), (4, .ref (a + 33)), (5, .ref (a + 34))]) dL_isAhead_4 (by decide) rfl ?_
  refine hV.bipush (v := 35) dL_isAhead_6 (by decide) ?_
  refine hV.newi (N := 35) (h2 := zTo (zput (zput h n (some (.inl (19, .inl (fun _ => 0))))) (n + 1) (some (.inl (35, .inl (fun _ => 0))))) a β τ o s rf φ c π sn) dL_isAhead_8 ⟨by decide, by decide⟩ (by decide) (Nat.le_of_ble_eq_true rfl) (Nat.le_of_ble_eq_true rfl) ((To_z (by omega)).trans (congrArg (fun w => zTo w _ _ _ _ _ _ _ _ _ _) rfl)) ?_
  refine hV.astore (ls2 := [(7, .ref (n + 1)), (6, .ref n), (0, .ref a), (1, .int (nI c1)), (2, .ref (a + 31)), (3, .ref (a + 32)), (4, .ref (a + 33)), (5, .ref (a + 34))]) dL_isAhead_10 (by decide) rfl ?_
  refine hV.bipush (v := 8) dL_isAhead_12 (by decide) ?_
  refine hV.newi (N := 8) (h2 := zTo (zput (zput (zput h n (some (.inl (19, .inl (fun _ => 0))))) (n + 1) (some (.inl (35, .inl (fun _ => 0))))) (n + 2) (some (.inl (8, .inl (fun _ => 0))))) a β τ o s rf φ c π sn) dL_isAhead_14 ⟨by decide, by decide⟩ (by decide) (Nat.le_of_ble_eq_true rfl) (Nat.le_of_ble_eq_true rfl) ((To_z (by omega)).trans (congrArg (fun w => zTo w _ _ _ _ _ _ _ _ _ _) rfl)) ?_
  refine hV.astore (ls2 := [(8, .ref (n + 2)), (7, .ref (n + 1)), (6, .ref n), (0, .ref a), (1, .int (nI c1)), (2, .ref (a + 31)), (3, .ref (a + 32)), (4, .ref (a + 33)), (5, .ref (a + 34))]) dL_isAhead_16 (by decide) rfl ?_
  refine hV.aload_n 5 dL_isAhead_18 rfl ?_
  refine hV.aload 2 dL_isAhead_19 rfl ?_
  refine hV.callS1 (rest := []) dL_isAhead_21 (c_L_copy G (M := 19) (f := g) (f2 := fun _ => 0) ((To_out (by omega)).trans ((zput_ne (by omega)).trans ((zput_ne (by omega)).trans ((zput_ne (by omega)).trans hg)))) ((To_out (by omega)).trans ((zput_ne (by omega)).trans ((zput_ne (by omega)).trans zput_at))) (by omega) (by decide)) my_L_copy ks_L_71 rfl rfl (Nat.le_of_ble_eq_true rfl) (Nat.le_of_ble_eq_true rfl) (Nat.le_of_ble_eq_true rfl) (Nat.le_of_ble_eq_true rfl) (Nat.le_of_ble_eq_true rfl) (st2 := []) (k2 := 3) (g2 := 62) rfl rfl rfl ?_
  refine zHeap (h2 := zTo (zput (zput (zput h n (some (.inl (19, .inl (cpz (fun _ => 0) g 19))))) (n + 1) (some (.inl (35, .inl (fun _ => 0))))) (n + 2) (some (.inl (8, .inl (fun _ => 0))))) a β τ o s rf φ c π sn) ((To_z (by omega)).trans (congrArg (fun w => zTo w _ _ _ _ _ _ _ _ _ _) ((zput_sw (by omega)).trans (congrArg (fun z => zput z _ _) ((zput_sw (by omega)).trans (congrArg (fun z => zput z _ _) zput_zput)))))) ?_
  refine hV.aload 7 dL_isAhead_24 rfl ?_
  refine hV.aload 1 dL_isAhead_26 rfl ?_
  refine hV.callS1 (rest := []) dL_isAhead_28 (c_L_copy G (M := 35) (f := k) (f2 := fun _ => 0) ((To_out (by omega)).trans ((zput_ne (by omega)).trans ((zput_ne (by omega)).trans ((zput_ne (by omega)).trans hk)))) ((To_out (by omega)).trans ((zput_ne (by omega)).trans zput_at)) (by omega) (by decide)) my_L_copy ks_L_71 rfl rfl (Nat.le_of_ble_eq_true rfl) (Nat.le_of_ble_eq_true rfl) (Nat.le_of_ble_eq_true rfl) (Nat.le_of_ble_eq_true rfl) (Nat.le_of_ble_eq_true rfl) (st2 := []) (k2 := 3) (g2 := 62) rfl rfl rfl ?_
  refine zHeap (h2 := zTo (zput (zput (zput h n (some (.inl (19, .inl (cpz (fun _ => 0) g 19))))) (n + 1) (some (.inl (35, .inl (cpz (fun _ => 0) k 35))))) (n + 2) (some (.inl (8, .inl (fun _ => 0))))) a β τ o s rf φ c π sn) ((To_z (by omega)).trans (congrArg (fun w => zTo w _ _ _ _ _ _ _ _ _ _) ((zput_sw (by omega)).trans (congrArg (fun z => zput z _ _) zput_zput)))) ?_
  refine hV.aload 8 dL_isAhead_31 rfl ?_
  refine hV.aload 0 dL_isAhead_33 rfl ?_
  refine hV.callS1 (rest := []) dL_isAhead_35 (c_L_copy G (M := 8) (f := t) (f2 := fun _ => 0) ((To_out (by omega)).trans ((zput_ne (by omega)).trans ((zput_ne (by omega)).trans ((zput_ne (by omega)).trans ht)))) ((To_out (by omega)).trans zput_at) (by omega) (by decide)) my_L_copy ks_L_71 rfl rfl (Nat.le_of_ble_eq_true rfl) (Nat.le_of_ble_eq_true rfl) (Nat.le_of_ble_eq_true rfl) (Nat.le_of_ble_eq_true rfl) (Nat.le_of_ble_eq_true rfl) (st2 := []) (k2 := 3) (g2 := 62) rfl rfl rfl ?_
  refine zHeap (h2 := zTo (zput (zput (zput h n (some (.inl (19, .inl (cpz (fun _ => 0) g 19))))) (n + 1) (some (.inl (35, .inl (cpz (fun _ => 0) k 35))))) (n + 2) (some (.inl (8, .inl (cpz (fun _ => 0) t 8))))) a β τ o s rf φ c π sn) ((To_z (by omega)).trans (congrArg (fun w => zTo w _ _ _ _ _ _ _ _ _ _) zput_zput)) ?_
  obtain ⟨g2, hg2⟩ : ∃ w : Nat → Int32, w = cpz (fun _ => 0) g 19 := ⟨_, rfl⟩
  rw [← hg2]
  have vg2 : VG z g2 := by rw [hg2]; exact vg.cp
  obtain ⟨k2, hk2⟩ : ∃ w : Nat → Int32, w = cpz (fun _ => 0) k 35 := ⟨_, rfl⟩
  rw [← hk2]
  have vk2 : VK z k2 := by rw [hk2]; exact vk.cp
  obtain ⟨t2, ht2⟩ : ∃ w : Nat → Int32, w = cpz (fun _ => 0) t 8 := ⟨_, rfl⟩
  rw [← ht2]
  have vt2 : VT z t2 := by rw [ht2]; exact vt.cp
  refine hV.iload_n 4 dL_isAhead_38 rfl ?_
  refine hV.aload 2 dL_isAhead_39 rfl ?_
  refine hV.aload_n 6 dL_isAhead_41 rfl ?_
  refine hV.aload 1 dL_isAhead_42 rfl ?_
  refine hV.aload 0 dL_isAhead_44 rfl ?_
  refine hV.callS1 (rest := []) dL_isAhead_46 (c_L_launched G (g := g2) (pins := pins) (k := k2) (t := t2) (c := c1) (by omega) ((To_out (by omega)).trans ((zput_ne (by omega)).trans ((zput_ne (by omega)).trans zput_at))) ((To_out (by omega)).trans ((zput_ne (by omega)).trans ((zput_ne (by omega)).trans ((zput_ne (by omega)).trans hp)))) ((To_out (by omega)).trans ((zput_ne (by omega)).trans zput_at)) ((To_out (by omega)).trans zput_at) (by omega) hpin) my_L_launched ks_L_75 rfl rfl (Nat.le_of_ble_eq_true rfl) (Nat.le_of_ble_eq_true rfl) (Nat.le_of_ble_eq_true rfl) (Nat.le_of_ble_eq_true rfl) (Nat.le_of_ble_eq_true rfl) (st2 := [.int (lV pins g2 k2 t2 c1)]) (k2 := 3) (g2 := 62) rfl rfl rfl ?_
  refine zHeap (h2 := zTo (zput (zput (zput h n (some (.inl (19, .inl (lG pins g2 k2 t2 c1))))) (n + 1) (some (.inl (35, .inl (lK pins g2 k2 t2 c1))))) (n + 2) (some (.inl (8, .inl (lT pins g2 t2 c1))))) a β τ o s rf φ c π sn) ((congrArg (fun w => zput (zput (w) _ _) _ _) ((To_z (by omega)).trans (congrArg (fun w => zTo w _ _ _ _ _ _ _ _ _ _) ((zput_sw (by omega)).trans (congrArg (fun z => zput z _ _) ((zput_sw (by omega)).trans (congrArg (fun z => zput z _ _) zput_zput))))))).trans ((congrArg (fun w => zput (w) _ _) ((To_z (by omega)).trans (congrArg (fun w => zTo w _ _ _ _ _ _ _ _ _ _) ((zput_sw (by omega)).trans (congrArg (fun z => zput z _ _) zput_zput))))).trans ((To_z (by omega)).trans (congrArg (fun w => zTo w _ _ _ _ _ _ _ _ _ _) zput_zput)))) ?_
  refine hV.istore (ls2 := [(9, .int (lV pins g2 k2 t2 c1)), (8, .ref (n + 2)), (7, .ref (n + 1)), (6, .ref n), (0, .ref a), (1, .int (nI c1)), (2, .ref (a + 31)), (3, .ref (a + 32)), (4, .ref (a + 33)), (5, .ref (a + 34))]) dL_isAhead_49 (by decide) rfl ?_
  have hL := V_lch hR.2.2 hI vg2 vp vk2 vt2 hc
  obtain ⟨g3, hg3⟩ : ∃ w, w = lG pins g2 k2 t2 c1 := ⟨_, rfl⟩
  rw [← hg3] at hL ⊢
  obtain ⟨k3, hk3⟩ : ∃ w, w = lK pins g2 k2 t2 c1 := ⟨_, rfl⟩
  rw [← hk3] at hL ⊢
  obtain ⟨t3, ht3⟩ : ∃ w, w = lT pins g2 t2 c1 := ⟨_, rfl⟩
  rw [← ht3] at hL ⊢
  obtain ⟨b3, hb3⟩ : ∃ w, w = lV pins g2 k2 t2 c1 := ⟨_, rfl⟩
  rw [← hb3] at hL ⊢
  refine hV.aload_n 4 dL_isAhead_51 rfl ?_
  refine hV.iload_n 5 dL_isAhead_52 rfl ?_
  refine hV.iconst (v := 0) dL_isAhead_53 (by decide) ?_
  refine hV.callV1 (rest := []) dL_isAhead_54 (c_X4_ifLaunched G (τ := τ) (RB.pin hR) (c1 := c1) (w := 0) (by omega) (by omega)) my_X4_ifLaunched kv_L_79 To_o rfl rfl rfl (Nat.le_of_ble_eq_true rfl) (Nat.le_of_ble_eq_true rfl) (Nat.le_of_ble_eq_true rfl) (Nat.le_of_ble_eq_true rfl) (Nat.le_of_ble_eq_true rfl) (st2 := [.int (tdV (lchB (cpB τ β) c1) β 0)]) (k2 := 3) (g2 := 62) rfl rfl rfl ?_
  refine zTop (v := g3 11) (td_0 hR hc (hL.1.at (by omega) (by rfl))) ?_
  obtain ⟨τ1, hτ1⟩ : ∃ w : zB, w = lchB (cpB τ β) c1 := ⟨_, rfl⟩
  rw [← hτ1]
  refine hV.aload 3 dL_isAhead_57 rfl ?_
  refine hV.bipush (v := 11) dL_isAhead_59 (by decide) ?_
  refine hV.iald (j := 11) dL_isAhead_61 ((To_out (by omega)).trans ((zput_ne (by omega)).trans ((zput_ne (by omega)).trans zput_at))) ⟨by decide, by decide⟩ (by decide) ?_
  refine hV.icmp_ne_f (tgt := 104) dL_isAhead_62 (by decide) rfl ?_
  refine hV.aload_n 4 dL_isAhead_65 rfl ?_
  refine hV.iload_n 5 dL_isAhead_66 rfl ?_
  refine hV.iconst (v := 1) dL_isAhead_67 (by decide) ?_
  refine hV.callV1 (rest := []) dL_isAhead_68 (c_X4_ifLaunched G (τ := τ1) (RB.pin hR) (c1 := c1) (w := 1) (by omega) (by omega)) my_X4_ifLaunched kv_L_79 To_o rfl rfl rfl (Nat.le_of_ble_eq_true rfl) (Nat.le_of_ble_eq_true rfl) (Nat.le_of_ble_eq_true rfl) (Nat.le_of_ble_eq_true rfl) (Nat.le_of_ble_eq_true rfl) (st2 := [.int (tdV (lchB (cpB τ1 β) c1) β 1)]) (k2 := 3) (g2 := 62) rfl rfl rfl ?_
  refine zTop (v := b3) (td_1 hR hc hL.2.2.2.2) ?_
  obtain ⟨τ2, hτ2⟩ : ∃ w : zB, w = lchB (cpB τ1 β) c1 := ⟨_, rfl⟩
  rw [← hτ2]
  refine hV.iload 0 dL_isAhead_71 rfl ?_
  refine hV.icmp_ne_f (tgt := 104) dL_isAhead_73 (by decide) rfl ?_
  refine hV.aload_n 4 dL_isAhead_76 rfl ?_
  refine hV.iload_n 5 dL_isAhead_77 rfl ?_
  refine hV.iconst (v := 2) dL_isAhead_78 (by decide) ?_
  refine hV.callV1 (rest := []) dL_isAhead_79 (c_X4_ifLaunched G (τ := τ2) (RB.pin hR) (c1 := c1) (w := 2) (by omega) (by omega)) my_X4_ifLaunched kv_L_79 To_o rfl rfl rfl (Nat.le_of_ble_eq_true rfl) (Nat.le_of_ble_eq_true rfl) (Nat.le_of_ble_eq_true rfl) (Nat.le_of_ble_eq_true rfl) (Nat.le_of_ble_eq_true rfl) (st2 := [.int (tdV (lchB (cpB τ2 β) c1) β 2)]) (k2 := 3) (g2 := 62) rfl rfl rfl ?_
  refine zTop (v := g3 6) (td_2 hR hc (hL.1.at (by omega) (by rfl))) ?_
  obtain ⟨τ3, hτ3⟩ : ∃ w : zB, w = lchB (cpB τ2 β) c1 := ⟨_, rfl⟩
  rw [← hτ3]
  refine hV.aload 3 dL_isAhead_82 rfl ?_
  refine hV.bipush (v := 6) dL_isAhead_84 (by decide) ?_
  refine hV.iald (j := 6) dL_isAhead_86 ((To_out (by omega)).trans ((zput_ne (by omega)).trans ((zput_ne (by omega)).trans zput_at))) ⟨by decide, by decide⟩ (by decide) ?_
  refine hV.icmp_ne_f (tgt := 104) dL_isAhead_87 (by decide) rfl ?_
  refine hV.aload_n 4 dL_isAhead_90 rfl ?_
  refine hV.iload_n 5 dL_isAhead_91 rfl ?_
  refine hV.iconst (v := 3) dL_isAhead_92 (by decide) ?_
  refine hV.callV1 (rest := []) dL_isAhead_93 (c_X4_ifLaunched G (τ := τ3) (RB.pin hR) (c1 := c1) (w := 3) (by omega) (by omega)) my_X4_ifLaunched kv_L_79 To_o rfl rfl rfl (Nat.le_of_ble_eq_true rfl) (Nat.le_of_ble_eq_true rfl) (Nat.le_of_ble_eq_true rfl) (Nat.le_of_ble_eq_true rfl) (Nat.le_of_ble_eq_true rfl) (st2 := [.int (tdV (lchB (cpB τ3 β) c1) β 3)]) (k2 := 3) (g2 := 62) rfl rfl rfl ?_
  refine zTop (v := g3 9) (td_3 hR hc (hL.1.at (by omega) (by rfl))) ?_
  obtain ⟨τ4, hτ4⟩ : ∃ w : zB, w = lchB (cpB τ3 β) c1 := ⟨_, rfl⟩
  rw [← hτ4]
  refine hV.aload 3 dL_isAhead_96 rfl ?_
  refine hV.bipush (v := 9) dL_isAhead_98 (by decide) ?_
  refine hV.iald (j := 9) dL_isAhead_100 ((To_out (by omega)).trans ((zput_ne (by omega)).trans ((zput_ne (by omega)).trans zput_at))) ⟨by decide, by decide⟩ (by decide) ?_
  refine hV.icmp_eq_t (tgt := 106) dL_isAhead_101 (by decide) rfl ?_
  refine hV.aload_n 6 dL_isAhead_106 rfl ?_
  refine hV.aload 3 dL_isAhead_107 rfl ?_
  refine hV.callS1 (rest := []) dL_isAhead_109 (c_L_copy G (M := 19) (f := g) (f2 := g3) ((To_out (by omega)).trans ((zput_ne (by omega)).trans ((zput_ne (by omega)).trans ((zput_ne (by omega)).trans hg)))) ((To_out (by omega)).trans ((zput_ne (by omega)).trans ((zput_ne (by omega)).trans zput_at))) (by omega) (by decide)) my_L_copy ks_L_71 rfl rfl (Nat.le_of_ble_eq_true rfl) (Nat.le_of_ble_eq_true rfl) (Nat.le_of_ble_eq_true rfl) (Nat.le_of_ble_eq_true rfl) (Nat.le_of_ble_eq_true rfl) (st2 := []) (k2 := 3) (g2 := 62) rfl rfl rfl ?_
  refine zHeap (h2 := zTo (zput (zput (zput h n (some (.inl (19, .inl (cpz g3 g 19))))) (n + 1) (some (.inl (35, .inl k3)))) (n + 2) (some (.inl (8, .inl t3)))) a β τ4 o s rf φ c π sn) ((To_z (by omega)).trans (congrArg (fun w => zTo w _ _ _ _ _ _ _ _ _ _) ((zput_sw (by omega)).trans (congrArg (fun z => zput z _ _) ((zput_sw (by omega)).trans (congrArg (fun z => zput z _ _) zput_zput)))))) ?_
  refine hV.aload 8 dL_isAhead_112 rfl ?_
  refine hV.aload 2 dL_isAhead_114 rfl ?_
  refine hV.callS1 (rest := []) dL_isAhead_116 (c_L_copy G (M := 35) (f := k) (f2 := k3) ((To_out (by omega)).trans ((zput_ne (by omega)).trans ((zput_ne (by omega)).trans ((zput_ne (by omega)).trans hk)))) ((To_out (by omega)).trans ((zput_ne (by omega)).trans zput_at)) (by omega) (by decide)) my_L_copy ks_L_71 rfl rfl (Nat.le_of_ble_eq_true rfl) (Nat.le_of_ble_eq_true rfl) (Nat.le_of_ble_eq_true rfl) (Nat.le_of_ble_eq_true rfl) (Nat.le_of_ble_eq_true rfl) (st2 := []) (k2 := 3) (g2 := 62) rfl rfl rfl ?_
  refine zHeap (h2 := zTo (zput (zput (zput h n (some (.inl (19, .inl (cpz g3 g 19))))) (n + 1) (some (.inl (35, .inl (cpz k3 k 35))))) (n + 2) (some (.inl (8, .inl t3)))) a β τ4 o s rf φ c π sn) ((To_z (by omega)).trans (congrArg (fun w => zTo w _ _ _ _ _ _ _ _ _ _) ((zput_sw (by omega)).trans (congrArg (fun z => zput z _ _) zput_zput)))) ?_
  refine hV.iconst (v := 0) dL_isAhead_119 (by decide) ?_
  refine hV.istore (ls2 := [(10, .int 0), (9, .int b3), (8, .ref (n + 2)), (7, .ref (n + 1)), (6, .ref n), (0, .ref a), (1, .int (nI c1)), (2, .ref (a + 31)), (3, .ref (a + 32)), (4, .ref (a + 33)), (5, .ref (a + 34))]) dL_isAhead_120 (by decide) rfl ?_
  obtain ⟨τ5, hτ5⟩ : ∃ w : zB, w = τ4 := ⟨_, rfl⟩
  rw [← hτ5]
  have loop : ∀ (r m : Nat) (g4 k4 t4 : Nat → Int32) (zz : zZ), m + r = 201 → (ltN c1 201 (z, 0) = ltN c1 r (zz, m)) → (VG zz g4) → (VK zz k4) → (VP zz pins) → (ZI (B + m) zz) → (VI zz) → V 122 [(10, .int (nI m)), (0, .ref a), (1, .int (nI c1)), (2, .ref (a + 31)), (3, .ref (a + 32)), (4, .ref (a + 33)), (5, .ref (a + 34)), (6, .ref n), (7, .ref (n + 1)), (8, .ref (n + 2))] [] (zTo (zput (zput (zput h n (some (.inl (19, .inl g4)))) (n + 1) (some (.inl (35, .inl k4)))) (n + 2) (some (.inl (8, .inl t4)))) a β τ5 o s rf φ c π sn) (n + 3) 3 62 := by
    intro r
    induction r with
    | zero =>
      intro m g4 k4 t4 zz hm he vg4 vk4 vp4 hz4 hv4
      refine hV.aload 7 dL_isAhead_122 rfl ?_
      refine hV.bipush (v := 9) dL_isAhead_124 (by decide) ?_
      refine hV.iald (j := 9) dL_isAhead_126 ((To_out (by omega)).trans ((zput_ne (by omega)).trans ((zput_ne (by omega)).trans zput_at))) ⟨by decide, by decide⟩ (by decide) ?_
      by_cases c127_5 : (g4 9) = 0
      · refine hV.if_ne_f (tgt := 156) dL_isAhead_127 (by decide) c127_5 ?_
        refine hV.iload 0 dL_isAhead_130 rfl ?_
        refine hV.sipush (v := 201) dL_isAhead_132 (by decide) ?_
        refine hV.icmp_ge_t (tgt := 156) dL_isAhead_135 (by decide) ((nI_leI (a := 201) (b := m) (by omega) (by omega)).mpr (by omega)) ?_
        have hend := tu_end (τ := τ5) hR hc he (Or.inl rfl)
        refine hV.pick [0, 1, 2] (ls2 := [(10, .int (nI m)), (0, .ref a), (1, .int (nI c1))]) rfl ?_
        refine hV.aload_n 1 dL_isAhead_156 rfl ?_
        refine hV.iload_n 2 dL_isAhead_157 rfl ?_
        refine hV.callV3 (rest := []) dL_isAhead_158 (c_X4_untilOpen G (τ := τ5) (RB.pin hR) (c1 := c1) (by omega)) my_X4_untilOpen kv_L_82 To_o rfl rfl rfl (Nat.le_of_ble_eq_true rfl) (Nat.le_of_ble_eq_true rfl) (Nat.le_of_ble_eq_true rfl) (Nat.le_of_ble_eq_true rfl) (Nat.le_of_ble_eq_true rfl) (st2 := [.int (tuV β τ5 c1)]) (k2 := 3) (g2 := 62) rfl rfl rfl (fun h6 n6 hn6 hs6 => ?_)
        obtain ⟨ta6, rfl, rfl⟩ := hs6
        refine hV.iload 0 dL_isAhead_161 rfl ?_
        refine hV.sipush (v := 200) dL_isAhead_163 (by decide) ?_
        by_cases c166_7 : m ≤ 200
        · refine hV.icmp_le_t (tgt := 173) dL_isAhead_166 (by decide) ((nI_leI (a := m) (b := 200) (by omega) (by omega)).mpr c166_7) ?_
          refine hV.iload 0 dL_isAhead_173 rfl ?_
          refine hV.icmp_ne_f (tgt := 182) dL_isAhead_175 (by decide) (hend.trans (if_neg (by omega))) ?_
          refine hV.iconst (v := 1) dL_isAhead_178 (by decide) ?_
          refine hV.goto (tgt := 183) dL_isAhead_179 (by decide) ?_
          exact hE.1 dL_isAhead_183 rfl rfl (Nat.le_of_ble_eq_true rfl) (Nat.le_of_ble_eq_true rfl) (zRTi rfl ⟨_, _, rfl, fun q hq => (zput_ne (by omega)).trans ((zput_ne (by omega)).trans (zput_ne (by omega))), rfl⟩)
        · refine hV.icmp_le_f (tgt := 173) dL_isAhead_166 (by decide) (fun q => absurd ((nI_leI (a := m) (b := 200) (by omega) (by omega)).mp q) c166_7) ?_
          refine hV.iconst (v := (-1)) dL_isAhead_169 (by decide) ?_
          refine hV.goto (tgt := 175) dL_isAhead_170 (by decide) ?_
          refine hV.icmp_ne_f (tgt := 182) dL_isAhead_175 (by decide) (hend.trans (if_pos (by omega))) ?_
          refine hV.iconst (v := 1) dL_isAhead_178 (by decide) ?_
          refine hV.goto (tgt := 183) dL_isAhead_179 (by decide) ?_
          exact hE.1 dL_isAhead_183 rfl rfl (Nat.le_of_ble_eq_true rfl) (Nat.le_of_ble_eq_true rfl) (zRTi rfl ⟨_, _, rfl, fun q hq => (zput_ne (by omega)).trans ((zput_ne (by omega)).trans (zput_ne (by omega))), rfl⟩)
      · refine hV.if_ne_t (tgt := 156) dL_isAhead_127 (by decide) c127_5 ?_
        have hend := tu_end (τ := τ5) hR hc he (Or.inr (fun e => c127_5 ((vg4.at (k := 10) (by omega) (by rfl)).trans e)))
        refine hV.pick [0, 1, 2] (ls2 := [(10, .int (nI m)), (0, .ref a), (1, .int (nI c1))]) rfl ?_
        refine hV.aload_n 1 dL_isAhead_156 rfl ?_
        refine hV.iload_n 2 dL_isAhead_157 rfl ?_
        refine hV.callV3 (rest := []) dL_isAhead_158 (c_X4_untilOpen G (τ := τ5) (RB.pin hR) (c1 := c1) (by omega)) my_X4_untilOpen kv_L_82 To_o rfl rfl rfl (Nat.le_of_ble_eq_true rfl) (Nat.le_of_ble_eq_true rfl) (Nat.le_of_ble_eq_true rfl) (Nat.le_of_ble_eq_true rfl) (Nat.le_of_ble_eq_true rfl) (st2 := [.int (tuV β τ5 c1)]) (k2 := 3) (g2 := 62) rfl rfl rfl (fun h8 n8 hn8 hs8 => ?_)
        obtain ⟨ta8, rfl, rfl⟩ := hs8
        refine hV.iload 0 dL_isAhead_161 rfl ?_
        refine hV.sipush (v := 200) dL_isAhead_163 (by decide) ?_
        by_cases c166_9 : m ≤ 200
        · refine hV.icmp_le_t (tgt := 173) dL_isAhead_166 (by decide) ((nI_leI (a := m) (b := 200) (by omega) (by omega)).mpr c166_9) ?_
          refine hV.iload 0 dL_isAhead_173 rfl ?_
          refine hV.icmp_ne_f (tgt := 182) dL_isAhead_175 (by decide) (hend.trans (if_neg (by omega))) ?_
          refine hV.iconst (v := 1) dL_isAhead_178 (by decide) ?_
          refine hV.goto (tgt := 183) dL_isAhead_179 (by decide) ?_
          exact hE.1 dL_isAhead_183 rfl rfl (Nat.le_of_ble_eq_true rfl) (Nat.le_of_ble_eq_true rfl) (zRTi rfl ⟨_, _, rfl, fun q hq => (zput_ne (by omega)).trans ((zput_ne (by omega)).trans (zput_ne (by omega))), rfl⟩)
        · refine hV.icmp_le_f (tgt := 173) dL_isAhead_166 (by decide) (fun q => absurd ((nI_leI (a := m) (b := 200) (by omega) (by omega)).mp q) c166_9) ?_
          refine hV.iconst (v := (-1)) dL_isAhead_169 (by decide) ?_
          refine hV.goto (tgt := 175) dL_isAhead_170 (by decide) ?_
          refine hV.icmp_ne_f (tgt := 182) dL_isAhead_175 (by decide) (hend.trans (if_pos (by omega))) ?_
          refine hV.iconst (v := 1) dL_isAhead_178 (by decide) ?_
          refine hV.goto (tgt := 183) dL_isAhead_179 (by decide) ?_
          exact hE.1 dL_isAhead_183 rfl rfl (Nat.le_of_ble_eq_true rfl) (Nat.le_of_ble_eq_true rfl) (zRTi rfl ⟨_, _, rfl, fun q hq => (zput_ne (by omega)).trans ((zput_ne (by omega)).trans (zput_ne (by omega))), rfl⟩)
    | succ r ih =>
      intro m g4 k4 t4 zz hm he vg4 vk4 vp4 hz4 hv4
      refine hV.aload 7 dL_isAhead_122 rfl ?_
      refine hV.bipush (v := 9) dL_isAhead_124 (by decide) ?_
      refine hV.iald (j := 9) dL_isAhead_126 ((To_out (by omega)).trans ((zput_ne (by omega)).trans ((zput_ne (by omega)).trans zput_at))) ⟨by decide, by decide⟩ (by decide) ?_
      by_cases c127_10 : (g4 9) = 0
      · refine hV.if_ne_f (tgt := 156) dL_isAhead_127 (by decide) c127_10 ?_
        refine hV.iload 0 dL_isAhead_130 rfl ?_
        refine hV.sipush (v := 201) dL_isAhead_132 (by decide) ?_
        refine hV.icmp_ge_f (tgt := 156) dL_isAhead_135 (by decide) (fun q => absurd ((nI_leI (a := 201) (b := m) (by omega) (by omega)).mp q) (by omega)) ?_
        refine hV.iload_n 2 dL_isAhead_138 rfl ?_
        refine hV.aload 7 dL_isAhead_139 rfl ?_
        refine hV.aload_n 4 dL_isAhead_141 rfl ?_
        refine hV.aload 8 dL_isAhead_142 rfl ?_
        refine hV.aload 9 dL_isAhead_144 rfl ?_
        refine hV.callS1 (rest := []) dL_isAhead_146 (c_L_launched G (g := g4) (pins := pins) (k := k4) (t := t4) (c := c1) (by omega) ((To_out (by omega)).trans ((zput_ne (by omega)).trans ((zput_ne (by omega)).trans zput_at))) ((To_out (by omega)).trans ((zput_ne (by omega)).trans ((zput_ne (by omega)).trans ((zput_ne (by omega)).trans hp)))) ((To_out (by omega)).trans ((zput_ne (by omega)).trans zput_at)) ((To_out (by omega)).trans zput_at) (by omega) hpin) my_L_launched ks_L_75 rfl rfl (Nat.le_of_ble_eq_true rfl) (Nat.le_of_ble_eq_true rfl) (Nat.le_of_ble_eq_true rfl) (Nat.le_of_ble_eq_true rfl) (Nat.le_of_ble_eq_true rfl) (st2 := [.int (lV pins g4 k4 t4 c1)]) (k2 := 3) (g2 := 62) rfl rfl rfl ?_
        refine zHeap (h2 := zTo (zput (zput (zput h n (some (.inl (19, .inl (lG pins g4 k4 t4 c1))))) (n + 1) (some (.inl (35, .inl (lK pins g4 k4 t4 c1))))) (n + 2) (some (.inl (8, .inl (lT pins g4 t4 c1))))) a β τ5 o s rf φ c π sn) ((congrArg (fun w => zput (zput (w) _ _) _ _) ((To_z (by omega)).trans (congrArg (fun w => zTo w _ _ _ _ _ _ _ _ _ _) ((zput_sw (by omega)).trans (congrArg (fun z => zput z _ _) ((zput_sw (by omega)).trans (congrArg (fun z => zput z _ _) zput_zput))))))).trans ((congrArg (fun w => zput (w) _ _) ((To_z (by omega)).trans (congrArg (fun w => zTo w _ _ _ _ _ _ _ _ _ _) ((zput_sw (by omega)).trans (congrArg (fun z => zput z _ _) zput_zput))))).trans ((To_z (by omega)).trans (congrArg (fun w => zTo w _ _ _ _ _ _ _ _ _ _) zput_zput)))) ?_
        refine hV.pop dL_isAhead_149 rfl ?_
        refine hV.iinc 0 (v := nI (m + 1)) (ls2 := [(10, .int (nI (m + 1))), (0, .ref a), (1, .int (nI c1)), (2, .ref (a + 31)), (3, .ref (a + 32)), (4, .ref (a + 33)), (5, .ref (a + 34)), (6, .ref n), (7, .ref (n + 1)), (8, .ref (n + 2))]) dL_isAhead_150 rfl (nI_1 _) (by decide) rfl ?_
        refine hV.goto (tgt := 122) dL_isAhead_153 (by decide) ?_
        exact ih (m + 1) _ _ _ _ (by omega) (lt_next he ((vg4.at (k := 10) (by omega) (by rfl)).symm.trans c127_10)) (V_lchN hz4 hv4 vg4 vp4 vk4 hc).1 (V_lchN (t := t4) hz4 hv4 vg4 vp4 vk4 hc).2.2.1 (V_lchN (t := t4) (g := g4) (k := k4) hz4 hv4 vg4 vp4 vk4 hc).2.1 (ZI_lch hz4 hc) (VI_lch hv4 hc)
      · refine hV.if_ne_t (tgt := 156) dL_isAhead_127 (by decide) c127_10 ?_
        have hend := tu_end (τ := τ5) hR hc he (Or.inr (fun e => c127_10 ((vg4.at (k := 10) (by omega) (by rfl)).trans e)))
        refine hV.pick [0, 1, 2] (ls2 := [(10, .int (nI m)), (0, .ref a), (1, .int (nI c1))]) rfl ?_
        refine hV.aload_n 1 dL_isAhead_156 rfl ?_
        refine hV.iload_n 2 dL_isAhead_157 rfl ?_
        refine hV.callV3 (rest := []) dL_isAhead_158 (c_X4_untilOpen G (τ := τ5) (RB.pin hR) (c1 := c1) (by omega)) my_X4_untilOpen kv_L_82 To_o rfl rfl rfl (Nat.le_of_ble_eq_true rfl) (Nat.le_of_ble_eq_true rfl) (Nat.le_of_ble_eq_true rfl) (Nat.le_of_ble_eq_true rfl) (Nat.le_of_ble_eq_true rfl) (st2 := [.int (tuV β τ5 c1)]) (k2 := 3) (g2 := 62) rfl rfl rfl (fun h11 n11 hn11 hs11 => ?_)
        obtain ⟨ta11, rfl, rfl⟩ := hs11
        refine hV.iload 0 dL_isAhead_161 rfl ?_
        refine hV.sipush (v := 200) dL_isAhead_163 (by decide) ?_
        by_cases c166_12 : m ≤ 200
        · refine hV.icmp_le_t (tgt := 173) dL_isAhead_166 (by decide) ((nI_leI (a := m) (b := 200) (by omega) (by omega)).mpr c166_12) ?_
          refine hV.iload 0 dL_isAhead_173 rfl ?_
          refine hV.icmp_ne_f (tgt := 182) dL_isAhead_175 (by decide) (hend.trans (if_neg (by omega))) ?_
          refine hV.iconst (v := 1) dL_isAhead_178 (by decide) ?_
          refine hV.goto (tgt := 183) dL_isAhead_179 (by decide) ?_
          exact hE.1 dL_isAhead_183 rfl rfl (Nat.le_of_ble_eq_true rfl) (Nat.le_of_ble_eq_true rfl) (zRTi rfl ⟨_, _, rfl, fun q hq => (zput_ne (by omega)).trans ((zput_ne (by omega)).trans (zput_ne (by omega))), rfl⟩)
        · refine hV.icmp_le_f (tgt := 173) dL_isAhead_166 (by decide) (fun q => absurd ((nI_leI (a := m) (b := 200) (by omega) (by omega)).mp q) c166_12) ?_
          refine hV.iconst (v := (-1)) dL_isAhead_169 (by decide) ?_
          refine hV.goto (tgt := 175) dL_isAhead_170 (by decide) ?_
          refine hV.icmp_ne_f (tgt := 182) dL_isAhead_175 (by decide) (hend.trans (if_pos (by omega))) ?_
          refine hV.iconst (v := 1) dL_isAhead_178 (by decide) ?_
          refine hV.goto (tgt := 183) dL_isAhead_179 (by decide) ?_
          exact hE.1 dL_isAhead_183 rfl rfl (Nat.le_of_ble_eq_true rfl) (Nat.le_of_ble_eq_true rfl) (zRTi rfl ⟨_, _, rfl, fun q hq => (zput_ne (by omega)).trans ((zput_ne (by omega)).trans (zput_ne (by omega))), rfl⟩)
  refine hV.pick [0, 5, 6, 7, 8, 9, 10, 4, 3, 2] (ls2 := [(10, .int 0), (0, .ref a), (1, .int (nI c1)), (2, .ref (a + 31)), (3, .ref (a + 32)), (4, .ref (a + 33)), (5, .ref (a + 34)), (6, .ref n), (7, .ref (n + 1)), (8, .ref (n + 2))]) rfl ?_
  exact loop (201) 0 _ _ _ z (by omega) rfl vg.cp vk.cp vp hR.2.2 hI

