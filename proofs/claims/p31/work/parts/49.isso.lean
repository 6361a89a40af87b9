/-! The law's look at everything -/
theorem To_z {h : zH} {a : Nat} {β τ : zB} {o s : Int32} {rf : Nat → Option Nat} {φ : Nat → Int32} {c π : zB} {sn : Option Nat} {q : Nat} {x : zC} (hq : a + 30 < q) : zput (zTo h a β τ o s rf φ c π sn) q x = zTo (zput h q x) a β τ o s rf φ c π sn := by
  funext p
  by_cases e : p = q
  · subst e
    rw [To_out (Or.inr hq), zput_at, zput_at]
  · rw [zput_ne e]
    exact To_q (zobj_cg (zobj_cg (zobj_cg (zobj_cg (zput_ne e).symm))))
theorem num_gi {β : zB} {z : zZ} (h : RV β z) {i : Nat} (hi : i < 16) : β 0 i = z (gi i) := by
  unfold gi
  by_cases c1 : i < 13
  · rw [if_pos c1]
    exact h.n c1
  · rw [if_neg c1]
    by_cases c2 : i = 13
    · subst c2
      exact h.x
    · rw [if_neg c2, if_pos hi]
      rcases (show i = 14 ∨ i = 15 by omega) with e | e <;> subst e
      · exact h.s1
      · exact h.s2
theorem reel_gi {β : zB} {z : zZ} {g : Nat → Int32} (h : RV β z) (vg : VG z g) {i : Nat} (hi : i < 3) : β 9 i = g (16 + i) := by
  rw [vg _ (by omega), h.w hi]
  unfold gi
  rw [if_neg (by omega), if_neg (by omega), if_neg (by omega)]
  rw [show 16 + i + 1 = 17 + i by omega]
theorem tell_k {B : Nat} {β : zB} {z : zZ} {k : Nat → Int32} (h : RB B β z) (vk : VK z k) {p w : Nat} (hp : p < 7) (hw : w < 5) (h2 : w ≠ 2) : tellV β p w = k (5 * p + w) := by
  rw [tell_pk h hp hw, vk _ (by omega)]
  unfold pkN
  rw [if_neg h2, show 132 + 5 * p + w = 132 + (5 * p + w) by omega]
theorem tell_o {B : Nat} {β : zB} {z : zZ} {g k : Nat → Int32} (h : RB B β z) (vg : VG z g) (vk : VK z k) {p : Nat} (hp : p < 7) : tellV β p 2 = opL g k p := by
  rw [tell_pk h hp (by omega), opL_eq vg vk hp (h.2.2.2.2.2.2.1 p hp).1]
  rfl
theorem opL_01 {B : Nat} {β : zB} {z : zZ} {g k : Nat → Int32} (h : RB B β z) (vg : VG z g) (vk : VK z k) {p : Nat} (hp : p < 7) (hn : ¬ opL g k p = 0) : opL g k p = 1 := by
  rw [opL_eq vg vk hp (h.2.2.2.2.2.2.1 p hp).1] at hn ⊢
  exact (isOpenZ_01 z p).resolve_left hn
theorem nI_modL {i m : Nat} (hi : i < 2 ^ 31) (hm : m < 2 ^ 31) : nI i - nI i / nI m * nI m = nI (i % m) := by
  rw [nI_div hi hm, zI_mul, zI_sub (Nat.div_mul_le_self _ _)]
  refine congrArg nI ?_
  have := Nat.div_add_mod i m
  rw [Nat.mul_comm] at this
  omega
theorem bp_s {z : zZ} {pins : Nat → Int32} (vp : VP z pins) {i : Nat} (hi : i < 56) {x : Nat} (hx : x = if pins i = 0 then 0 else 1) : bpC z i + x = bpC z (i + 1) := by
  show _ = bpC z i + _
  rw [hx, vp i hi]
theorem hand_ok {z : zZ} {g : Nat → Int32} (hI : VI z) (vg : VG z g) : g 0 = g 1 + g 3 - g 2 := by
  rw [vg 0 (by omega), vg 1 (by omega), vg 3 (by omega), vg 2 (by omega)]
  exact hI.2.2.2
theorem pb_0 {B : Nat} {β : zB} {z : zZ} {g : Nat → Int32} (h : RB B β z) (hB : B < 2 ^ 27) (vg : VG z g) (c : g 2 = 0) : Op.cmpValue (FP.dcmp (pbV β) FP.dconst0) CmpOp.l = 0 := by
  have e : z 3 = 0 := by rw [← c, vg 2 (by omega)]; rfl
  have e2 : shV z = FP.dconst0 := by unfold shV; rw [if_pos e]
  have e3 := sh_cmp h.2.2 hB
  rw [(pb_sh h hB).1, show FP.dcmp (shV z) FP.dconst0 = FP.dcmp (shV z) (shV z) by rw [e2], e3]
  rfl
theorem pb_1 {B : Nat} {β : zB} {z : zZ} {g : Nat → Int32} (h : RB B β z) (hB : B < 2 ^ 27) (vg : VG z g) (c : ¬ g 2 = 0) : Op.cmpValue (FP.dcmp (pbV β) (FP.ddiv (FP.i2d (g 3)) (FP.i2d (g 2)))) CmpOp.l = 0 := by
  have c3 : g 2 = z 3 := vg 2 (by omega)
  have c4 : g 3 = z 4 := vg 3 (by omega)
  have e2 : shV z = FP.ddiv (FP.i2d (g 3)) (FP.i2d (g 2)) := by unfold shV; rw [if_neg (by rw [← c3]; exact c), c3, c4]
  have e3 := sh_cmp h.2.2 hB
  rw [(pb_sh h hB).1, ← e2, e3]
  rfl
theorem pb_n {B : Nat} {β : zB} {z : zZ} {g : Nat → Int32} (h : RB B β z) (hB : B < 2 ^ 27) (vg : VG z g) (c : ¬ g 2 = 0) : vf_n64 (FP.ddiv (FP.i2d (g 3)) (FP.i2d (g 2))) := by
  have c3 : g 2 = z 3 := vg 2 (by omega)
  have c4 : g 3 = z 4 := vg 3 (by omega)
  rw [c3, c4]
  exact (sh_cases h.2.2 hB).2 (by rw [← c3]; exact c)
theorem pb_nn {B : Nat} {β : zB} {z : zZ} (h : RB B β z) (hB : B < 2 ^ 27) : ¬ β 0 2 ≤ 0 → vf_n64 (FP.ddiv (FP.i2d (β 0 3)) (FP.i2d (β 0 2))) := fun q => by
  have e3 : β 0 2 = z 3 := h.1.n (by omega)
  have e4 : β 0 3 = z 4 := h.1.n (by omega)
  rw [e3, e4]
  exact (sh_cases h.2.2 hB).2 (fun e => q ((pb_sh h hB).2.mpr e))
set_option maxRecDepth 100000 in
set_option maxHeartbeats 1000000 in
theorem c_L_isSo {l : Launch} {D : va_G} {base : Nat} (G : l.stackTraces = false) {h : zH} {n : Nat} {a : Nat} {β τ : zB} {rf : Nat → Option Nat} {φ : Nat → Int32} {c π : zB} {sn : Option Nat} {o s : Int32} {B : Nat} {z : zZ} {g pins k t : Nat → Int32} (hg : h (a + 31) = some (.inl (19, .inl g))) (hp : h (a + 32) = some (.inl (56, .inl pins))) (hk : h (a + 33) = some (.inl (35, .inl k))) (ht : h (a + 34) = some (.inl (8, .inl t))) (hR : RB B β z) (hI : VI z) (vg : VG z g) (vp : VP z pins) (vk : VK z k) (vt : VT z t) (hB : B < 2 ^ 27) :
    zCt l D base 9 yL_isSo w_L_isSo [.ref a, .ref (a + 31), .ref (a + 32), .ref (a + 33), .ref (a + 34)] (zTo h a β τ o s rf φ c π sn) n 0 0 (zR (some (.int 1)) (zTo h a β τ o s rf φ c π sn) (n)) := by
  refine zCt.of G (by decide) (Nat.le_of_ble_eq_true rfl) (fun Sx V X hV hE hX => ?_)
  show V 0 [(0, .ref a), (1, .ref (a + 31)), (2, .ref (a + 32)), (3, .ref (a + 33)), (4, .ref (a + 34))] [] (zTo h a β τ o s rf φ c π sn) n 0 0
  refine hV.iconst (v := 0) dL_isSo_0 (by decide) ?_
  refine hV.istore (ls2 := [(5, .int 0), (0, .ref a), (1, .ref (a + 31)), (2, .ref (a + 32)), (3, .ref (a + 33)), (4, .ref (a + 34))]) dL_isSo_1 (by decide) rfl ?_
  refine hV.iconst (v := 0) dL_isSo_3 (by decide) ?_
  refine hV.istore (ls2 := [(6, .int 0), (5, .int 0), (0, .ref a), (1, .ref (a + 31)), (2, .ref (a + 32)), (3, .ref (a + 33)), (4, .ref (a + 34))]) dL_isSo_4 (by decide) rfl ?_
  have loop : ∀ (r i : Nat) , i + r = 56 → V 6 [(5, .int (nI (bpC z i))), (6, .int (nI i)), (0, .ref a), (1, .ref (a + 31)), (2, .ref (a + 32)), (3, .ref (a + 33)), (4, .ref (a + 34))] [] (zTo h a β τ o s rf φ c π sn) n 0 0 := by
    intro r
    induction r with
    | zero =>
      intro i  hi 
      refine hV.iload 1 dL_isSo_6 rfl ?_
      refine hV.bipush (v := 56) dL_isSo_8 (by decide) ?_
      refine hV.icmp_ge_t (tgt := 61) dL_isSo_10 (by decide) ((nI_leI (a := 56) (b := i) (by omega) (by omega)).mpr (by omega)) ?_
      refine hV.iconst (v := 0) dL_isSo_61 (by decide) ?_
      refine hV.istore (ls2 := [(6, .int 0), (5, .int (nI (bpC z i))), (0, .ref a), (1, .ref (a + 31)), (2, .ref (a + 32)), (3, .ref (a + 33)), (4, .ref (a + 34))]) dL_isSo_62 (by decide) rfl ?_
      have ei : i = 56 := by omega
      subst ei
      refine hV.pick [1, 0, 2, 3, 4, 5, 6] (ls2 := [(5, .int (nI (bpC z 56))), (6, .int 0), (0, .ref a), (1, .ref (a + 31)), (2, .ref (a + 32)), (3, .ref (a + 33)), (4, .ref (a + 34))]) rfl ?_
      have loop64 : ∀ (r64 j64 : Nat) , j64 + r64 = 16 → V 64 [(5, .int (nI (bpC z 56))), (6, .int (nI j64)), (0, .ref a), (1, .ref (a + 31)), (2, .ref (a + 32)), (3, .ref (a + 33)), (4, .ref (a + 34))] [] (zTo h a β τ o s rf φ c π sn) n 0 0 := by
        intro r64
        induction r64 with
        | zero =>
          intro j64  hj64 
          refine hV.iload 1 dL_isSo_64 rfl ?_
          refine hV.bipush (v := 16) dL_isSo_66 (by decide) ?_
          refine hV.icmp_ge_t (tgt := 92) dL_isSo_68 (by decide) ((nI_leI (a := 16) (b := j64) (by omega) (by omega)).mpr (by omega)) ?_
          refine hV.iconst (v := 0) dL_isSo_92 (by decide) ?_
          refine hV.istore (ls2 := [(6, .int 0), (5, .int (nI (bpC z 56))), (0, .ref a), (1, .ref (a + 31)), (2, .ref (a + 32)), (3, .ref (a + 33)), (4, .ref (a + 34))]) dL_isSo_93 (by decide) rfl ?_
          refine hV.pick [1, 0, 2, 3, 4, 5, 6] (ls2 := [(5, .int (nI (bpC z 56))), (6, .int 0), (0, .ref a), (1, .ref (a + 31)), (2, .ref (a + 32)), (3, .ref (a + 33)), (4, .ref (a + 34))]) rfl ?_
          have loop95 : ∀ (r95 j95 : Nat) , j95 + r95 = 3 → V 95 [(5, .int (nI (bpC z 56))), (6, .int (nI j95)), (0, .ref a), (1, .ref (a + 31)), (2, .ref (a + 32)), (3, .ref (a + 33)), (4, .ref (a + 34))] [] (zTo h a β τ o s rf φ c π sn) n 0 0 := by
            intro r95
            induction r95 with
            | zero =>
              intro j95  hj95 
              refine hV.iload 1 dL_isSo_95 rfl ?_
              refine hV.iconst (v := 3) dL_isSo_97 (by decide) ?_
              refine hV.icmp_ge_t (tgt := 125) dL_isSo_98 (by decide) ((nI_leI (a := 3) (b := j95) (by omega) (by omega)).mpr (by omega)) ?_
              refine hV.iconst (v := 0) dL_isSo_125 (by decide) ?_
              refine hV.istore (ls2 := [(6, .int 0), (5, .int (nI (bpC z 56))), (0, .ref a), (1, .ref (a + 31)), (2, .ref (a + 32)), (3, .ref (a + 33)), (4, .ref (a + 34))]) dL_isSo_126 (by decide) rfl ?_
              refine hV.pick [1, 0, 2, 3, 4, 5, 6] (ls2 := [(5, .int (nI (bpC z 56))), (6, .int 0), (0, .ref a), (1, .ref (a + 31)), (2, .ref (a + 32)), (3, .ref (a + 33)), (4, .ref (a + 34))]) rfl ?_
              have loop128 : ∀ (r128 j128 : Nat) , j128 + r128 = 8 → V 128 [(5, .int (nI (bpC z 56))), (6, .int (nI j128)), (0, .ref a), (1, .ref (a + 31)), (2, .ref (a + 32)), (3, .ref (a + 33)), (4, .ref (a + 34))] [] (zTo h a β τ o s rf φ c π sn) n 0 0 := by
                intro r128
                induction r128 with
                | zero =>
                  intro j128  hj128 
                  refine hV.iload 1 dL_isSo_128 rfl ?_
                  refine hV.bipush (v := 8) dL_isSo_130 (by decide) ?_
                  refine hV.icmp_ge_t (tgt := 157) dL_isSo_132 (by decide) ((nI_leI (a := 8) (b := j128) (by omega) (by omega)).mpr (by omega)) ?_
                  refine hV.iconst (v := 0) dL_isSo_157 (by decide) ?_
                  refine hV.istore (ls2 := [(6, .int 0), (5, .int (nI (bpC z 56))), (0, .ref a), (1, .ref (a + 31)), (2, .ref (a + 32)), (3, .ref (a + 33)), (4, .ref (a + 34))]) dL_isSo_158 (by decide) rfl ?_
                  refine hV.pick [1, 0, 2, 3, 4, 5, 6] (ls2 := [(5, .int (nI (bpC z 56))), (6, .int 0), (0, .ref a), (1, .ref (a + 31)), (2, .ref (a + 32)), (3, .ref (a + 33)), (4, .ref (a + 34))]) rfl ?_
                  have loop160 : ∀ (r160 j160 : Nat) , j160 + r160 = 7 → V 160 [(5, .int (nI (bpC z 56))), (6, .int (nI j160)), (0, .ref a), (1, .ref (a + 31)), (2, .ref (a + 32)), (3, .ref (a + 33)), (4, .ref (a + 34))] [] (zTo h a β τ o s rf φ c π sn) n 0 0 := by
                    intro r160
                    induction r160 with
                    | zero =>
                      intro j160  hj160 
                      refine hV.iload 1 dL_isSo_160 rfl ?_
                      refine hV.bipush (v := 7) dL_isSo_162 (by decide) ?_
                      refine hV.icmp_ge_t (tgt := 270) dL_isSo_164 (by decide) ((nI_leI (a := 7) (b := j160) (by omega) (by omega)).mpr (by omega)) ?_
                      refine hV.aload_n 2 dL_isSo_270 rfl ?_
                      refine hV.bipush (v := 16) dL_isSo_271 (by decide) ?_
                      refine hV.callV1 (rest := []) dL_isSo_273 (c_X4_count G (w := 16) (by omega)) my_X4_count kv_L_100 To_o rfl rfl rfl (Nat.le_of_ble_eq_true rfl) (Nat.le_of_ble_eq_true rfl) (Nat.le_of_ble_eq_true rfl) (Nat.le_of_ble_eq_true rfl) (Nat.le_of_ble_eq_true rfl) (st2 := [.int (if 16 = 17 then s else β 0 16)]) (k2 := 0) (g2 := 0) rfl rfl rfl ?_
                      refine hV.iload 0 dL_isSo_276 rfl ?_
                      refine hV.icmp_ne_f (tgt := 329) dL_isSo_278 (by decide) ((if_neg (by decide)).trans (RB_16 hR).1) ?_
                      refine hV.aload_n 2 dL_isSo_281 rfl ?_
                      refine hV.callV1 (rest := []) dL_isSo_282 (c_X4_payback G (pb_nn hR hB)) my_X4_payback kv_L_112 To_o rfl rfl rfl (Nat.le_of_ble_eq_true rfl) (Nat.le_of_ble_eq_true rfl) (Nat.le_of_ble_eq_true rfl) (Nat.le_of_ble_eq_true rfl) (Nat.le_of_ble_eq_true rfl) (st2 := [.double (pbV β)]) (k2 := 0) (g2 := 0) rfl rfl rfl ?_
                      refine hV.aload_n 3 dL_isSo_285 rfl ?_
                      refine hV.iconst (v := 2) dL_isSo_286 (by decide) ?_
                      refine hV.iald (j := 2) dL_isSo_287 ((To_out (by omega)).trans hg) ⟨by decide, by decide⟩ (by decide) ?_
                      by_cases c288_5 : (g 2) = 0
                      · refine hV.if_ne_f (tgt := 295) dL_isSo_288 (by decide) c288_5 ?_
                        refine hV.dconst0 dL_isSo_291 ?_
                        refine hV.goto (tgt := 304) dL_isSo_292 (by decide) ?_
                        refine hV.dcmp dL_isSo_304 ?_
                        refine hV.if_ne_f (tgt := 329) dL_isSo_305 (by decide) (pb_0 hR hB vg c288_5) ?_
                        refine hV.aload_n 3 dL_isSo_308 rfl ?_
                        refine hV.iconst (v := 0) dL_isSo_309 (by decide) ?_
                        refine hV.iald (j := 0) dL_isSo_310 ((To_out (by omega)).trans hg) ⟨by decide, by decide⟩ (by decide) ?_
                        refine hV.aload_n 3 dL_isSo_311 rfl ?_
                        refine hV.iconst (v := 1) dL_isSo_312 (by decide) ?_
                        refine hV.iald (j := 1) dL_isSo_313 ((To_out (by omega)).trans hg) ⟨by decide, by decide⟩ (by decide) ?_
                        refine hV.aload_n 3 dL_isSo_314 rfl ?_
                        refine hV.iconst (v := 3) dL_isSo_315 (by decide) ?_
                        refine hV.iald (j := 3) dL_isSo_316 ((To_out (by omega)).trans hg) ⟨by decide, by decide⟩ (by decide) ?_
                        refine hV.iadd dL_isSo_317 ?_
                        refine hV.aload_n 3 dL_isSo_318 rfl ?_
                        refine hV.iconst (v := 2) dL_isSo_319 (by decide) ?_
                        refine hV.iald (j := 2) dL_isSo_320 ((To_out (by omega)).trans hg) ⟨by decide, by decide⟩ (by decide) ?_
                        refine hV.isub dL_isSo_321 ?_
                        refine hV.icmp_ne_f (tgt := 329) dL_isSo_322 (by decide) (hand_ok hI vg) ?_
                        refine hV.iconst (v := 1) dL_isSo_325 (by decide) ?_
                        refine hV.goto (tgt := 330) dL_isSo_326 (by decide) ?_
                        exact hE.1 dL_isSo_330 rfl rfl (by decide) (by decide) (zRi rfl rfl rfl)
                      · refine hV.if_ne_t (tgt := 295) dL_isSo_288 (by decide) c288_5 ?_
                        refine hV.aload_n 3 dL_isSo_295 rfl ?_
                        refine hV.iconst (v := 3) dL_isSo_296 (by decide) ?_
                        refine hV.iald (j := 3) dL_isSo_297 ((To_out (by omega)).trans hg) ⟨by decide, by decide⟩ (by decide) ?_
                        refine hV.i2d dL_isSo_298 ?_
                        refine hV.aload_n 3 dL_isSo_299 rfl ?_
                        refine hV.iconst (v := 2) dL_isSo_300 (by decide) ?_
                        refine hV.iald (j := 2) dL_isSo_301 ((To_out (by omega)).trans hg) ⟨by decide, by decide⟩ (by decide) ?_
                        refine hV.i2d dL_isSo_302 ?_
                        refine hV.ddiv dL_isSo_303 (pb_n hR hB vg c288_5) ?_
                        refine hV.dcmp dL_isSo_304 ?_
                        refine hV.if_ne_f (tgt := 329) dL_isSo_305 (by decide) (pb_1 hR hB vg c288_5) ?_
                        refine hV.aload_n 3 dL_isSo_308 rfl ?_
                        refine hV.iconst (v := 0) dL_isSo_309 (by decide) ?_
                        refine hV.iald (j := 0) dL_isSo_310 ((To_out (by omega)).trans hg) ⟨by decide, by decide⟩ (by decide) ?_
                        refine hV.aload_n 3 dL_isSo_311 rfl ?_
                        refine hV.iconst (v := 1) dL_isSo_312 (by decide) ?_
                        refine hV.iald (j := 1) dL_isSo_313 ((To_out (by omega)).trans hg) ⟨by decide, by decide⟩ (by decide) ?_
                        refine hV.aload_n 3 dL_isSo_314 rfl ?_
                        refine hV.iconst (v := 3) dL_isSo_315 (by decide) ?_
                        refine hV.iald (j := 3) dL_isSo_316 ((To_out (by omega)).trans hg) ⟨by decide, by decide⟩ (by decide) ?_
                        refine hV.iadd dL_isSo_317 ?_
                        refine hV.aload_n 3 dL_isSo_318 rfl ?_
                        refine hV.iconst (v := 2) dL_isSo_319 (by decide) ?_
                        refine hV.iald (j := 2) dL_isSo_320 ((To_out (by omega)).trans hg) ⟨by decide, by decide⟩ (by decide) ?_
                        refine hV.isub dL_isSo_321 ?_
                        refine hV.icmp_ne_f (tgt := 329) dL_isSo_322 (by decide) (hand_ok hI vg) ?_
                        refine hV.iconst (v := 1) dL_isSo_325 (by decide) ?_
                        refine hV.goto (tgt := 330) dL_isSo_326 (by decide) ?_
                        exact hE.1 dL_isSo_330 rfl rfl (by decide) (by decide) (zRi rfl rfl rfl)
                    | succ r160 ih =>
                      intro j160  hj160 
                      refine hV.iload 1 dL_isSo_160 rfl ?_
                      refine hV.bipush (v := 7) dL_isSo_162 (by decide) ?_
                      refine hV.icmp_ge_f (tgt := 270) dL_isSo_164 (by decide) (fun q => absurd ((nI_leI (a := 7) (b := j160) (by omega) (by omega)).mp q) (by omega)) ?_
                      refine hV.aload_n 2 dL_isSo_167 rfl ?_
                      refine hV.iload 1 dL_isSo_168 rfl ?_
                      refine hV.iconst (v := 0) dL_isSo_170 (by decide) ?_
                      refine hV.callV1 (rest := []) dL_isSo_171 (c_X4_pocketOf G (p := j160) (w := 0) (by omega) (by omega)) my_X4_pocketOf kv_L_109 To_o rfl rfl rfl (Nat.le_of_ble_eq_true rfl) (Nat.le_of_ble_eq_true rfl) (Nat.le_of_ble_eq_true rfl) (Nat.le_of_ble_eq_true rfl) (Nat.le_of_ble_eq_true rfl) (st2 := [.int (tellV β j160 0)]) (k2 := 0) (g2 := 0) rfl rfl rfl ?_
                      refine hV.aload_n 5 dL_isSo_174 rfl ?_
                      refine hV.iconst (v := 5) dL_isSo_175 (by decide) ?_
                      refine hV.iload 1 dL_isSo_176 rfl ?_
                      refine hV.imulN (a := 5) (b := j160) dL_isSo_178 ?_
                      refine hV.iald (j := 5 * j160) dL_isSo_179 ((To_out (by omega)).trans hk) (zix_nI (by omega)) (by omega) ?_
                      refine hV.icmp_ne_f (tgt := 262) dL_isSo_180 (by decide) (tell_k hR vk (w := 0) (by omega) (by omega) (by omega)) ?_
                      refine hV.aload_n 2 dL_isSo_183 rfl ?_
                      refine hV.iload 1 dL_isSo_184 rfl ?_
                      refine hV.iconst (v := 1) dL_isSo_186 (by decide) ?_
                      refine hV.callV1 (rest := []) dL_isSo_187 (c_X4_pocketOf G (p := j160) (w := 1) (by omega) (by omega)) my_X4_pocketOf kv_L_109 To_o rfl rfl rfl (Nat.le_of_ble_eq_true rfl) (Nat.le_of_ble_eq_true rfl) (Nat.le_of_ble_eq_true rfl) (Nat.le_of_ble_eq_true rfl) (Nat.le_of_ble_eq_true rfl) (st2 := [.int (tellV β j160 1)]) (k2 := 0) (g2 := 0) rfl rfl rfl ?_
                      refine hV.aload_n 5 dL_isSo_190 rfl ?_
                      refine hV.iconst (v := 5) dL_isSo_191 (by decide) ?_
                      refine hV.iload 1 dL_isSo_192 rfl ?_
                      refine hV.imulN (a := 5) (b := j160) dL_isSo_194 ?_
                      refine hV.iconst (v := 1) dL_isSo_195 (by decide) ?_
                      refine hV.iaddN (a := 5 * j160) (b := 1) dL_isSo_196 ?_
                      refine hV.iald (j := (5 * j160) + 1) dL_isSo_197 ((To_out (by omega)).trans hk) (zix_nI (by omega)) (by omega) ?_
                      refine hV.icmp_ne_f (tgt := 262) dL_isSo_198 (by decide) (tell_k hR vk (w := 1) (by omega) (by omega) (by omega)) ?_
                      refine hV.aload_n 2 dL_isSo_201 rfl ?_
                      refine hV.iload 1 dL_isSo_202 rfl ?_
                      refine hV.iconst (v := 2) dL_isSo_204 (by decide) ?_
                      refine hV.callV1 (rest := []) dL_isSo_205 (c_X4_pocketOf G (p := j160) (w := 2) (by omega) (by omega)) my_X4_pocketOf kv_L_109 To_o rfl rfl rfl (Nat.le_of_ble_eq_true rfl) (Nat.le_of_ble_eq_true rfl) (Nat.le_of_ble_eq_true rfl) (Nat.le_of_ble_eq_true rfl) (Nat.le_of_ble_eq_true rfl) (st2 := [.int (tellV β j160 2)]) (k2 := 0) (g2 := 0) rfl rfl rfl ?_
                      refine hV.iload 1 dL_isSo_208 rfl ?_
                      refine hV.aload_n 3 dL_isSo_210 rfl ?_
                      refine hV.aload_n 5 dL_isSo_211 rfl ?_
                      refine hV.callS1 (rest := [.int (tellV β j160 2)]) dL_isSo_212 (c_L_isOpen G (g := g) (k := k) (p := j160) ((To_out (by omega)).trans hg) ((To_out (by omega)).trans hk) (by omega)) my_L_isOpen ks_L_67 rfl rfl (Nat.le_of_ble_eq_true rfl) (Nat.le_of_ble_eq_true rfl) (Nat.le_of_ble_eq_true rfl) (Nat.le_of_ble_eq_true rfl) (Nat.le_of_ble_eq_true rfl) (st2 := [.int (opL g k j160), .int (tellV β j160 2)]) (k2 := 0) (g2 := 0) rfl rfl rfl ?_
                      by_cases c215_6 : (opL g k j160) = 0
                      · refine hV.if_eq_t (tgt := 222) dL_isSo_215 (by decide) c215_6 ?_
                        refine hV.iconst (v := 0) dL_isSo_222 (by decide) ?_
                        refine hV.icmp_ne_f (tgt := 262) dL_isSo_223 (by decide) ((tell_o hR vg vk (by omega)).trans c215_6) ?_
                        refine hV.aload_n 2 dL_isSo_226 rfl ?_
                        refine hV.iload 1 dL_isSo_227 rfl ?_
                        refine hV.iconst (v := 3) dL_isSo_229 (by decide) ?_
                        refine hV.callV1 (rest := []) dL_isSo_230 (c_X4_pocketOf G (p := j160) (w := 3) (by omega) (by omega)) my_X4_pocketOf kv_L_109 To_o rfl rfl rfl (Nat.le_of_ble_eq_true rfl) (Nat.le_of_ble_eq_true rfl) (Nat.le_of_ble_eq_true rfl) (Nat.le_of_ble_eq_true rfl) (Nat.le_of_ble_eq_true rfl) (st2 := [.int (tellV β j160 3)]) (k2 := 0) (g2 := 0) rfl rfl rfl ?_
                        refine hV.aload_n 5 dL_isSo_233 rfl ?_
                        refine hV.iconst (v := 5) dL_isSo_234 (by decide) ?_
                        refine hV.iload 1 dL_isSo_235 rfl ?_
                        refine hV.imulN (a := 5) (b := j160) dL_isSo_237 ?_
                        refine hV.iconst (v := 3) dL_isSo_238 (by decide) ?_
                        refine hV.iaddN (a := 5 * j160) (b := 3) dL_isSo_239 ?_
                        refine hV.iald (j := (5 * j160) + 3) dL_isSo_240 ((To_out (by omega)).trans hk) (zix_nI (by omega)) (by omega) ?_
                        refine hV.icmp_ne_f (tgt := 262) dL_isSo_241 (by decide) (tell_k hR vk (w := 3) (by omega) (by omega) (by omega)) ?_
                        refine hV.aload_n 2 dL_isSo_244 rfl ?_
                        refine hV.iload 1 dL_isSo_245 rfl ?_
                        refine hV.iconst (v := 4) dL_isSo_247 (by decide) ?_
                        refine hV.callV1 (rest := []) dL_isSo_248 (c_X4_pocketOf G (p := j160) (w := 4) (by omega) (by omega)) my_X4_pocketOf kv_L_109 To_o rfl rfl rfl (Nat.le_of_ble_eq_true rfl) (Nat.le_of_ble_eq_true rfl) (Nat.le_of_ble_eq_true rfl) (Nat.le_of_ble_eq_true rfl) (Nat.le_of_ble_eq_true rfl) (st2 := [.int (tellV β j160 4)]) (k2 := 0) (g2 := 0) rfl rfl rfl ?_
                        refine hV.aload_n 5 dL_isSo_251 rfl ?_
                        refine hV.iconst (v := 5) dL_isSo_252 (by decide) ?_
                        refine hV.iload 1 dL_isSo_253 rfl ?_
                        refine hV.imulN (a := 5) (b := j160) dL_isSo_255 ?_
                        refine hV.iconst (v := 4) dL_isSo_256 (by decide) ?_
                        refine hV.iaddN (a := 5 * j160) (b := 4) dL_isSo_257 ?_
                        refine hV.iald (j := (5 * j160) + 4) dL_isSo_258 ((To_out (by omega)).trans hk) (zix_nI (by omega)) (by omega) ?_
                        refine hV.icmp_eq_t (tgt := 264) dL_isSo_259 (by decide) (tell_k hR vk (w := 4) (by omega) (by omega) (by omega)) ?_
                        refine hV.iinc 1 (v := nI (j160 + 1)) (ls2 := [(6, .int (nI (j160 + 1))), (5, .int (nI (bpC z 56))), (0, .ref a), (1, .ref (a + 31)), (2, .ref (a + 32)), (3, .ref (a + 33)), (4, .ref (a + 34))]) dL_isSo_264 rfl (nI_1 _) (by decide) rfl ?_
                        refine hV.goto (tgt := 160) dL_isSo_267 (by decide) ?_
                        refine hV.pick [1, 0, 2, 3, 4, 5, 6] (ls2 := [(5, .int (nI (bpC z 56))), (6, .int (nI (j160 + 1))), (0, .ref a), (1, .ref (a + 31)), (2, .ref (a + 32)), (3, .ref (a + 33)), (4, .ref (a + 34))]) rfl ?_
                        exact ih (j160 + 1) (by omega)
                      · refine hV.if_eq_f (tgt := 222) dL_isSo_215 (by decide) c215_6 ?_
                        refine hV.iconst (v := 1) dL_isSo_218 (by decide) ?_
                        refine hV.goto (tgt := 223) dL_isSo_219 (by decide) ?_
                        refine hV.icmp_ne_f (tgt := 262) dL_isSo_223 (by decide) ((tell_o hR vg vk (by omega)).trans (opL_01 hR vg vk (by omega) c215_6)) ?_
                        refine hV.aload_n 2 dL_isSo_226 rfl ?_
                        refine hV.iload 1 dL_isSo_227 rfl ?_
                        refine hV.iconst (v := 3) dL_isSo_229 (by decide) ?_
                        refine hV.callV1 (rest := []) dL_isSo_230 (c_X4_pocketOf G (p := j160) (w := 3) (by omega) (by omega)) my_X4_pocketOf kv_L_109 To_o rfl rfl rfl (Nat.le_of_ble_eq_true rfl) (Nat.le_of_ble_eq_true rfl) (Nat.le_of_ble_eq_true rfl) (Nat.le_of_ble_eq_true rfl) (Nat.le_of_ble_eq_true rfl) (st2 := [.int (tellV β j160 3)]) (k2 := 0) (g2 := 0) rfl rfl rfl ?_
                        refine hV.aload_n 5 dL_isSo_233 rfl ?_
                        refine hV.iconst (v := 5) dL_isSo_234 (by decide) ?_
                        refine hV.iload 1 dL_isSo_235 rfl ?_
                        refine hV.imulN (a := 5) (b := j160) dL_isSo_237 ?_
                        refine hV.iconst (v := 3) dL_isSo_238 (by decide) ?_
                        refine hV.iaddN (a := 5 * j160) (b := 3) dL_isSo_239 ?_
                        refine hV.iald (j := (5 * j160) + 3) dL_isSo_240 ((To_out (by omega)).trans hk) (zix_nI (by omega)) (by omega) ?_
                        refine hV.icmp_ne_f (tgt := 262) dL_isSo_241 (by decide) (tell_k hR vk (w := 3) (by omega) (by omega) (by omega)) ?_
                        refine hV.aload_n 2 dL_isSo_244 rfl ?_
                        refine hV.iload 1 dL_isSo_245 rfl ?_
                        refine hV.iconst (v := 4) dL_isSo_247 (by decide) ?_
                        refine hV.callV1 (rest := []) dL_isSo_248 (c_X4_pocketOf G (p := j160) (w := 4) (by omega) (by omega)) my_X4_pocketOf kv_L_109 To_o rfl rfl rfl (Nat.le_of_ble_eq_true rfl) (Nat.le_of_ble_eq_true rfl) (Nat.le_of_ble_eq_true rfl) (Nat.le_of_ble_eq_true rfl) (Nat.le_of_ble_eq_true rfl) (st2 := [.int (tellV β j160 4)]) (k2 := 0) (g2 := 0) rfl rfl rfl ?_
                        refine hV.aload_n 5 dL_isSo_251 rfl ?_
                        refine hV.iconst (v := 5) dL_isSo_252 (by decide) ?_
                        refine hV.iload 1 dL_isSo_253 rfl ?_
                        refine hV.imulN (a := 5) (b := j160) dL_isSo_255 ?_
                        refine hV.iconst (v := 4) dL_isSo_256 (by decide) ?_
                        refine hV.iaddN (a := 5 * j160) (b := 4) dL_isSo_257 ?_
                        refine hV.iald (j := (5 * j160) + 4) dL_isSo_258 ((To_out (by omega)).trans hk) (zix_nI (by omega)) (by omega) ?_
                        refine hV.icmp_eq_t (tgt := 264) dL_isSo_259 (by decide) (tell_k hR vk (w := 4) (by omega) (by omega) (by omega)) ?_
                        refine hV.iinc 1 (v := nI (j160 + 1)) (ls2 := [(6, .int (nI (j160 + 1))), (5, .int (nI (bpC z 56))), (0, .ref a), (1, .ref (a + 31)), (2, .ref (a + 32)), (3, .ref (a + 33)), (4, .ref (a + 34))]) dL_isSo_264 rfl (nI_1 _) (by decide) rfl ?_
                        refine hV.goto (tgt := 160) dL_isSo_267 (by decide) ?_
                        refine hV.pick [1, 0, 2, 3, 4, 5, 6] (ls2 := [(5, .int (nI (bpC z 56))), (6, .int (nI (j160 + 1))), (0, .ref a), (1, .ref (a + 31)), (2, .ref (a + 32)), (3, .ref (a + 33)), (4, .ref (a + 34))]) rfl ?_
                        exact ih (j160 + 1) (by omega)
                  exact loop160 (7) 0 (by omega)
                | succ r128 ih =>
                  intro j128  hj128 
                  refine hV.iload 1 dL_isSo_128 rfl ?_
                  refine hV.bipush (v := 8) dL_isSo_130 (by decide) ?_
                  refine hV.icmp_ge_f (tgt := 157) dL_isSo_132 (by decide) (fun q => absurd ((nI_leI (a := 8) (b := j128) (by omega) (by omega)).mp q) (by omega)) ?_
                  refine hV.aload_n 2 dL_isSo_135 rfl ?_
                  refine hV.iload 1 dL_isSo_136 rfl ?_
                  refine hV.callV1 (rest := []) dL_isSo_138 (c_X4_touched G (r := j128) (by omega)) my_X4_touched kv_L_106 To_o rfl rfl rfl (Nat.le_of_ble_eq_true rfl) (Nat.le_of_ble_eq_true rfl) (Nat.le_of_ble_eq_true rfl) (Nat.le_of_ble_eq_true rfl) (Nat.le_of_ble_eq_true rfl) (st2 := [.int (β 3 j128)]) (k2 := 0) (g2 := 0) rfl rfl rfl ?_
                  refine hV.aload 6 dL_isSo_141 rfl ?_
                  refine hV.iload 1 dL_isSo_143 rfl ?_
                  refine hV.iald (j := j128) dL_isSo_145 ((To_out (by omega)).trans ht) (zix_nI (by omega)) (by omega) ?_
                  refine hV.icmp_eq_t (tgt := 151) dL_isSo_146 (by decide) (by rw [vt _ (by omega)]; exact hR.1.t (by omega)) ?_
                  refine hV.iinc 1 (v := nI (j128 + 1)) (ls2 := [(6, .int (nI (j128 + 1))), (5, .int (nI (bpC z 56))), (0, .ref a), (1, .ref (a + 31)), (2, .ref (a + 32)), (3, .ref (a + 33)), (4, .ref (a + 34))]) dL_isSo_151 rfl (nI_1 _) (by decide) rfl ?_
                  refine hV.goto (tgt := 128) dL_isSo_154 (by decide) ?_
                  refine hV.pick [1, 0, 2, 3, 4, 5, 6] (ls2 := [(5, .int (nI (bpC z 56))), (6, .int (nI (j128 + 1))), (0, .ref a), (1, .ref (a + 31)), (2, .ref (a + 32)), (3, .ref (a + 33)), (4, .ref (a + 34))]) rfl ?_
                  exact ih (j128 + 1) (by omega)
              exact loop128 (8) 0 (by omega)
            | succ r95 ih =>
              intro j95  hj95 
              refine hV.iload 1 dL_isSo_95 rfl ?_
              refine hV.iconst (v := 3) dL_isSo_97 (by decide) ?_
              refine hV.icmp_ge_f (tgt := 125) dL_isSo_98 (by decide) (fun q => absurd ((nI_leI (a := 3) (b := j95) (by omega) (by omega)).mp q) (by omega)) ?_
              refine hV.aload_n 2 dL_isSo_101 rfl ?_
              refine hV.iload 1 dL_isSo_102 rfl ?_
              refine hV.callV1 (rest := []) dL_isSo_104 (c_X4_reel G (w := j95) (by omega)) my_X4_reel kv_L_103 To_o rfl rfl rfl (Nat.le_of_ble_eq_true rfl) (Nat.le_of_ble_eq_true rfl) (Nat.le_of_ble_eq_true rfl) (Nat.le_of_ble_eq_true rfl) (Nat.le_of_ble_eq_true rfl) (st2 := [.int (β 9 j95)]) (k2 := 0) (g2 := 0) rfl rfl rfl ?_
              refine hV.aload_n 3 dL_isSo_107 rfl ?_
              refine hV.bipush (v := 16) dL_isSo_108 (by decide) ?_
              refine hV.iload 1 dL_isSo_110 rfl ?_
              refine hV.iaddN (a := 16) (b := j95) dL_isSo_112 ?_
              refine hV.iald (j := 16 + j95) dL_isSo_113 ((To_out (by omega)).trans hg) (zix_nI (by omega)) (by omega) ?_
              refine hV.icmp_eq_t (tgt := 119) dL_isSo_114 (by decide) (reel_gi hR.1 vg (by omega)) ?_
              refine hV.iinc 1 (v := nI (j95 + 1)) (ls2 := [(6, .int (nI (j95 + 1))), (5, .int (nI (bpC z 56))), (0, .ref a), (1, .ref (a + 31)), (2, .ref (a + 32)), (3, .ref (a + 33)), (4, .ref (a + 34))]) dL_isSo_119 rfl (nI_1 _) (by decide) rfl ?_
              refine hV.goto (tgt := 95) dL_isSo_122 (by decide) ?_
              refine hV.pick [1, 0, 2, 3, 4, 5, 6] (ls2 := [(5, .int (nI (bpC z 56))), (6, .int (nI (j95 + 1))), (0, .ref a), (1, .ref (a + 31)), (2, .ref (a + 32)), (3, .ref (a + 33)), (4, .ref (a + 34))]) rfl ?_
              exact ih (j95 + 1) (by omega)
          exact loop95 (3) 0 (by omega)
        | succ r64 ih =>
          intro j64  hj64 
          refine hV.iload 1 dL_isSo_64 rfl ?_
          refine hV.bipush (v := 16) dL_isSo_66 (by decide) ?_
          refine hV.icmp_ge_f (tgt := 92) dL_isSo_68 (by decide) (fun q => absurd ((nI_leI (a := 16) (b := j64) (by omega) (by omega)).mp q) (by omega)) ?_
          refine hV.aload_n 2 dL_isSo_71 rfl ?_
          refine hV.iload 1 dL_isSo_72 rfl ?_
          refine hV.callV1 (rest := []) dL_isSo_74 (c_X4_count G (w := j64) (by omega)) my_X4_count kv_L_100 To_o rfl rfl rfl (Nat.le_of_ble_eq_true rfl) (Nat.le_of_ble_eq_true rfl) (Nat.le_of_ble_eq_true rfl) (Nat.le_of_ble_eq_true rfl) (Nat.le_of_ble_eq_true rfl) (st2 := [.int (if j64 = 17 then s else β 0 j64)]) (k2 := 0) (g2 := 0) rfl rfl rfl ?_
          refine hV.aload_n 3 dL_isSo_77 rfl ?_
          refine hV.iload 1 dL_isSo_78 rfl ?_
          refine hV.iald (j := j64) dL_isSo_80 ((To_out (by omega)).trans hg) (zix_nI (by omega)) (by omega) ?_
          refine hV.icmp_eq_t (tgt := 86) dL_isSo_81 (by decide) (by rw [if_neg (by omega), vg _ (by omega)]; exact num_gi hR.1 (by omega)) ?_
          refine hV.iinc 1 (v := nI (j64 + 1)) (ls2 := [(6, .int (nI (j64 + 1))), (5, .int (nI (bpC z 56))), (0, .ref a), (1, .ref (a + 31)), (2, .ref (a + 32)), (3, .ref (a + 33)), (4, .ref (a + 34))]) dL_isSo_86 rfl (nI_1 _) (by decide) rfl ?_
          refine hV.goto (tgt := 64) dL_isSo_89 (by decide) ?_
          refine hV.pick [1, 0, 2, 3, 4, 5, 6] (ls2 := [(5, .int (nI (bpC z 56))), (6, .int (nI (j64 + 1))), (0, .ref a), (1, .ref (a + 31)), (2, .ref (a + 32)), (3, .ref (a + 33)), (4, .ref (a + 34))]) rfl ?_
          exact ih (j64 + 1) (by omega)
      exact loop64 (16) 0 (by omega)
    | succ r ih =>
      intro i  hi 
      refine hV.iload 1 dL_isSo_6 rfl ?_
      refine hV.bipush (v := 56) dL_isSo_8 (by decide) ?_
      refine hV.icmp_ge_f (tgt := 61) dL_isSo_10 (by decide) (fun q => absurd ((nI_leI (a := 56) (b := i) (by omega) (by omega)).mp q) (by omega)) ?_
      refine hV.iload 0 dL_isSo_13 rfl ?_
      refine hV.aload_n 4 dL_isSo_15 rfl ?_
      refine hV.iload 1 dL_isSo_16 rfl ?_
      refine hV.iald (j := i) dL_isSo_18 ((To_out (by omega)).trans hp) (zix_nI (by omega)) (by omega) ?_
      by_cases c19_7 : (pins i) = 0
      · refine hV.if_eq_t (tgt := 26) dL_isSo_19 (by decide) c19_7 ?_
        refine hV.iconst (v := 0) dL_isSo_26 (by decide) ?_
        refine hV.iaddN (a := bpC z i) (b := 0) dL_isSo_27 ?_
        refine hV.istore (ls2 := [(5, .int (nI ((bpC z i) + 0))), (6, .int (nI i)), (0, .ref a), (1, .ref (a + 31)), (2, .ref (a + 32)), (3, .ref (a + 33)), (4, .ref (a + 34))]) dL_isSo_28 (by decide) rfl ?_
        refine hV.aload_n 2 dL_isSo_30 rfl ?_
        refine hV.iload 1 dL_isSo_31 rfl ?_
        refine hV.bipush (v := 7) dL_isSo_33 (by decide) ?_
        refine hV.idiv dL_isSo_35 (by decide) ?_
        refine zTop (v := nI (i / 7)) (nI_div (a := i) (b := 7) (by omega) (by omega)) ?_
        refine hV.iload 1 dL_isSo_36 rfl ?_
        refine hV.bipush (v := 7) dL_isSo_38 (by decide) ?_
        refine hV.irem dL_isSo_40 (by decide) ?_
        refine zTop (v := nI (i % 7)) (nI_modL (i := i) (m := 7) (by omega) (by omega)) ?_
        refine hV.callV1 (rest := []) dL_isSo_41 (c_X4_pin G (r := i / 7) (c1 := i % 7) (by omega) (by omega)) my_X4_pin kv_L_97 To_o rfl rfl rfl (Nat.le_of_ble_eq_true rfl) (Nat.le_of_ble_eq_true rfl) (Nat.le_of_ble_eq_true rfl) (Nat.le_of_ble_eq_true rfl) (Nat.le_of_ble_eq_true rfl) (st2 := [.int (β 1 ((i / 7) * 7 + (i % 7)) + 1)]) (k2 := 0) (g2 := 0) rfl rfl rfl ?_
        refine hV.aload_n 4 dL_isSo_44 rfl ?_
        refine hV.iload 1 dL_isSo_45 rfl ?_
        refine hV.iald (j := i) dL_isSo_47 ((To_out (by omega)).trans hp) (zix_nI (by omega)) (by omega) ?_
        refine hV.iconst (v := 1) dL_isSo_48 (by decide) ?_
        refine hV.iadd dL_isSo_49 ?_
        refine hV.icmp_eq_t (tgt := 55) dL_isSo_50 (by decide) (by rw [show i / 7 * 7 + i % 7 = i by omega, vp i (by omega), hR.1.p (by omega)]) ?_
        refine hV.iinc 1 (v := nI (i + 1)) (ls2 := [(6, .int (nI (i + 1))), (5, .int (nI ((bpC z i) + 0))), (0, .ref a), (1, .ref (a + 31)), (2, .ref (a + 32)), (3, .ref (a + 33)), (4, .ref (a + 34))]) dL_isSo_55 rfl (nI_1 _) (by decide) rfl ?_
        refine hV.goto (tgt := 6) dL_isSo_58 (by decide) ?_
        refine hV.pick [1, 0, 2, 3, 4, 5, 6] (ls2 := [(5, .int (nI ((bpC z i) + 0))), (6, .int (nI (i + 1))), (0, .ref a), (1, .ref (a + 31)), (2, .ref (a + 32)), (3, .ref (a + 33)), (4, .ref (a + 34))]) rfl ?_
        have eb9 : bpC z i + 0 = bpC z (i + 1) := bp_s vp (by omega) (by rw [if_pos c19_7])
        rw [eb9]
        exact ih (i + 1) (by omega)
      · refine hV.if_eq_f (tgt := 26) dL_isSo_19 (by decide) c19_7 ?_
        refine hV.iconst (v := 1) dL_isSo_22 (by decide) ?_
        refine hV.goto (tgt := 27) dL_isSo_23 (by decide) ?_
        refine hV.iaddN (a := bpC z i) (b := 1) dL_isSo_27 ?_
        refine hV.istore (ls2 := [(5, .int (nI ((bpC z i) + 1))), (6, .int (nI i)), (0, .ref a), (1, .ref (a + 31)), (2, .ref (a + 32)), (3, .ref (a + 33)), (4, .ref (a + 34))]) dL_isSo_28 (by decide) rfl ?_
        refine hV.aload_n 2 dL_isSo_30 rfl ?_
        refine hV.iload 1 dL_isSo_31 rfl ?_
        refine hV.bipush (v := 7) dL_isSo_33 (by decide) ?_
        refine hV.idiv dL_isSo_35 (by decide) ?_
        refine zTop (v := nI (i / 7)) (nI_div (a := i) (b := 7) (by omega) (by omega)) ?_
        refine hV.iload 1 dL_isSo_36 rfl ?_
        refine hV.bipush (v := 7) dL_isSo_38 (by decide) ?_
        refine hV.irem dL_isSo_40 (by decide) ?_
        refine zTop (v := nI (i % 7)) (nI_modL (i := i) (m := 7) (by omega) (by omega)) ?_
        refine hV.callV1 (rest := []) dL_isSo_41 (c_X4_pin G (r := i / 7) (c1 := i % 7) (by omega) (by omega)) my_X4_pin kv_L_97 To_o rfl rfl rfl (Nat.le_of_ble_eq_true rfl) (Nat.le_of_ble_eq_true rfl) (Nat.le_of_ble_eq_true rfl) (Nat.le_of_ble_eq_true rfl) (Nat.le_of_ble_eq_true rfl) (st2 := [.int (β 1 ((i / 7) * 7 + (i % 7)) + 1)]) (k2 := 0) (g2 := 0) rfl rfl rfl ?_
        refine hV.aload_n 4 dL_isSo_44 rfl ?_
        refine hV.iload 1 dL_isSo_45 rfl ?_
        refine hV.iald (j := i) dL_isSo_47 ((To_out (by omega)).trans hp) (zix_nI (by omega)) (by omega) ?_
        refine hV.iconst (v := 1) dL_isSo_48 (by decide) ?_
        refine hV.iadd dL_isSo_49 ?_
        refine hV.icmp_eq_t (tgt := 55) dL_isSo_50 (by decide) (by rw [show i / 7 * 7 + i % 7 = i by omega, vp i (by omega), hR.1.p (by omega)]) ?_
        refine hV.iinc 1 (v := nI (i + 1)) (ls2 := [(6, .int (nI (i + 1))), (5, .int (nI ((bpC z i) + 1))), (0, .ref a), (1, .ref (a + 31)), (2, .ref (a + 32)), (3, .ref (a + 33)), (4, .ref (a + 34))]) dL_isSo_55 rfl (nI_1 _) (by decide) rfl ?_
        refine hV.goto (tgt := 6) dL_isSo_58 (by decide) ?_
        refine hV.pick [1, 0, 2, 3, 4, 5, 6] (ls2 := [(5, .int (nI ((bpC z i) + 1))), (6, .int (nI (i + 1))), (0, .ref a), (1, .ref (a + 31)), (2, .ref (a + 32)), (3, .ref (a + 33)), (4, .ref (a + 34))]) rfl ?_
        have eb9 : bpC z i + 1 = bpC z (i + 1) := bp_s vp (by omega) (by rw [if_neg c19_7])
        rw [eb9]
        exact ih (i + 1) (by omega)
  refine hV.pick [1, 0, 2, 3, 4, 5, 6] (ls2 := [(5, .int 0), (6, .int 0), (0, .ref a), (1, .ref (a + 31)), (2, .ref (a + 32)), (3, .ref (a + 33)), (4, .ref (a + 34))]) rfl ?_
  exact loop (56) 0 (by omega)

