/-! The law's deeds -/
theorem nn {q : Nat} (hq : q < 2 ^ 31) : (0 : Int32) ≤ nI q := (nI_leI (a := 0) (b := q) (by omega) hq).mpr (Nat.zero_le q)
theorem tri {q : Nat} (hq : q < 3) : nI q - 1 = 0 ∨ nI q - 1 = 1 ∨ nI q - 1 = -1 := by
  rcases (show q = 0 ∨ q = 1 ∨ q = 2 by omega) with rfl | rfl | rfl
  · exact Or.inr (Or.inr (by decide))
  · exact Or.inl (by decide)
  · exact Or.inr (Or.inl (by decide))
theorem triV {q : Nat} (hq : q < 3) : ¬ inV (nI q - 1) (-1) 1 = 0 := by
  rcases tri hq with e | e | e <;> rw [e] <;> decide
theorem n3 {q : Nat} (hq : q < 3) : nI q = 0 ∨ nI q = 1 ∨ nI q = 2 := by
  rcases (show q = 0 ∨ q = 1 ∨ q = 2 by omega) with rfl | rfl | rfl
  · exact Or.inl rfl
  · exact Or.inr (Or.inl rfl)
  · exact Or.inr (Or.inr rfl)
theorem VV.mono {B C : Nat} {β : zB} {g pins k t : Nat → Int32} (h : VV B β g pins k t) (hBC : B ≤ C) : VV C β g pins k t := by
  obtain ⟨z, h1, h2⟩ := h
  exact ⟨z, h1.mono hBC, h2⟩
theorem pl_next {c r : Nat} {z zz : zZ} {b pd : Int32} {m : Nat} (he : plZ c m (z, 0) = plZ c (r + 1) (zz, pd)) (h0 : ¬ zz 1 ≤ 0) (hb : b = lchZr zz c) : plZ c m (z, 0) = plZ c r (lchZ zz c, pd + b) := by
  rw [he, hb]
  show (if zz 1 ≤ 0 then _ else _) = _
  rw [if_neg h0]
theorem VV_pl {B : Nat} {β : zB} {z zz : zZ} {g pins k t : Nat → Int32} {c m r : Nat} {pd : Int32} (hR : RB B β z) (hc : c < 7) (he : plZ c m (z, 0) = plZ c r (zz, pd)) (hend : r = 0 ∨ zz 1 ≤ 0) (hI : VI zz) (vg : VG zz g) (vp : VP zz pins) (vk : VK zz k) (vt : VT zz t) : VV (B + m) (plB c m (β, 0)).1 g pins k t ∧ (plB c m (β, 0)).2 = pd := by
  have e : plZ c r (zz, pd) = (zz, pd) := by
    cases r with
    | zero => rfl
    | succ r => exact if_pos (hend.resolve_left (by omega))
  obtain ⟨h1, h2⟩ := RB_pl hc m 0 hR
  rw [he, e] at h1 h2
  exact ⟨⟨zz, h1, hI, vg, vp, vk, vt⟩, h2⟩
theorem SX_0 {B a n n3 u v : Nat} {h : zH} {β τ : zB} {rf : Nat → Option Nat} {φ : Nat → Int32} {c π : zB} {sn : Option Nat} {ρ : Nat → zB} {κ : zB} {g pins k t : Nat → Int32} (hu : u < 6) (hv : v ≤ 6) (hx : zExt a n h rf sn ρ κ) (hn : n ≤ n3) (hL : LA a h g pins k t) (hV : VV B β g pins k t) : SX B a n3 (zTo h a β τ (nI u) (nI v) rf φ c π sn) :=
  ⟨h, β, τ, u, v, rf, φ, c, π, sn, ρ, κ, g, pins, k, t, rfl, hu, hv, hx.mono hn, hL, hV⟩
set_option maxRecDepth 100000 in
set_option maxHeartbeats 1000000 in
theorem c_L_act {l : Launch} {D : va_G} {base : Nat} (G : l.stackTraces = false) {h : zH} {n : Nat} {a : Nat} {β τ : zB} {u v : Nat} {rf : Nat → Option Nat} {φ : Nat → Int32} {c π : zB} {sn : Option Nat} {ρ : Nat → zB} {κ : zB} {B : Nat} {z : zZ} {g pins k t : Nat → Int32} (hu : u < 6) (hv : v ≤ 6) (hx : zExt a n h rf sn ρ κ) (hg : h (a + 31) = some (.inl (19, .inl g))) (hp : h (a + 32) = some (.inl (56, .inl pins))) (hk : h (a + 33) = some (.inl (35, .inl k))) (ht : h (a + 34) = some (.inl (8, .inl t))) (hR : RB B β z) (hI : VI z) (vg : VG z g) (vp : VP z pins) (vk : VK z k) (vt : VT z t) (hB : B < 2 ^ 27) {x y : Int32} :
    zCt l D base 15 yL_act w_L_act [.ref a, .int x, .int y, .ref (a + 31), .ref (a + 32), .ref (a + 33), .ref (a + 34)] (zTo h a β τ (nI u) (nI v) rf φ c π sn) n 33 705 (zRT (some (.int 1)) (fun H2 n2 => SX (B + 31) a n2 H2)) := by
  refine zCt.of G (by decide) (Nat.le_of_ble_eq_true rfl) (fun Sx V X hV hE hX => ?_)
  show V 0 [(0, .ref a), (1, .int x), (2, .int y), (3, .ref (a + 31)), (4, .ref (a + 32)), (5, .ref (a + 33)), (6, .ref (a + 34))] [] (zTo h a β τ (nI u) (nI v) rf φ c π sn) n 0 0
  have hpin := pin3 hR.2.2 vp
  have hn : a + 35 ≤ n := hx.1
  refine hV.iload_n 1 dL_act_0 rfl ?_
  refine hV.bipush (v := 14) dL_act_1 (by decide) ?_
  obtain ⟨w3, hw3, e3⟩ := lowL_N x (m := 14) (M := 14) rfl (by decide) (by decide)
  refine hV.callS1 (rest := []) dL_act_3 (c_L_low G (by decide)) my_L_low ks_L_116 rfl rfl (Nat.le_of_ble_eq_true rfl) (Nat.le_of_ble_eq_true rfl) (Nat.le_of_ble_eq_true rfl) (Nat.le_of_ble_eq_true rfl) (Nat.le_of_ble_eq_true rfl) (st2 := [.int (lowL x 14)]) (k2 := 0) (g2 := 0) rfl rfl rfl ?_
  refine zTop (v := nI w3) e3 ?_
  refine hV.istore (ls2 := [(7, .int (nI w3)), (0, .ref a), (1, .int x), (2, .int y), (3, .ref (a + 31)), (4, .ref (a + 32)), (5, .ref (a + 33)), (6, .ref (a + 34))]) dL_act_6 (by decide) rfl ?_
  refine hV.iload_n 3 dL_act_8 rfl ?_
  refine hV.bipush (v := 7) dL_act_9 (by decide) ?_
  obtain ⟨w11, hw11, e11⟩ := lowL_N y (m := 7) (M := 7) rfl (by decide) (by decide)
  refine hV.callS1 (rest := []) dL_act_11 (c_L_low G (by decide)) my_L_low ks_L_116 rfl rfl (Nat.le_of_ble_eq_true rfl) (Nat.le_of_ble_eq_true rfl) (Nat.le_of_ble_eq_true rfl) (Nat.le_of_ble_eq_true rfl) (Nat.le_of_ble_eq_true rfl) (st2 := [.int (lowL y 7)]) (k2 := 0) (g2 := 0) rfl rfl rfl ?_
  refine zTop (v := nI w11) e11 ?_
  refine hV.istore (ls2 := [(8, .int (nI w11)), (7, .int (nI w3)), (0, .ref a), (1, .int x), (2, .int y), (3, .ref (a + 31)), (4, .ref (a + 32)), (5, .ref (a + 33)), (6, .ref (a + 34))]) dL_act_14 (by decide) rfl ?_
  refine hV.iload 1 dL_act_16 rfl ?_
  refine hV.iconst (v := 3) dL_act_18 (by decide) ?_
  by_cases c19_1 : 3 ≤ w3
  · refine hV.icmp_ge_t (tgt := 119) dL_act_19 (by decide) ((nI_leI (a := 3) (b := w3) (by omega) (by omega)).mpr c19_1) ?_
    refine hV.iload 1 dL_act_119 rfl ?_
    refine hV.iconst (v := 5) dL_act_121 (by decide) ?_
    by_cases c122_2 : 5 ≤ w3
    · refine hV.icmp_ge_t (tgt := 261) dL_act_122 (by decide) ((nI_leI (a := 5) (b := w3) (by omega) (by omega)).mpr c122_2) ?_
      refine hV.iload 1 dL_act_261 rfl ?_
      refine hV.iconst (v := 5) dL_act_263 (by decide) ?_
      by_cases c264_3 : w3 = 5
      · refine hV.icmp_ne_f (tgt := 307) dL_act_264 (by decide) ((nI_eq (a := w3) (b := 5) (by omega) (by omega)).mpr c264_3) ?_
        refine hV.aload_n 5 dL_act_267 rfl ?_
        refine hV.bipush (v := 12) dL_act_268 (by decide) ?_
        refine hV.iald (j := 12) dL_act_270 ((To_out (by omega)).trans hg) ⟨by decide, by decide⟩ (by decide) ?_
        refine hV.istore (ls2 := [(9, .int (g 12)), (8, .int (nI w11)), (7, .int (nI w3)), (0, .ref a), (1, .int x), (2, .int y), (3, .ref (a + 31)), (4, .ref (a + 32)), (5, .ref (a + 33)), (6, .ref (a + 34))]) dL_act_271 (by decide) rfl ?_
        refine hV.aload_n 6 dL_act_273 rfl ?_
        refine hV.bipush (v := 12) dL_act_274 (by decide) ?_
        refine hV.iload 1 dL_act_276 rfl ?_
        refine hV.iast (j := 12) dL_act_278 ((To_out (by omega)).trans hg) ⟨by decide, by decide⟩ (by decide) ((To_z (by omega)).trans (congrArg (fun w => zTo w _ _ _ _ _ _ _ _ _ _) rfl)) ?_
        refine hV.aload_n 3 dL_act_279 rfl ?_
        refine hV.iload 1 dL_act_280 rfl ?_
        refine hV.callSH3 (rest := []) dL_act_282 (WL_start_ok (by omega) (by omega) (by omega) To_o (c_X4_start G hu hv (zExt_loc hx (fun q hq => (zput_ne (by omega)))) (w := nI w11) (inV_T (inV_c6 (by omega))))) my_L_start ks_L_124 rfl rfl (Nat.le_of_ble_eq_true rfl) (Nat.le_of_ble_eq_true rfl) (Nat.le_of_ble_eq_true rfl) (Nat.le_of_ble_eq_true rfl) (Nat.le_of_ble_eq_true rfl) (st2 := [.int (β 0 12)]) (k2 := 11) (g2 := 235) rfl rfl rfl (fun h4 n4 hn4 hs4 => ?_)
        obtain ⟨y4, rf4, rfl, hsv4⟩ := hs4
        refine hV.iload 0 dL_act_285 rfl ?_
        refine hV.icmp_ne_f (tgt := 305) dL_act_287 (by decide) ((hR.1.n (i := 12) (by omega)).trans (vg.at (i := 12) (k := 13) (by omega) (by rfl)).symm) ?_
        refine hV.aload_n 3 dL_act_290 rfl ?_
        refine hV.bipush (v := 7) dL_act_291 (by decide) ?_
        refine hV.callSH3 (rest := []) dL_act_293 (WL_start_x1 (by omega) (by omega) (by omega) To_o (c_X4_start_x1 G (by decide))) my_L_start ks_L_124 rfl rfl (Nat.le_of_ble_eq_true rfl) (Nat.le_of_ble_eq_true rfl) (Nat.le_of_ble_eq_true rfl) (Nat.le_of_ble_eq_true rfl) (Nat.le_of_ble_eq_true rfl) (st2 := [.int (-31)]) (k2 := 22) (g2 := 470) rfl rfl rfl (fun h5 n5 hn5 hs5 => ?_)
        obtain ⟨rfl, hq5⟩ := hs5
        refine hV.bipush (v := (-31)) dL_act_296 (by decide) ?_
        refine hV.icmp_ne_f (tgt := 305) dL_act_298 (by decide) (by decide) ?_
        refine hV.iconst (v := 1) dL_act_301 (by decide) ?_
        refine hV.goto (tgt := 306) dL_act_302 (by decide) ?_
        exact hE.1 dL_act_306 rfl rfl (Nat.le_of_ble_eq_true rfl) (Nat.le_of_ble_eq_true rfl) (zRTi rfl (SX_s hu hv hsv4 (by omega) ⟨zput_at, ((zput_ne (by omega)).trans hp), ((zput_ne (by omega)).trans hk), ((zput_ne (by omega)).trans ht)⟩ (VV.mono (VV_num hR hI vg vp vk vt (i := 12) (j := 13) (RV_num hR.1 (i := 12) (by omega) _) (by omega) (nn (by omega))) (by omega))))
      · refine hV.icmp_ne_t (tgt := 307) dL_act_264 (by decide) (fun q => absurd ((nI_eq (a := w3) (b := 5) (by omega) (by omega)).mp q) c264_3) ?_
        refine hV.iload 1 dL_act_307 rfl ?_
        refine hV.bipush (v := 6) dL_act_309 (by decide) ?_
        by_cases c311_6 : w3 = 6
        · refine hV.icmp_ne_f (tgt := 409) dL_act_311 (by decide) ((nI_eq (a := w3) (b := 6) (by omega) (by omega)).mpr c311_6) ?_
          refine hV.iload_n 4 dL_act_314 rfl ?_
          refine hV.iconst (v := 2) dL_act_315 (by decide) ?_
          obtain ⟨w316, hw316, e316⟩ := lowL_N y (m := 2) (M := 2) rfl (by decide) (by decide)
          refine hV.callS1 (rest := []) dL_act_316 (c_L_low G (by decide)) my_L_low ks_L_116 rfl rfl (Nat.le_of_ble_eq_true rfl) (Nat.le_of_ble_eq_true rfl) (Nat.le_of_ble_eq_true rfl) (Nat.le_of_ble_eq_true rfl) (Nat.le_of_ble_eq_true rfl) (st2 := [.int (lowL y 2)]) (k2 := 0) (g2 := 0) rfl rfl rfl ?_
          refine zTop (v := nI w316) e316 ?_
          rcases (show w316 = 0 ∨ w316 = 1 by omega) with e | e
          · subst e
            show V 319 [(8, .int (nI w11)), (7, .int (nI w3)), (0, .ref a), (1, .int x), (2, .int y), (3, .ref (a + 31)), (4, .ref (a + 32)), (5, .ref (a + 33)), (6, .ref (a + 34))] [.int 0] (zTo h a β τ (nI u) (nI v) rf φ c π sn) n 0 0
            refine hV.istore (ls2 := [(9, .int 0), (8, .int (nI w11)), (7, .int (nI w3)), (0, .ref a), (1, .int x), (2, .int y), (3, .ref (a + 31)), (4, .ref (a + 32)), (5, .ref (a + 33)), (6, .ref (a + 34))]) dL_act_319 (by decide) rfl ?_
            refine hV.aload_n 6 dL_act_321 rfl ?_
            refine hV.bipush (v := 14) dL_act_322 (by decide) ?_
            refine hV.iload 0 dL_act_324 rfl ?_
            refine hV.iadd dL_act_326 ?_
            refine zTop (v := 14) (by decide) ?_
            refine hV.iald (j := 14) dL_act_327 ((To_out (by omega)).trans hg) ⟨by decide, by decide⟩ (by decide) ?_
            refine hV.istore (ls2 := [(10, .int (g 14)), (9, .int 0), (8, .int (nI w11)), (7, .int (nI w3)), (0, .ref a), (1, .int x), (2, .int y), (3, .ref (a + 31)), (4, .ref (a + 32)), (5, .ref (a + 33)), (6, .ref (a + 34))]) dL_act_328 (by decide) rfl ?_
            refine hV.aload_n 7 dL_act_330 rfl ?_
            refine hV.bipush (v := 14) dL_act_331 (by decide) ?_
            refine hV.iload 1 dL_act_333 rfl ?_
            refine hV.iadd dL_act_335 ?_
            refine zTop (v := 14) (by decide) ?_
            refine hV.iload 1 dL_act_336 rfl ?_
            refine hV.if_ne_f (tgt := 354) dL_act_338 (by decide) (by decide) ?_
            refine hV.iconst (v := 1) dL_act_341 (by decide) ?_
            refine hV.iload_n 6 dL_act_342 rfl ?_
            refine hV.iconst (v := 1) dL_act_343 (by decide) ?_
            refine hV.ishr dL_act_344 ?_
            refine hV.bipush (v := 10) dL_act_345 (by decide) ?_
            obtain ⟨w347, hw347, e347⟩ := lowL_N (y >>> (1 &&& 31)) (m := 10) (M := 10) rfl (by decide) (by decide)
            refine hV.callS1 (rest := [.int 1, .int 14, .ref (a + 31)]) dL_act_347 (c_L_low G (by decide)) my_L_low ks_L_116 rfl rfl (Nat.le_of_ble_eq_true rfl) (Nat.le_of_ble_eq_true rfl) (Nat.le_of_ble_eq_true rfl) (Nat.le_of_ble_eq_true rfl) (Nat.le_of_ble_eq_true rfl) (st2 := [.int (lowL (y >>> (1 &&& 31)) 10), .int 1, .int 14, .ref (a + 31)]) (k2 := 0) (g2 := 0) rfl rfl rfl ?_
            refine zTop (v := nI w347) e347 ?_
            refine hV.iaddN (a := 1) (b := w347) dL_act_350 ?_
            refine hV.goto (tgt := 362) dL_act_351 (by decide) ?_
            refine hV.iast (j := 14) dL_act_362 ((To_out (by omega)).trans hg) ⟨by decide, by decide⟩ (by decide) ((To_z (by omega)).trans (congrArg (fun w => zTo w _ _ _ _ _ _ _ _ _ _) rfl)) ?_
            refine hV.aload_n 4 dL_act_363 rfl ?_
            refine hV.iload 1 dL_act_364 rfl ?_
            refine hV.aload_n 7 dL_act_366 rfl ?_
            refine hV.bipush (v := 14) dL_act_367 (by decide) ?_
            refine hV.iload 1 dL_act_369 rfl ?_
            refine hV.iadd dL_act_371 ?_
            refine zTop (v := 14) (by decide) ?_
            refine hV.iald (j := 14) dL_act_372 ((To_out (by omega)).trans zput_at) ⟨by decide, by decide⟩ (by decide) ?_
            refine zTop (v := nI (1 + w347)) (va_up_self _ _ _) ?_
            refine hV.callSH3 (rest := []) dL_act_373 (WL_set_ok (by omega) (by omega) (by omega) To_o (c_X4_set_0 G hu hv (zExt_loc hx (fun q hq => (zput_ne (by omega)))) (w := nI (1 + w347)) (inV_T (inV_N (lo := 1) (hi := 10) (by omega) (by omega) (by decide))))) my_L_set ks_L_127 rfl rfl (Nat.le_of_ble_eq_true rfl) (Nat.le_of_ble_eq_true rfl) (Nat.le_of_ble_eq_true rfl) (Nat.le_of_ble_eq_true rfl) (Nat.le_of_ble_eq_true rfl) (st2 := [.int (β 0 14)]) (k2 := 11) (g2 := 235) rfl rfl rfl (fun h7 n7 hn7 hs7 => ?_)
            obtain ⟨y7, rf7, rfl, hsv7⟩ := hs7
            refine hV.iload 0 dL_act_376 rfl ?_
            refine hV.icmp_ne_f (tgt := 407) dL_act_378 (by decide) (hR.1.s1.trans (vg.at (i := 14) (k := 14) (by omega) (by rfl)).symm) ?_
            refine hV.aload_n 4 dL_act_381 rfl ?_
            refine hV.iconst (v := 0) dL_act_382 (by decide) ?_
            refine hV.iconst (v := 0) dL_act_383 (by decide) ?_
            refine hV.callSH3 (rest := []) dL_act_384 (WL_set_x2 (by omega) (by omega) (by omega) To_o (c_X4_set_x2 G (by decide))) my_L_set ks_L_127 rfl rfl (Nat.le_of_ble_eq_true rfl) (Nat.le_of_ble_eq_true rfl) (Nat.le_of_ble_eq_true rfl) (Nat.le_of_ble_eq_true rfl) (Nat.le_of_ble_eq_true rfl) (st2 := [.int (-32)]) (k2 := 22) (g2 := 470) rfl rfl rfl (fun h8 n8 hn8 hs8 => ?_)
            obtain ⟨rfl, hq8⟩ := hs8
            refine hV.bipush (v := (-32)) dL_act_387 (by decide) ?_
            refine hV.icmp_ne_f (tgt := 407) dL_act_389 (by decide) (by decide) ?_
            refine hV.aload_n 4 dL_act_392 rfl ?_
            refine hV.iconst (v := 2) dL_act_393 (by decide) ?_
            refine hV.iconst (v := 0) dL_act_394 (by decide) ?_
            refine hV.callSH3 (rest := []) dL_act_395 (WL_set_x1 (by omega) (by omega) (by omega) To_o (c_X4_set_x1 G (by decide))) my_L_set ks_L_127 rfl rfl (Nat.le_of_ble_eq_true rfl) (Nat.le_of_ble_eq_true rfl) (Nat.le_of_ble_eq_true rfl) (Nat.le_of_ble_eq_true rfl) (Nat.le_of_ble_eq_true rfl) (st2 := [.int (-31)]) (k2 := 33) (g2 := 705) rfl rfl rfl (fun h9 n9 hn9 hs9 => ?_)
            obtain ⟨rfl, hq9⟩ := hs9
            refine hV.bipush (v := (-31)) dL_act_398 (by decide) ?_
            refine hV.icmp_ne_f (tgt := 407) dL_act_400 (by decide) (by decide) ?_
            refine hV.iconst (v := 1) dL_act_403 (by decide) ?_
            refine hV.goto (tgt := 408) dL_act_404 (by decide) ?_
            exact hE.1 dL_act_408 rfl rfl (Nat.le_of_ble_eq_true rfl) (Nat.le_of_ble_eq_true rfl) (zRTi rfl (SX_s hu hv hsv7 (by omega) ⟨zput_at, ((zput_ne (by omega)).trans hp), ((zput_ne (by omega)).trans hk), ((zput_ne (by omega)).trans ht)⟩ (VV.mono (VV_num hR hI vg vp vk vt (i := 14) (j := 14) (RV_s1 hR.1 _) (by omega) (nn (by omega))) (by omega))))
          · subst e
            show V 319 [(8, .int (nI w11)), (7, .int (nI w3)), (0, .ref a), (1, .int x), (2, .int y), (3, .ref (a + 31)), (4, .ref (a + 32)), (5, .ref (a + 33)), (6, .ref (a + 34))] [.int 1] (zTo h a β τ (nI u) (nI v) rf φ c π sn) n 0 0
            refine hV.istore (ls2 := [(9, .int 1), (8, .int (nI w11)), (7, .int (nI w3)), (0, .ref a), (1, .int x), (2, .int y), (3, .ref (a + 31)), (4, .ref (a + 32)), (5, .ref (a + 33)), (6, .ref (a + 34))]) dL_act_319 (by decide) rfl ?_
            refine hV.aload_n 6 dL_act_321 rfl ?_
            refine hV.bipush (v := 14) dL_act_322 (by decide) ?_
            refine hV.iload 0 dL_act_324 rfl ?_
            refine hV.iadd dL_act_326 ?_
            refine zTop (v := 15) (by decide) ?_
            refine hV.iald (j := 15) dL_act_327 ((To_out (by omega)).trans hg) ⟨by decide, by decide⟩ (by decide) ?_
            refine hV.istore (ls2 := [(10, .int (g 15)), (9, .int 1), (8, .int (nI w11)), (7, .int (nI w3)), (0, .ref a), (1, .int x), (2, .int y), (3, .ref (a + 31)), (4, .ref (a + 32)), (5, .ref (a + 33)), (6, .ref (a + 34))]) dL_act_328 (by decide) rfl ?_
            refine hV.aload_n 7 dL_act_330 rfl ?_
            refine hV.bipush (v := 14) dL_act_331 (by decide) ?_
            refine hV.iload 1 dL_act_333 rfl ?_
            refine hV.iadd dL_act_335 ?_
            refine zTop (v := 15) (by decide) ?_
            refine hV.iload 1 dL_act_336 rfl ?_
            refine hV.if_ne_t (tgt := 354) dL_act_338 (by decide) (by decide) ?_
            refine hV.iload_n 6 dL_act_354 rfl ?_
            refine hV.iconst (v := 1) dL_act_355 (by decide) ?_
            refine hV.ishr dL_act_356 ?_
            refine hV.bipush (v := 21) dL_act_357 (by decide) ?_
            obtain ⟨w359, hw359, e359⟩ := lowL_N (y >>> (1 &&& 31)) (m := 21) (M := 21) rfl (by decide) (by decide)
            refine hV.callS1 (rest := [.int 15, .ref (a + 31)]) dL_act_359 (c_L_low G (by decide)) my_L_low ks_L_116 rfl rfl (Nat.le_of_ble_eq_true rfl) (Nat.le_of_ble_eq_true rfl) (Nat.le_of_ble_eq_true rfl) (Nat.le_of_ble_eq_true rfl) (Nat.le_of_ble_eq_true rfl) (st2 := [.int (lowL (y >>> (1 &&& 31)) 21), .int 15, .ref (a + 31)]) (k2 := 0) (g2 := 0) rfl rfl rfl ?_
            refine zTop (v := nI w359) e359 ?_
            refine hV.iast (j := 15) dL_act_362 ((To_out (by omega)).trans hg) ⟨by decide, by decide⟩ (by decide) ((To_z (by omega)).trans (congrArg (fun w => zTo w _ _ _ _ _ _ _ _ _ _) rfl)) ?_
            refine hV.aload_n 4 dL_act_363 rfl ?_
            refine hV.iload 1 dL_act_364 rfl ?_
            refine hV.aload_n 7 dL_act_366 rfl ?_
            refine hV.bipush (v := 14) dL_act_367 (by decide) ?_
            refine hV.iload 1 dL_act_369 rfl ?_
            refine hV.iadd dL_act_371 ?_
            refine zTop (v := 15) (by decide) ?_
            refine hV.iald (j := 15) dL_act_372 ((To_out (by omega)).trans zput_at) ⟨by decide, by decide⟩ (by decide) ?_
            refine zTop (v := nI w359) (va_up_self _ _ _) ?_
            refine hV.callSH3 (rest := []) dL_act_373 (WL_set_ok (by omega) (by omega) (by omega) To_o (c_X4_set_1 G hu hv (zExt_loc hx (fun q hq => (zput_ne (by omega)))) (w := nI w359) (inV_T (inV_N (lo := 0) (hi := 20) (by omega) (by omega) (by decide))))) my_L_set ks_L_127 rfl rfl (Nat.le_of_ble_eq_true rfl) (Nat.le_of_ble_eq_true rfl) (Nat.le_of_ble_eq_true rfl) (Nat.le_of_ble_eq_true rfl) (Nat.le_of_ble_eq_true rfl) (st2 := [.int (β 0 15)]) (k2 := 11) (g2 := 235) rfl rfl rfl (fun h10 n10 hn10 hs10 => ?_)
            obtain ⟨y10, rf10, rfl, hsv10⟩ := hs10
            refine hV.iload 0 dL_act_376 rfl ?_
            refine hV.icmp_ne_f (tgt := 407) dL_act_378 (by decide) (hR.1.s2.trans (vg.at (i := 15) (k := 15) (by omega) (by rfl)).symm) ?_
            refine hV.aload_n 4 dL_act_381 rfl ?_
            refine hV.iconst (v := 0) dL_act_382 (by decide) ?_
            refine hV.iconst (v := 0) dL_act_383 (by decide) ?_
            refine hV.callSH3 (rest := []) dL_act_384 (WL_set_x2 (by omega) (by omega) (by omega) To_o (c_X4_set_x2 G (by decide))) my_L_set ks_L_127 rfl rfl (Nat.le_of_ble_eq_true rfl) (Nat.le_of_ble_eq_true rfl) (Nat.le_of_ble_eq_true rfl) (Nat.le_of_ble_eq_true rfl) (Nat.le_of_ble_eq_true rfl) (st2 := [.int (-32)]) (k2 := 22) (g2 := 470) rfl rfl rfl (fun h11 n11 hn11 hs11 => ?_)
            obtain ⟨rfl, hq11⟩ := hs11
            refine hV.bipush (v := (-32)) dL_act_387 (by decide) ?_
            refine hV.icmp_ne_f (tgt := 407) dL_act_389 (by decide) (by decide) ?_
            refine hV.aload_n 4 dL_act_392 rfl ?_
            refine hV.iconst (v := 2) dL_act_393 (by decide) ?_
            refine hV.iconst (v := 0) dL_act_394 (by decide) ?_
            refine hV.callSH3 (rest := []) dL_act_395 (WL_set_x1 (by omega) (by omega) (by omega) To_o (c_X4_set_x1 G (by decide))) my_L_set ks_L_127 rfl rfl (Nat.le_of_ble_eq_true rfl) (Nat.le_of_ble_eq_true rfl) (Nat.le_of_ble_eq_true rfl) (Nat.le_of_ble_eq_true rfl) (Nat.le_of_ble_eq_true rfl) (st2 := [.int (-31)]) (k2 := 33) (g2 := 705) rfl rfl rfl (fun h12 n12 hn12 hs12 => ?_)
            obtain ⟨rfl, hq12⟩ := hs12
            refine hV.bipush (v := (-31)) dL_act_398 (by decide) ?_
            refine hV.icmp_ne_f (tgt := 407) dL_act_400 (by decide) (by decide) ?_
            refine hV.iconst (v := 1) dL_act_403 (by decide) ?_
            refine hV.goto (tgt := 408) dL_act_404 (by decide) ?_
            exact hE.1 dL_act_408 rfl rfl (Nat.le_of_ble_eq_true rfl) (Nat.le_of_ble_eq_true rfl) (zRTi rfl (SX_s hu hv hsv10 (by omega) ⟨zput_at, ((zput_ne (by omega)).trans hp), ((zput_ne (by omega)).trans hk), ((zput_ne (by omega)).trans ht)⟩ (VV.mono (VV_num hR hI vg vp vk vt (i := 15) (j := 15) (RV_s2 hR.1 _) (by omega) (nn (by omega))) (by omega))))
        · refine hV.icmp_ne_t (tgt := 409) dL_act_311 (by decide) (fun q => absurd ((nI_eq (a := w3) (b := 6) (by omega) (by omega)).mp q) c311_6) ?_
          refine hV.iload 1 dL_act_409 rfl ?_
          refine hV.bipush (v := 7) dL_act_411 (by decide) ?_
          by_cases c413_13 : w3 = 7
          · refine hV.icmp_ne_f (tgt := 459) dL_act_413 (by decide) ((nI_eq (a := w3) (b := 7) (by omega) (by omega)).mpr c413_13) ?_
            refine hV.aload_n 5 dL_act_416 rfl ?_
            refine hV.bipush (v := 13) dL_act_417 (by decide) ?_
            refine hV.iald (j := 13) dL_act_419 ((To_out (by omega)).trans hg) ⟨by decide, by decide⟩ (by decide) ?_
            refine hV.istore (ls2 := [(9, .int (g 13)), (8, .int (nI w11)), (7, .int (nI w3)), (0, .ref a), (1, .int x), (2, .int y), (3, .ref (a + 31)), (4, .ref (a + 32)), (5, .ref (a + 33)), (6, .ref (a + 34))]) dL_act_420 (by decide) rfl ?_
            refine hV.aload_n 6 dL_act_422 rfl ?_
            refine hV.bipush (v := 13) dL_act_423 (by decide) ?_
            refine hV.iload_n 5 dL_act_425 rfl ?_
            refine hV.ldc dL_act_426 kc_L_8 ?_
            obtain ⟨w428, hw428, e428⟩ := and_N y
            refine hV.iand dL_act_428 ?_
            refine zTop (v := nI w428) e428 ?_
            refine hV.iast (j := 13) dL_act_429 ((To_out (by omega)).trans hg) ⟨by decide, by decide⟩ (by decide) ((To_z (by omega)).trans (congrArg (fun w => zTo w _ _ _ _ _ _ _ _ _ _) rfl)) ?_
            refine hV.aload_n 3 dL_act_430 rfl ?_
            refine hV.aload_n 6 dL_act_431 rfl ?_
            refine hV.bipush (v := 13) dL_act_432 (by decide) ?_
            refine hV.iald (j := 13) dL_act_434 ((To_out (by omega)).trans zput_at) ⟨by decide, by decide⟩ (by decide) ?_
            refine zTop (v := nI w428) (va_up_self _ _ _) ?_
            refine hV.callSH3 (rest := []) dL_act_435 (WL_shuffle_ok (by omega) (by omega) (by omega) To_o (c_X4_shuffle G hu hv (zExt_loc hx (fun q hq => (zput_ne (by omega)))) (w := nI w428) (inV_T (inV_N (lo := 0) (hi := 2147483647) (by omega) (by omega) (by decide))))) my_L_shuffle ks_L_130 rfl rfl (Nat.le_of_ble_eq_true rfl) (Nat.le_of_ble_eq_true rfl) (Nat.le_of_ble_eq_true rfl) (Nat.le_of_ble_eq_true rfl) (Nat.le_of_ble_eq_true rfl) (st2 := [.int (β 0 13)]) (k2 := 11) (g2 := 235) rfl rfl rfl (fun h14 n14 hn14 hs14 => ?_)
            obtain ⟨y14, rf14, rfl, hsv14⟩ := hs14
            refine hV.iload 0 dL_act_438 rfl ?_
            refine hV.icmp_ne_f (tgt := 457) dL_act_440 (by decide) (hR.1.x.trans (vg.at (i := 13) (k := 0) (by omega) (by rfl)).symm) ?_
            refine hV.aload_n 3 dL_act_443 rfl ?_
            refine hV.iconst (v := (-1)) dL_act_444 (by decide) ?_
            refine hV.callSH3 (rest := []) dL_act_445 (WL_shuffle_x1 (by omega) (by omega) (by omega) To_o (c_X4_shuffle_x1 G (by decide))) my_L_shuffle ks_L_130 rfl rfl (Nat.le_of_ble_eq_true rfl) (Nat.le_of_ble_eq_true rfl) (Nat.le_of_ble_eq_true rfl) (Nat.le_of_ble_eq_true rfl) (Nat.le_of_ble_eq_true rfl) (st2 := [.int (-32)]) (k2 := 22) (g2 := 470) rfl rfl rfl (fun h15 n15 hn15 hs15 => ?_)
            obtain ⟨rfl, hq15⟩ := hs15
            refine hV.bipush (v := (-32)) dL_act_448 (by decide) ?_
            refine hV.icmp_ne_f (tgt := 457) dL_act_450 (by decide) (by decide) ?_
            refine hV.iconst (v := 1) dL_act_453 (by decide) ?_
            refine hV.goto (tgt := 458) dL_act_454 (by decide) ?_
            exact hE.1 dL_act_458 rfl rfl (Nat.le_of_ble_eq_true rfl) (Nat.le_of_ble_eq_true rfl) (zRTi rfl (SX_s hu hv hsv14 (by omega) ⟨zput_at, ((zput_ne (by omega)).trans hp), ((zput_ne (by omega)).trans hk), ((zput_ne (by omega)).trans ht)⟩ (VV.mono (VV_num hR hI vg vp vk vt (i := 13) (j := 0) (RV_x hR.1 _) (by omega) (nn (by omega))) (by omega))))
          · refine hV.icmp_ne_t (tgt := 459) dL_act_413 (by decide) (fun q => absurd ((nI_eq (a := w3) (b := 7) (by omega) (by omega)).mp q) c413_13) ?_
            refine hV.iload 1 dL_act_459 rfl ?_
            refine hV.bipush (v := 8) dL_act_461 (by decide) ?_
            by_cases c463_16 : w3 = 8
            · refine hV.icmp_ne_f (tgt := 521) dL_act_463 (by decide) ((nI_eq (a := w3) (b := 8) (by omega) (by omega)).mpr c463_16) ?_
              refine hV.iconst (v := 1) dL_act_466 (by decide) ?_
              refine hV.iload_n 4 dL_act_467 rfl ?_
              refine hV.bipush (v := 99) dL_act_468 (by decide) ?_
              obtain ⟨w470, hw470, e470⟩ := lowL_N y (m := 99) (M := 99) rfl (by decide) (by decide)
              refine hV.callS1 (rest := [.int 1]) dL_act_470 (c_L_low G (by decide)) my_L_low ks_L_116 rfl rfl (Nat.le_of_ble_eq_true rfl) (Nat.le_of_ble_eq_true rfl) (Nat.le_of_ble_eq_true rfl) (Nat.le_of_ble_eq_true rfl) (Nat.le_of_ble_eq_true rfl) (st2 := [.int (lowL y 99), .int 1]) (k2 := 0) (g2 := 0) rfl rfl rfl ?_
              refine zTop (v := nI w470) e470 ?_
              refine hV.iaddN (a := 1) (b := w470) dL_act_473 ?_
              refine hV.istore (ls2 := [(9, .int (nI (1 + w470))), (8, .int (nI w11)), (7, .int (nI w3)), (0, .ref a), (1, .int x), (2, .int y), (3, .ref (a + 31)), (4, .ref (a + 32)), (5, .ref (a + 33)), (6, .ref (a + 34))]) dL_act_474 (by decide) rfl ?_
              refine hV.aload_n 6 dL_act_476 rfl ?_
              refine hV.iconst (v := 0) dL_act_477 (by decide) ?_
              refine hV.dup2 dL_act_478 rfl rfl ?_
              refine hV.iald (j := 0) dL_act_479 ((To_out (by omega)).trans hg) ⟨by decide, by decide⟩ (by decide) ?_
              refine hV.iload 0 dL_act_480 rfl ?_
              refine hV.iadd dL_act_482 ?_
              refine hV.iast (j := 0) dL_act_483 ((To_out (by omega)).trans hg) ⟨by decide, by decide⟩ (by decide) ((To_z (by omega)).trans (congrArg (fun w => zTo w _ _ _ _ _ _ _ _ _ _) rfl)) ?_
              refine hV.aload_n 6 dL_act_484 rfl ?_
              refine hV.iconst (v := 1) dL_act_485 (by decide) ?_
              refine hV.dup2 dL_act_486 rfl rfl ?_
              refine hV.iald (j := 1) dL_act_487 ((To_out (by omega)).trans zput_at) ⟨by decide, by decide⟩ (by decide) ?_
              refine zTop (v := g 1) ((va_ne (by omega)).trans (rfl)) ?_
              refine hV.iload 0 dL_act_488 rfl ?_
              refine hV.iadd dL_act_490 ?_
              refine hV.iast (j := 1) dL_act_491 ((To_out (by omega)).trans zput_at) ⟨by decide, by decide⟩ (by decide) ((To_z (by omega)).trans (congrArg (fun w => zTo w _ _ _ _ _ _ _ _ _ _) zput_zput)) ?_
              refine hV.aload_n 3 dL_act_492 rfl ?_
              refine hV.iload 0 dL_act_493 rfl ?_
              refine hV.callSH3 (rest := []) dL_act_495 (WL_buy_ok (by omega) (by omega) (by omega) To_o (c_X4_buy G hu hv (zExt_loc hx (fun q hq => (zput_ne (by omega)))) (w := nI (1 + w470)) (inV_T (inV_N (lo := 1) (hi := 99) (by omega) (by omega) (by decide))))) my_L_buy ks_L_132 rfl rfl (Nat.le_of_ble_eq_true rfl) (Nat.le_of_ble_eq_true rfl) (Nat.le_of_ble_eq_true rfl) (Nat.le_of_ble_eq_true rfl) (Nat.le_of_ble_eq_true rfl) (st2 := [.int (buyB β (nI (1 + w470)) 0 0)]) (k2 := 11) (g2 := 235) rfl rfl rfl (fun h17 n17 hn17 hs17 => ?_)
              obtain ⟨y17, rf17, rfl, hsv17⟩ := hs17
              refine hV.aload_n 6 dL_act_498 rfl ?_
              refine hV.iconst (v := 0) dL_act_499 (by decide) ?_
              refine hV.iald (j := 0) dL_act_500 ((To_out (by omega)).trans ((hsv17.1 _ (by omega)).trans zput_at)) ⟨by decide, by decide⟩ (by decide) ?_
              refine zTop (v := (g 0) + (nI (1 + w470))) ((va_ne (by omega)).trans (va_up_self _ _ _)) ?_
              refine hV.icmp_ne_f (tgt := 519) dL_act_501 (by decide) (VV_buy hR hI vg vp vk vt _).2 ?_
              refine hV.aload_n 3 dL_act_504 rfl ?_
              refine hV.bipush (v := 100) dL_act_505 (by decide) ?_
              refine hV.callSH3 (rest := []) dL_act_507 (WL_buy_x1 (by omega) (by omega) (by omega) To_o (c_X4_buy_x1 G (by decide))) my_L_buy ks_L_132 rfl rfl (Nat.le_of_ble_eq_true rfl) (Nat.le_of_ble_eq_true rfl) (Nat.le_of_ble_eq_true rfl) (Nat.le_of_ble_eq_true rfl) (Nat.le_of_ble_eq_true rfl) (st2 := [.int (-32)]) (k2 := 22) (g2 := 470) rfl rfl rfl (fun h18 n18 hn18 hs18 => ?_)
              obtain ⟨rfl, hq18⟩ := hs18
              refine hV.bipush (v := (-32)) dL_act_510 (by decide) ?_
              refine hV.icmp_ne_f (tgt := 519) dL_act_512 (by decide) (by decide) ?_
              refine hV.iconst (v := 1) dL_act_515 (by decide) ?_
              refine hV.goto (tgt := 520) dL_act_516 (by decide) ?_
              exact hE.1 dL_act_520 rfl rfl (Nat.le_of_ble_eq_true rfl) (Nat.le_of_ble_eq_true rfl) (zRTi rfl (SX_s hu hv hsv17 (by omega) ⟨zput_at, ((zput_ne (by omega)).trans hp), ((zput_ne (by omega)).trans hk), ((zput_ne (by omega)).trans ht)⟩ (VV.mono (VV_buy hR hI vg vp vk vt _).1 (by omega))))
            · refine hV.icmp_ne_t (tgt := 521) dL_act_463 (by decide) (fun q => absurd ((nI_eq (a := w3) (b := 8) (by omega) (by omega)).mp q) c463_16) ?_
              refine hV.iload 1 dL_act_521 rfl ?_
              refine hV.bipush (v := 11) dL_act_523 (by decide) ?_
              by_cases c525_19 : 11 ≤ w3
              · refine hV.icmp_ge_t (tgt := 593) dL_act_525 (by decide) ((nI_leI (a := 11) (b := w3) (by omega) (by omega)).mpr c525_19) ?_
                refine hV.iconst (v := 1) dL_act_593 (by decide) ?_
                refine hV.iload_n 4 dL_act_594 rfl ?_
                refine hV.iconst (v := 3) dL_act_595 (by decide) ?_
                refine hV.ishr dL_act_596 ?_
                refine hV.bipush (v := 30) dL_act_597 (by decide) ?_
                obtain ⟨w599, hw599, e599⟩ := lowL_N (y >>> (3 &&& 31)) (m := 30) (M := 30) rfl (by decide) (by decide)
                refine hV.callS1 (rest := [.int 1]) dL_act_599 (c_L_low G (by decide)) my_L_low ks_L_116 rfl rfl (Nat.le_of_ble_eq_true rfl) (Nat.le_of_ble_eq_true rfl) (Nat.le_of_ble_eq_true rfl) (Nat.le_of_ble_eq_true rfl) (Nat.le_of_ble_eq_true rfl) (st2 := [.int (lowL (y >>> (3 &&& 31)) 30), .int 1]) (k2 := 0) (g2 := 0) rfl rfl rfl ?_
                refine zTop (v := nI w599) e599 ?_
                refine hV.iaddN (a := 1) (b := w599) dL_act_602 ?_
                refine hV.istore (ls2 := [(9, .int (nI (1 + w599))), (8, .int (nI w11)), (7, .int (nI w3)), (0, .ref a), (1, .int x), (2, .int y), (3, .ref (a + 31)), (4, .ref (a + 32)), (5, .ref (a + 33)), (6, .ref (a + 34))]) dL_act_603 (by decide) rfl ?_
                refine hV.iconst (v := 0) dL_act_605 (by decide) ?_
                refine hV.istore (ls2 := [(10, .int 0), (9, .int (nI (1 + w599))), (8, .int (nI w11)), (7, .int (nI w3)), (0, .ref a), (1, .int x), (2, .int y), (3, .ref (a + 31)), (4, .ref (a + 32)), (5, .ref (a + 33)), (6, .ref (a + 34))]) dL_act_606 (by decide) rfl ?_
                refine hV.iconst (v := 0) dL_act_608 (by decide) ?_
                refine hV.istore (ls2 := [(11, .int 0), (10, .int 0), (9, .int (nI (1 + w599))), (8, .int (nI w11)), (7, .int (nI w3)), (0, .ref a), (1, .int x), (2, .int y), (3, .ref (a + 31)), (4, .ref (a + 32)), (5, .ref (a + 33)), (6, .ref (a + 34))]) dL_act_609 (by decide) rfl ?_
                refine zHeap (h2 := zTo (zput (zput (zput h (a + 31) (some (.inl (19, .inl g)))) (a + 33) (some (.inl (35, .inl k)))) (a + 34) (some (.inl (8, .inl t)))) a β τ (nI u) (nI v) rf φ c π sn) (by rw [zput_self hg, zput_self hk, zput_self ht]) ?_
                have loop : ∀ (r i9 : Nat) (g4 k4 t4 : Nat → Int32) (z4 : zZ) (pd : Int32), i9 + r = 1 + w599 → (plZ w11 (1 + w599) (z, 0) = plZ w11 r (z4, pd)) → (VG z4 g4) → (VK z4 k4) → (VT z4 t4) → (VP z4 pins) → (ZI (B + i9) z4) → (VI z4) → V 611 [(11, .int (nI i9)), (10, .int pd), (9, .int (nI (1 + w599))), (8, .int (nI w11)), (0, .ref a), (1, .int x), (2, .int y), (3, .ref (a + 31)), (4, .ref (a + 32)), (5, .ref (a + 33)), (6, .ref (a + 34))] [] (zTo (zput (zput (zput h (a + 31) (some (.inl (19, .inl g4)))) (a + 33) (some (.inl (35, .inl k4)))) (a + 34) (some (.inl (8, .inl t4)))) a β τ (nI u) (nI v) rf φ c π sn) n 0 0 := by
                  intro r
                  induction r with
                  | zero =>
                    intro i9 g4 k4 t4 z4 pd hi9 he vg4 vk4 vt4 vp4 hz4 hv4
                    refine hV.iload 0 dL_act_611 rfl ?_
                    refine hV.iload 2 dL_act_613 rfl ?_
                    refine hV.icmp_ge_t (tgt := 647) dL_act_615 (by decide) ((nI_leI (a := 1 + w599) (b := i9) (by omega) (by omega)).mpr (by omega)) ?_
                    have hpl := VV_pl hR (show w11 < 7 by omega) he (Or.inl rfl) hv4 vg4 vp4 vk4 vt4
                    refine hV.aload_n 4 dL_act_647 rfl ?_
                    refine hV.iload 3 dL_act_648 rfl ?_
                    refine hV.iload 2 dL_act_650 rfl ?_
                    refine hV.callSH3 (rest := []) dL_act_652 (WL_play_ok (by omega) (by omega) (by omega) To_o (c_X4_play G hu hv (zExt_loc hx (fun q hq => ((zput_ne (by omega)).trans ((zput_ne (by omega)).trans (zput_ne (by omega)))))) (RB.pin hR) (c1 := w11) (m := 1 + w599) (by omega) (by omega) (by omega))) my_L_play ks_L_136 rfl rfl (Nat.le_of_ble_eq_true rfl) (Nat.le_of_ble_eq_true rfl) (Nat.le_of_ble_eq_true rfl) (Nat.le_of_ble_eq_true rfl) (Nat.le_of_ble_eq_true rfl) (st2 := [.int ((plB w11 (1 + w599) (β, 0)).2)]) (k2 := 11) (g2 := 235) rfl rfl rfl (fun h20 n20 hn20 hs20 => ?_)
                    obtain ⟨y20, rf20, rfl, hsv20⟩ := hs20
                    refine hV.iload 1 dL_act_655 rfl ?_
                    refine hV.icmp_ne_f (tgt := 689) dL_act_657 (by decide) hpl.2 ?_
                    refine hV.aload_n 4 dL_act_660 rfl ?_
                    refine hV.iload 3 dL_act_661 rfl ?_
                    refine hV.bipush (v := 31) dL_act_663 (by decide) ?_
                    refine hV.callSH3 (rest := []) dL_act_665 (WL_play_x2 (by omega) (by omega) (by omega) To_o (c_X4_play_x2 G (inV_T (inV_c6 (by omega))) (by decide))) my_L_play ks_L_136 rfl rfl (Nat.le_of_ble_eq_true rfl) (Nat.le_of_ble_eq_true rfl) (Nat.le_of_ble_eq_true rfl) (Nat.le_of_ble_eq_true rfl) (Nat.le_of_ble_eq_true rfl) (st2 := [.int (-32)]) (k2 := 22) (g2 := 470) rfl rfl rfl (fun h21 n21 hn21 hs21 => ?_)
                    obtain ⟨rfl, hq21⟩ := hs21
                    refine hV.bipush (v := (-32)) dL_act_668 (by decide) ?_
                    refine hV.icmp_ne_f (tgt := 689) dL_act_670 (by decide) (by decide) ?_
                    refine hV.aload_n 4 dL_act_673 rfl ?_
                    refine hV.bipush (v := 7) dL_act_674 (by decide) ?_
                    refine hV.iconst (v := 0) dL_act_676 (by decide) ?_
                    refine hV.callSH3 (rest := []) dL_act_677 (WL_play_x1 (by omega) (by omega) (by omega) To_o (c_X4_play_x1 G (by decide))) my_L_play ks_L_136 rfl rfl (Nat.le_of_ble_eq_true rfl) (Nat.le_of_ble_eq_true rfl) (Nat.le_of_ble_eq_true rfl) (Nat.le_of_ble_eq_true rfl) (Nat.le_of_ble_eq_true rfl) (st2 := [.int (-31)]) (k2 := 33) (g2 := 705) rfl rfl rfl (fun h22 n22 hn22 hs22 => ?_)
                    obtain ⟨rfl, hq22⟩ := hs22
                    refine hV.bipush (v := (-31)) dL_act_680 (by decide) ?_
                    refine hV.icmp_ne_f (tgt := 689) dL_act_682 (by decide) (by decide) ?_
                    refine hV.iconst (v := 1) dL_act_685 (by decide) ?_
                    refine hV.goto (tgt := 690) dL_act_686 (by decide) ?_
                    exact hE.1 dL_act_690 rfl rfl (Nat.le_of_ble_eq_true rfl) (Nat.le_of_ble_eq_true rfl) (zRTi rfl (SX_s hu hv hsv20 (by omega) ⟨((zput_ne (by omega)).trans ((zput_ne (by omega)).trans zput_at)), ((zput_ne (by omega)).trans ((zput_ne (by omega)).trans ((zput_ne (by omega)).trans hp))), ((zput_ne (by omega)).trans zput_at), zput_at⟩ (VV.mono hpl.1 (by omega))))
                  | succ r ih =>
                    intro i9 g4 k4 t4 z4 pd hi9 he vg4 vk4 vt4 vp4 hz4 hv4
                    refine hV.iload 0 dL_act_611 rfl ?_
                    refine hV.iload 2 dL_act_613 rfl ?_
                    refine hV.icmp_ge_f (tgt := 647) dL_act_615 (by decide) (fun q => absurd ((nI_leI (a := 1 + w599) (b := i9) (by omega) (by omega)).mp q) (by omega)) ?_
                    refine hV.aload_n 7 dL_act_618 rfl ?_
                    refine hV.iconst (v := 0) dL_act_619 (by decide) ?_
                    refine hV.iald (j := 0) dL_act_620 ((To_out (by omega)).trans ((zput_ne (by omega)).trans ((zput_ne (by omega)).trans zput_at))) ⟨by decide, by decide⟩ (by decide) ?_
                    by_cases c621_23 : (g4 0) ≤ 0
                    · refine hV.if_le_t (tgt := 647) dL_act_621 (by decide) c621_23 ?_
                      have hpl := VV_pl hR (show w11 < 7 by omega) he (Or.inr (Int32.le_trans (Int32.le_of_eq (vg4.at (k := 1) (by omega) (by rfl)).symm) c621_23)) hv4 vg4 vp4 vk4 vt4
                      refine hV.aload_n 4 dL_act_647 rfl ?_
                      refine hV.iload 3 dL_act_648 rfl ?_
                      refine hV.iload 2 dL_act_650 rfl ?_
                      refine hV.callSH3 (rest := []) dL_act_652 (WL_play_ok (by omega) (by omega) (by omega) To_o (c_X4_play G hu hv (zExt_loc hx (fun q hq => ((zput_ne (by omega)).trans ((zput_ne (by omega)).trans (zput_ne (by omega)))))) (RB.pin hR) (c1 := w11) (m := 1 + w599) (by omega) (by omega) (by omega))) my_L_play ks_L_136 rfl rfl (Nat.le_of_ble_eq_true rfl) (Nat.le_of_ble_eq_true rfl) (Nat.le_of_ble_eq_true rfl) (Nat.le_of_ble_eq_true rfl) (Nat.le_of_ble_eq_true rfl) (st2 := [.int ((plB w11 (1 + w599) (β, 0)).2)]) (k2 := 11) (g2 := 235) rfl rfl rfl (fun h24 n24 hn24 hs24 => ?_)
                      obtain ⟨y24, rf24, rfl, hsv24⟩ := hs24
                      refine hV.iload 1 dL_act_655 rfl ?_
                      refine hV.icmp_ne_f (tgt := 689) dL_act_657 (by decide) hpl.2 ?_
                      refine hV.aload_n 4 dL_act_660 rfl ?_
                      refine hV.iload 3 dL_act_661 rfl ?_
                      refine hV.bipush (v := 31) dL_act_663 (by decide) ?_
                      refine hV.callSH3 (rest := []) dL_act_665 (WL_play_x2 (by omega) (by omega) (by omega) To_o (c_X4_play_x2 G (inV_T (inV_c6 (by omega))) (by decide))) my_L_play ks_L_136 rfl rfl (Nat.le_of_ble_eq_true rfl) (Nat.le_of_ble_eq_true rfl) (Nat.le_of_ble_eq_true rfl) (Nat.le_of_ble_eq_true rfl) (Nat.le_of_ble_eq_true rfl) (st2 := [.int (-32)]) (k2 := 22) (g2 := 470) rfl rfl rfl (fun h25 n25 hn25 hs25 => ?_)
                      obtain ⟨rfl, hq25⟩ := hs25
                      refine hV.bipush (v := (-32)) dL_act_668 (by decide) ?_
                      refine hV.icmp_ne_f (tgt := 689) dL_act_670 (by decide) (by decide) ?_
                      refine hV.aload_n 4 dL_act_673 rfl ?_
                      refine hV.bipush (v := 7) dL_act_674 (by decide) ?_
                      refine hV.iconst (v := 0) dL_act_676 (by decide) ?_
                      refine hV.callSH3 (rest := []) dL_act_677 (WL_play_x1 (by omega) (by omega) (by omega) To_o (c_X4_play_x1 G (by decide))) my_L_play ks_L_136 rfl rfl (Nat.le_of_ble_eq_true rfl) (Nat.le_of_ble_eq_true rfl) (Nat.le_of_ble_eq_true rfl) (Nat.le_of_ble_eq_true rfl) (Nat.le_of_ble_eq_true rfl) (st2 := [.int (-31)]) (k2 := 33) (g2 := 705) rfl rfl rfl (fun h26 n26 hn26 hs26 => ?_)
                      obtain ⟨rfl, hq26⟩ := hs26
                      refine hV.bipush (v := (-31)) dL_act_680 (by decide) ?_
                      refine hV.icmp_ne_f (tgt := 689) dL_act_682 (by decide) (by decide) ?_
                      refine hV.iconst (v := 1) dL_act_685 (by decide) ?_
                      refine hV.goto (tgt := 690) dL_act_686 (by decide) ?_
                      exact hE.1 dL_act_690 rfl rfl (Nat.le_of_ble_eq_true rfl) (Nat.le_of_ble_eq_true rfl) (zRTi rfl (SX_s hu hv hsv24 (by omega) ⟨((zput_ne (by omega)).trans ((zput_ne (by omega)).trans zput_at)), ((zput_ne (by omega)).trans ((zput_ne (by omega)).trans ((zput_ne (by omega)).trans hp))), ((zput_ne (by omega)).trans zput_at), zput_at⟩ (VV.mono hpl.1 (by omega))))
                    · refine hV.if_le_f (tgt := 647) dL_act_621 (by decide) c621_23 ?_
                      refine hV.iload 1 dL_act_624 rfl ?_
                      refine hV.iload 3 dL_act_626 rfl ?_
                      refine hV.aload_n 7 dL_act_628 rfl ?_
                      refine hV.aload 8 dL_act_629 rfl ?_
                      refine hV.aload 9 dL_act_631 rfl ?_
                      refine hV.aload 10 dL_act_633 rfl ?_
                      refine hV.callS1 (rest := [.int pd]) dL_act_635 (c_L_launched G (g := g4) (pins := pins) (k := k4) (t := t4) (c := w11) (by omega) ((To_out (by omega)).trans ((zput_ne (by omega)).trans ((zput_ne (by omega)).trans zput_at))) ((To_out (by omega)).trans ((zput_ne (by omega)).trans ((zput_ne (by omega)).trans ((zput_ne (by omega)).trans hp)))) ((To_out (by omega)).trans ((zput_ne (by omega)).trans zput_at)) ((To_out (by omega)).trans zput_at) (by omega) hpin) my_L_launched ks_L_75 rfl rfl (Nat.le_of_ble_eq_true rfl) (Nat.le_of_ble_eq_true rfl) (Nat.le_of_ble_eq_true rfl) (Nat.le_of_ble_eq_true rfl) (Nat.le_of_ble_eq_true rfl) (st2 := [.int (lV pins g4 k4 t4 w11), .int pd]) (k2 := 0) (g2 := 0) rfl rfl rfl ?_
                      refine zHeap (h2 := zTo (zput (zput (zput h (a + 31) (some (.inl (19, .inl (lG pins g4 k4 t4 w11))))) (a + 33) (some (.inl (35, .inl (lK pins g4 k4 t4 w11))))) (a + 34) (some (.inl (8, .inl (lT pins g4 t4 w11))))) a β τ (nI u) (nI v) rf φ c π sn) ((congrArg (fun w => zput (zput (w) _ _) _ _) ((To_z (by omega)).trans (congrArg (fun w => zTo w _ _ _ _ _ _ _ _ _ _) ((zput_sw (by omega)).trans (congrArg (fun z => zput z _ _) ((zput_sw (by omega)).trans (congrArg (fun z => zput z _ _) zput_zput))))))).trans ((congrArg (fun w => zput (w) _ _) ((To_z (by omega)).trans (congrArg (fun w => zTo w _ _ _ _ _ _ _ _ _ _) ((zput_sw (by omega)).trans (congrArg (fun z => zput z _ _) zput_zput))))).trans ((To_z (by omega)).trans (congrArg (fun w => zTo w _ _ _ _ _ _ _ _ _ _) zput_zput)))) ?_
                      refine hV.iadd dL_act_638 ?_
                      refine hV.istore (ls2 := [(10, .int (pd + (lV pins g4 k4 t4 w11))), (11, .int (nI i9)), (9, .int (nI (1 + w599))), (8, .int (nI w11)), (0, .ref a), (1, .int x), (2, .int y), (3, .ref (a + 31)), (4, .ref (a + 32)), (5, .ref (a + 33)), (6, .ref (a + 34))]) dL_act_639 (by decide) rfl ?_
                      refine hV.iinc 1 (v := nI (i9 + 1)) (ls2 := [(11, .int (nI (i9 + 1))), (10, .int (pd + (lV pins g4 k4 t4 w11))), (9, .int (nI (1 + w599))), (8, .int (nI w11)), (0, .ref a), (1, .int x), (2, .int y), (3, .ref (a + 31)), (4, .ref (a + 32)), (5, .ref (a + 33)), (6, .ref (a + 34))]) dL_act_641 rfl (nI_1 _) (by decide) rfl ?_
                      refine hV.goto (tgt := 611) dL_act_644 (by decide) ?_
                      exact ih (i9 + 1) _ _ _ _ _ (by omega) (pl_next he (fun e => c621_23 (Int32.le_trans (Int32.le_of_eq (vg4.at (k := 1) (by omega) (by rfl))) e)) (V_lch hz4 hv4 vg4 vp4 vk4 vt4 (c := w11) (by omega)).2.2.2.2) (V_lch hz4 hv4 vg4 vp4 vk4 vt4 (c := w11) (by omega)).1 (V_lch hz4 hv4 vg4 vp4 vk4 vt4 (c := w11) (by omega)).2.2.1 (V_lch hz4 hv4 vg4 vp4 vk4 vt4 (c := w11) (by omega)).2.2.2.1 (V_lch hz4 hv4 vg4 vp4 vk4 vt4 (c := w11) (by omega)).2.1 (ZI_lch hz4 (by omega)) (VI_lch hv4 (by omega))
                refine hV.pick [0, 1, 2, 3, 5, 6, 7, 8, 9, 10, 11] (ls2 := [(11, .int 0), (10, .int 0), (9, .int (nI (1 + w599))), (8, .int (nI w11)), (0, .ref a), (1, .int x), (2, .int y), (3, .ref (a + 31)), (4, .ref (a + 32)), (5, .ref (a + 33)), (6, .ref (a + 34))]) rfl ?_
                exact loop (1 + w599) 0 _ _ _ z 0 (by omega) rfl vg vk vt vp hR.2.2 hI
              · refine hV.icmp_ge_f (tgt := 593) dL_act_525 (by decide) (fun q => absurd ((nI_leI (a := 11) (b := w3) (by omega) (by omega)).mp q) c525_19) ?_
                refine hV.aload_n 5 dL_act_528 rfl ?_
                refine hV.iconst (v := 0) dL_act_529 (by decide) ?_
                refine hV.iald (j := 0) dL_act_530 ((To_out (by omega)).trans hg) ⟨by decide, by decide⟩ (by decide) ?_
                by_cases c531_27 : (g 0) = 0
                · refine hV.if_ne_f (tgt := 561) dL_act_531 (by decide) c531_27 ?_
                  refine hV.aload_n 2 dL_act_534 rfl ?_
                  refine hV.iload 0 dL_act_535 rfl ?_
                  refine hV.callSH3 (rest := []) dL_act_537 (WL_launch_x2 (by omega) (by omega) (by omega) To_o (c_X4_launch_x2 G (inV_T (inV_c6 (by omega))) ((hR.1.n (i := 0) (by omega)).trans ((vg.at (k := 1) (by omega) (by rfl)).symm.trans c531_27)))) my_L_launch ks_L_134 rfl rfl (Nat.le_of_ble_eq_true rfl) (Nat.le_of_ble_eq_true rfl) (Nat.le_of_ble_eq_true rfl) (Nat.le_of_ble_eq_true rfl) (Nat.le_of_ble_eq_true rfl) (st2 := [.int (-33)]) (k2 := 11) (g2 := 235) rfl rfl rfl (fun h28 n28 hn28 hs28 => ?_)
                  obtain ⟨rfl, hq28⟩ := hs28
                  refine hV.bipush (v := (-33)) dL_act_540 (by decide) ?_
                  refine hV.icmp_ne_f (tgt := 559) dL_act_542 (by decide) (by decide) ?_
                  refine hV.aload_n 2 dL_act_545 rfl ?_
                  refine hV.iconst (v := (-1)) dL_act_546 (by decide) ?_
                  refine hV.callSH3 (rest := []) dL_act_547 (WL_launch_x1 (by omega) (by omega) (by omega) To_o (c_X4_launch_x1 G (by decide))) my_L_launch ks_L_134 rfl rfl (Nat.le_of_ble_eq_true rfl) (Nat.le_of_ble_eq_true rfl) (Nat.le_of_ble_eq_true rfl) (Nat.le_of_ble_eq_true rfl) (Nat.le_of_ble_eq_true rfl) (st2 := [.int (-31)]) (k2 := 22) (g2 := 470) rfl rfl rfl (fun h29 n29 hn29 hs29 => ?_)
                  obtain ⟨rfl, hq29⟩ := hs29
                  refine hV.bipush (v := (-31)) dL_act_550 (by decide) ?_
                  refine hV.icmp_ne_f (tgt := 559) dL_act_552 (by decide) (by decide) ?_
                  refine hV.iconst (v := 1) dL_act_555 (by decide) ?_
                  refine hV.goto (tgt := 560) dL_act_556 (by decide) ?_
                  exact hE.1 dL_act_560 rfl rfl (Nat.le_of_ble_eq_true rfl) (Nat.le_of_ble_eq_true rfl) (zRTi rfl (SX_0 hu hv hx (by omega) ⟨hg, hp, hk, ht⟩ (VV.mono ⟨z, hR, hI, vg, vp, vk, vt⟩ (by omega))))
                · refine hV.if_ne_t (tgt := 561) dL_act_531 (by decide) c531_27 ?_
                  refine hV.iload 0 dL_act_561 rfl ?_
                  refine hV.aload_n 5 dL_act_563 rfl ?_
                  refine hV.aload 6 dL_act_564 rfl ?_
                  refine hV.aload 7 dL_act_566 rfl ?_
                  refine hV.aload 8 dL_act_568 rfl ?_
                  refine hV.callS1 (rest := []) dL_act_570 (c_L_launched G (g := g) (pins := pins) (k := k) (t := t) (c := w11) (by omega) ((To_out (by omega)).trans hg) ((To_out (by omega)).trans hp) ((To_out (by omega)).trans hk) ((To_out (by omega)).trans ht) (by omega) hpin) my_L_launched ks_L_75 rfl rfl (Nat.le_of_ble_eq_true rfl) (Nat.le_of_ble_eq_true rfl) (Nat.le_of_ble_eq_true rfl) (Nat.le_of_ble_eq_true rfl) (Nat.le_of_ble_eq_true rfl) (st2 := [.int (lV pins g k t w11)]) (k2 := 0) (g2 := 0) rfl rfl rfl ?_
                  refine zHeap (h2 := zTo (zput (zput (zput h (a + 31) (some (.inl (19, .inl (lG pins g k t w11))))) (a + 33) (some (.inl (35, .inl (lK pins g k t w11))))) (a + 34) (some (.inl (8, .inl (lT pins g t w11))))) a β τ (nI u) (nI v) rf φ c π sn) ((congrArg (fun w => zput (zput (w) _ _) _ _) ((To_z (by omega)).trans (congrArg (fun w => zTo w _ _ _ _ _ _ _ _ _ _) rfl))).trans ((congrArg (fun w => zput (w) _ _) ((To_z (by omega)).trans (congrArg (fun w => zTo w _ _ _ _ _ _ _ _ _ _) rfl))).trans ((To_z (by omega)).trans (congrArg (fun w => zTo w _ _ _ _ _ _ _ _ _ _) rfl)))) ?_
                  refine hV.pop dL_act_573 rfl ?_
                  refine hV.aload_n 2 dL_act_574 rfl ?_
                  refine hV.iload 0 dL_act_575 rfl ?_
                  refine hV.callSH3 (rest := []) dL_act_577 (WL_launch_ok (by omega) (by omega) (by omega) To_o (c_X4_launch G hu hv (zExt_loc hx (fun q hq => ((zput_ne (by omega)).trans ((zput_ne (by omega)).trans (zput_ne (by omega)))))) (RB.pin hR) (c1 := w11) (by omega) (fun e => c531_27 ((vg.at (k := 1) (by omega) (by rfl)).trans ((hR.1.n (i := 0) (by omega)).symm.trans e))))) my_L_launch ks_L_134 rfl rfl (Nat.le_of_ble_eq_true rfl) (Nat.le_of_ble_eq_true rfl) (Nat.le_of_ble_eq_true rfl) (Nat.le_of_ble_eq_true rfl) (Nat.le_of_ble_eq_true rfl) (st2 := [.int (lchB β w11 0 11)]) (k2 := 11) (g2 := 235) rfl rfl rfl (fun h30 n30 hn30 hs30 => ?_)
                  obtain ⟨y30, rf30, rfl, hsv30⟩ := hs30
                  refine hV.aload_n 5 dL_act_580 rfl ?_
                  refine hV.bipush (v := 11) dL_act_581 (by decide) ?_
                  refine hV.iald (j := 11) dL_act_583 ((To_out (by omega)).trans ((hsv30.1 _ (by omega)).trans ((zput_ne (by omega)).trans ((zput_ne (by omega)).trans zput_at)))) ⟨by decide, by decide⟩ (by decide) ?_
                  refine hV.icmp_ne_f (tgt := 591) dL_act_584 (by decide) (VV_lch hR hI vg vp vk vt (by omega)).2 ?_
                  refine hV.iconst (v := 1) dL_act_587 (by decide) ?_
                  refine hV.goto (tgt := 592) dL_act_588 (by decide) ?_
                  exact hE.1 dL_act_592 rfl rfl (Nat.le_of_ble_eq_true rfl) (Nat.le_of_ble_eq_true rfl) (zRTi rfl (SX_s hu hv hsv30 (by omega) ⟨((zput_ne (by omega)).trans ((zput_ne (by omega)).trans zput_at)), ((zput_ne (by omega)).trans ((zput_ne (by omega)).trans ((zput_ne (by omega)).trans hp))), ((zput_ne (by omega)).trans zput_at), zput_at⟩ (VV.mono (VV_lch hR hI vg vp vk vt (c := w11) (by omega)).1 (by omega))))
    · refine hV.icmp_ge_f (tgt := 261) dL_act_122 (by decide) (fun q => absurd ((nI_leI (a := 5) (b := w3) (by omega) (by omega)).mp q) c122_2) ?_
      refine hV.iload_n 4 dL_act_125 rfl ?_
      refine hV.iconst (v := 3) dL_act_126 (by decide) ?_
      refine hV.ishr dL_act_127 ?_
      refine hV.iconst (v := 3) dL_act_128 (by decide) ?_
      obtain ⟨w129, hw129, e129⟩ := lowL_N (y >>> (3 &&& 31)) (m := 3) (M := 3) rfl (by decide) (by decide)
      refine hV.callS1 (rest := []) dL_act_129 (c_L_low G (by decide)) my_L_low ks_L_116 rfl rfl (Nat.le_of_ble_eq_true rfl) (Nat.le_of_ble_eq_true rfl) (Nat.le_of_ble_eq_true rfl) (Nat.le_of_ble_eq_true rfl) (Nat.le_of_ble_eq_true rfl) (st2 := [.int (lowL (y >>> (3 &&& 31)) 3)]) (k2 := 0) (g2 := 0) rfl rfl rfl ?_
      refine zTop (v := nI w129) e129 ?_
      refine hV.istore (ls2 := [(9, .int (nI w129)), (8, .int (nI w11)), (7, .int (nI w3)), (0, .ref a), (1, .int x), (2, .int y), (3, .ref (a + 31)), (4, .ref (a + 32)), (5, .ref (a + 33)), (6, .ref (a + 34))]) dL_act_132 (by decide) rfl ?_
      refine hV.iload_n 5 dL_act_134 rfl ?_
      refine hV.iconst (v := 5) dL_act_135 (by decide) ?_
      refine hV.ishr dL_act_136 ?_
      refine hV.bipush (v := 16) dL_act_137 (by decide) ?_
      obtain ⟨w139, hw139, e139⟩ := lowL_N (y >>> (5 &&& 31)) (m := 16) (M := 16) rfl (by decide) (by decide)
      refine hV.callS1 (rest := []) dL_act_139 (c_L_low G (by decide)) my_L_low ks_L_116 rfl rfl (Nat.le_of_ble_eq_true rfl) (Nat.le_of_ble_eq_true rfl) (Nat.le_of_ble_eq_true rfl) (Nat.le_of_ble_eq_true rfl) (Nat.le_of_ble_eq_true rfl) (st2 := [.int (lowL (y >>> (5 &&& 31)) 16)]) (k2 := 0) (g2 := 0) rfl rfl rfl ?_
      refine zTop (v := nI w139) e139 ?_
      refine hV.istore (ls2 := [(10, .int (nI w139)), (9, .int (nI w129)), (8, .int (nI w11)), (7, .int (nI w3)), (0, .ref a), (1, .int x), (2, .int y), (3, .ref (a + 31)), (4, .ref (a + 32)), (5, .ref (a + 33)), (6, .ref (a + 34))]) dL_act_142 (by decide) rfl ?_
      refine hV.aload 9 dL_act_144 rfl ?_
      refine hV.iconst (v := 5) dL_act_146 (by decide) ?_
      refine hV.iload 2 dL_act_147 rfl ?_
      refine hV.imulN (a := 5) (b := w11) dL_act_149 ?_
      refine hV.iconst (v := 1) dL_act_150 (by decide) ?_
      refine hV.iaddN (a := 5 * w11) (b := 1) dL_act_151 ?_
      refine hV.iald (j := (5 * w11) + 1) dL_act_152 ((To_out (by omega)).trans hk) (zix_nI (by omega)) (by omega) ?_
      refine hV.istore (ls2 := [(11, .int (k ((5 * w11) + 1))), (10, .int (nI w139)), (9, .int (nI w129)), (8, .int (nI w11)), (7, .int (nI w3)), (0, .ref a), (1, .int x), (2, .int y), (3, .ref (a + 31)), (4, .ref (a + 32)), (5, .ref (a + 33)), (6, .ref (a + 34))]) dL_act_153 (by decide) rfl ?_
      refine hV.aload 10 dL_act_155 rfl ?_
      refine hV.iconst (v := 5) dL_act_157 (by decide) ?_
      refine hV.iload 3 dL_act_158 rfl ?_
      refine hV.imulN (a := 5) (b := w11) dL_act_160 ?_
      refine hV.iconst (v := 2) dL_act_161 (by decide) ?_
      refine hV.iaddN (a := 5 * w11) (b := 2) dL_act_162 ?_
      have j193 : V 193 [(11, .int (k ((5 * w11) + 1))), (10, .int (nI w139)), (9, .int (nI w129)), (8, .int (nI w11)), (7, .int (nI w3)), (0, .ref a), (1, .int x), (2, .int y), (3, .ref (a + 31)), (4, .ref (a + 32)), (5, .ref (a + 33)), (6, .ref (a + 34))] [.int (if nI w129 = 2 then (if k (5 * w11) = 2 then k ((5 * w11) + 2) else 0) else 0), .int (nI ((5 * w11) + 2)), .ref (a + 33)] (zTo h a β τ (nI u) (nI v) rf φ c π sn) n 0 0 → V 163 [(11, .int (k ((5 * w11) + 1))), (10, .int (nI w139)), (9, .int (nI w129)), (8, .int (nI w11)), (7, .int (nI w3)), (0, .ref a), (1, .int x), (2, .int y), (3, .ref (a + 31)), (4, .ref (a + 32)), (5, .ref (a + 33)), (6, .ref (a + 34))] [.int (nI ((5 * w11) + 2)), .ref (a + 33)] (zTo h a β τ (nI u) (nI v) rf φ c π sn) n 0 0 := by
        intro q
        refine hV.iload 2 dL_act_163 rfl ?_
        refine hV.iconst (v := 2) dL_act_165 (by decide) ?_
        by_cases c166_31 : (nI w129) = 2
        · refine hV.icmp_ne_f (tgt := 192) dL_act_166 (by decide) c166_31 ?_
          refine hV.aload 10 dL_act_169 rfl ?_
          refine hV.iconst (v := 5) dL_act_171 (by decide) ?_
          refine hV.iload 3 dL_act_172 rfl ?_
          refine hV.imulN (a := 5) (b := w11) dL_act_174 ?_
          refine hV.iald (j := 5 * w11) dL_act_175 ((To_out (by omega)).trans hk) (zix_nI (by omega)) (by omega) ?_
          refine hV.iconst (v := 2) dL_act_176 (by decide) ?_
          by_cases c177_32 : (k (5 * w11)) = 2
          · refine hV.icmp_ne_f (tgt := 192) dL_act_177 (by decide) c177_32 ?_
            refine hV.aload 10 dL_act_180 rfl ?_
            refine hV.iconst (v := 5) dL_act_182 (by decide) ?_
            refine hV.iload 3 dL_act_183 rfl ?_
            refine hV.imulN (a := 5) (b := w11) dL_act_185 ?_
            refine hV.iconst (v := 2) dL_act_186 (by decide) ?_
            refine hV.iaddN (a := 5 * w11) (b := 2) dL_act_187 ?_
            refine hV.iald (j := (5 * w11) + 2) dL_act_188 ((To_out (by omega)).trans hk) (zix_nI (by omega)) (by omega) ?_
            refine hV.goto (tgt := 193) dL_act_189 (by decide) ?_
            have e9 : (if nI w129 = 2 then (if k (5 * w11) = 2 then k ((5 * w11) + 2) else 0) else 0) = k ((5 * w11) + 2) := by rw [if_pos c166_31, if_pos c177_32]
            rw [e9] at q
            exact q
          · refine hV.icmp_ne_t (tgt := 192) dL_act_177 (by decide) c177_32 ?_
            refine hV.iconst (v := 0) dL_act_192 (by decide) ?_
            have e9 : (if nI w129 = 2 then (if k (5 * w11) = 2 then k ((5 * w11) + 2) else 0) else 0) = 0 := by rw [if_pos c166_31, if_neg c177_32]
            rw [e9] at q
            exact q
        · refine hV.icmp_ne_t (tgt := 192) dL_act_166 (by decide) c166_31 ?_
          refine hV.iconst (v := 0) dL_act_192 (by decide) ?_
          have e9 : (if nI w129 = 2 then (if k (5 * w11) = 2 then k ((5 * w11) + 2) else 0) else 0) = 0 := by rw [if_neg c166_31]
          rw [e9] at q
          exact q
      refine j193 ?_
      obtain ⟨x9, hx9⟩ : ∃ w : Int32, w = if nI w129 = 2 then (if k (5 * w11) = 2 then k ((5 * w11) + 2) else 0) else 0 := ⟨_, rfl⟩
      rw [← hx9]
      refine hV.iast (j := (5 * w11) + 2) dL_act_193 ((To_out (by omega)).trans hk) (zix_nI (by omega)) (by omega) ((To_z (by omega)).trans (congrArg (fun w => zTo w _ _ _ _ _ _ _ _ _ _) rfl)) ?_
      refine hV.aload 10 dL_act_194 rfl ?_
      refine hV.iconst (v := 5) dL_act_196 (by decide) ?_
      refine hV.iload 3 dL_act_197 rfl ?_
      refine hV.imulN (a := 5) (b := w11) dL_act_199 ?_
      refine hV.iload 2 dL_act_200 rfl ?_
      refine hV.iast (j := 5 * w11) dL_act_202 ((To_out (by omega)).trans zput_at) (zix_nI (by omega)) (by omega) ((To_z (by omega)).trans (congrArg (fun w => zTo w _ _ _ _ _ _ _ _ _ _) zput_zput)) ?_
      refine hV.aload 10 dL_act_203 rfl ?_
      refine hV.iconst (v := 5) dL_act_205 (by decide) ?_
      refine hV.iload 3 dL_act_206 rfl ?_
      refine hV.imulN (a := 5) (b := w11) dL_act_208 ?_
      refine hV.iconst (v := 1) dL_act_209 (by decide) ?_
      refine hV.iaddN (a := 5 * w11) (b := 1) dL_act_210 ?_
      refine hV.iload 1 dL_act_211 rfl ?_
      refine hV.iast (j := (5 * w11) + 1) dL_act_213 ((To_out (by omega)).trans zput_at) (zix_nI (by omega)) (by omega) ((To_z (by omega)).trans (congrArg (fun w => zTo w _ _ _ _ _ _ _ _ _ _) zput_zput)) ?_
      refine hV.aload_n 5 dL_act_214 rfl ?_
      refine hV.iload 3 dL_act_215 rfl ?_
      refine hV.iload 2 dL_act_217 rfl ?_
      refine hV.iload 1 dL_act_219 rfl ?_
      refine hV.callSH3 (rest := []) dL_act_221 (WL_pocket_ok (by omega) (by omega) (by omega) To_o (c_X4_pocket G hu hv (zExt_loc hx (fun q hq => (zput_ne (by omega)))) (p := w11) (q := nI w129) (w := nI w139) (by omega) (inV_T (inV_N (lo := 0) (hi := 2) (by omega) (by omega) (by decide))) (inV_T (inV_N (lo := 0) (hi := 15) (by omega) (by omega) (by decide))))) my_L_pocket ks_L_122 rfl rfl (Nat.le_of_ble_eq_true rfl) (Nat.le_of_ble_eq_true rfl) (Nat.le_of_ble_eq_true rfl) (Nat.le_of_ble_eq_true rfl) (Nat.le_of_ble_eq_true rfl) (st2 := [.int (β 5 w11)]) (k2 := 11) (g2 := 235) rfl rfl rfl (fun h33 n33 hn33 hs33 => ?_)
      obtain ⟨y33, rf33, rfl, hsv33⟩ := hs33
      refine hV.iload 0 dL_act_224 rfl ?_
      refine hV.icmp_ne_f (tgt := 259) dL_act_226 (by decide) ((hR.1.y (by omega)).trans (vk ((5 * w11) + 1) (by omega)).symm) ?_
      refine hV.aload_n 5 dL_act_229 rfl ?_
      refine hV.bipush (v := 7) dL_act_230 (by decide) ?_
      refine hV.iconst (v := 3) dL_act_232 (by decide) ?_
      refine hV.iconst (v := 0) dL_act_233 (by decide) ?_
      refine hV.callSH3 (rest := []) dL_act_234 (WL_pocket_x1 (by omega) (by omega) (by omega) To_o (c_X4_pocket_x1 G (by decide))) my_L_pocket ks_L_122 rfl rfl (Nat.le_of_ble_eq_true rfl) (Nat.le_of_ble_eq_true rfl) (Nat.le_of_ble_eq_true rfl) (Nat.le_of_ble_eq_true rfl) (Nat.le_of_ble_eq_true rfl) (st2 := [.int (-31)]) (k2 := 22) (g2 := 470) rfl rfl rfl (fun h34 n34 hn34 hs34 => ?_)
      obtain ⟨rfl, hq34⟩ := hs34
      refine hV.bipush (v := (-31)) dL_act_237 (by decide) ?_
      refine hV.icmp_ne_f (tgt := 259) dL_act_239 (by decide) (by decide) ?_
      refine hV.aload_n 5 dL_act_242 rfl ?_
      refine hV.iconst (v := 0) dL_act_243 (by decide) ?_
      refine hV.iconst (v := 0) dL_act_244 (by decide) ?_
      refine hV.bipush (v := 16) dL_act_245 (by decide) ?_
      refine hV.callSH3 (rest := []) dL_act_247 (WL_pocket_x2 (by omega) (by omega) (by omega) To_o (c_X4_pocket_x3 G (by decide) (by decide) (by decide))) my_L_pocket ks_L_122 rfl rfl (Nat.le_of_ble_eq_true rfl) (Nat.le_of_ble_eq_true rfl) (Nat.le_of_ble_eq_true rfl) (Nat.le_of_ble_eq_true rfl) (Nat.le_of_ble_eq_true rfl) (st2 := [.int (-32)]) (k2 := 33) (g2 := 705) rfl rfl rfl (fun h35 n35 hn35 hs35 => ?_)
      obtain ⟨rfl, hq35⟩ := hs35
      refine hV.bipush (v := (-32)) dL_act_250 (by decide) ?_
      refine hV.icmp_ne_f (tgt := 259) dL_act_252 (by decide) (by decide) ?_
      refine hV.iconst (v := 1) dL_act_255 (by decide) ?_
      refine hV.goto (tgt := 260) dL_act_256 (by decide) ?_
      exact hE.1 dL_act_260 rfl rfl (Nat.le_of_ble_eq_true rfl) (Nat.le_of_ble_eq_true rfl) (zRTi rfl (SX_s hu hv hsv33 (by omega) ⟨((zput_ne (by omega)).trans hg), ((zput_ne (by omega)).trans hp), zput_at, ((zput_ne (by omega)).trans ht)⟩ (VV.mono (VV_poc hR hI vg vp vk vt (p := w11) (by omega) (n3 (by omega)) ⟨_, by omega, rfl⟩ hx9) (by omega))))
  · refine hV.icmp_ge_f (tgt := 119) dL_act_19 (by decide) (fun q => absurd ((nI_leI (a := 3) (b := w3) (by omega) (by omega)).mp q) c19_1) ?_
    refine hV.iload_n 4 dL_act_22 rfl ?_
    refine hV.iconst (v := 3) dL_act_23 (by decide) ?_
    refine hV.ishr dL_act_24 ?_
    refine hV.bipush (v := 8) dL_act_25 (by decide) ?_
    obtain ⟨w27, hw27, e27⟩ := lowL_N (y >>> (3 &&& 31)) (m := 8) (M := 8) rfl (by decide) (by decide)
    refine hV.callS1 (rest := []) dL_act_27 (c_L_low G (by decide)) my_L_low ks_L_116 rfl rfl (Nat.le_of_ble_eq_true rfl) (Nat.le_of_ble_eq_true rfl) (Nat.le_of_ble_eq_true rfl) (Nat.le_of_ble_eq_true rfl) (Nat.le_of_ble_eq_true rfl) (st2 := [.int (lowL (y >>> (3 &&& 31)) 8)]) (k2 := 0) (g2 := 0) rfl rfl rfl ?_
    refine zTop (v := nI w27) e27 ?_
    refine hV.istore (ls2 := [(9, .int (nI w27)), (8, .int (nI w11)), (7, .int (nI w3)), (0, .ref a), (1, .int x), (2, .int y), (3, .ref (a + 31)), (4, .ref (a + 32)), (5, .ref (a + 33)), (6, .ref (a + 34))]) dL_act_30 (by decide) rfl ?_
    refine hV.iload_n 5 dL_act_32 rfl ?_
    refine hV.bipush (v := 6) dL_act_33 (by decide) ?_
    refine hV.ishr dL_act_35 ?_
    refine hV.iconst (v := 3) dL_act_36 (by decide) ?_
    obtain ⟨w37, hw37, e37⟩ := lowL_N (y >>> (6 &&& 31)) (m := 3) (M := 3) rfl (by decide) (by decide)
    refine hV.callS1 (rest := []) dL_act_37 (c_L_low G (by decide)) my_L_low ks_L_116 rfl rfl (Nat.le_of_ble_eq_true rfl) (Nat.le_of_ble_eq_true rfl) (Nat.le_of_ble_eq_true rfl) (Nat.le_of_ble_eq_true rfl) (Nat.le_of_ble_eq_true rfl) (st2 := [.int (lowL (y >>> (6 &&& 31)) 3)]) (k2 := 0) (g2 := 0) rfl rfl rfl ?_
    refine zTop (v := nI w37) e37 ?_
    refine hV.iconst (v := 1) dL_act_40 (by decide) ?_
    refine hV.isub dL_act_41 ?_
    refine hV.istore (ls2 := [(10, .int ((nI w37) - 1)), (9, .int (nI w27)), (8, .int (nI w11)), (7, .int (nI w3)), (0, .ref a), (1, .int x), (2, .int y), (3, .ref (a + 31)), (4, .ref (a + 32)), (5, .ref (a + 33)), (6, .ref (a + 34))]) dL_act_42 (by decide) rfl ?_
    refine hV.aload 8 dL_act_44 rfl ?_
    refine hV.bipush (v := 7) dL_act_46 (by decide) ?_
    refine hV.iload 1 dL_act_48 rfl ?_
    refine hV.imulN (a := 7) (b := w27) dL_act_50 ?_
    refine hV.iload 2 dL_act_51 rfl ?_
    refine hV.iaddN (a := 7 * w27) (b := w11) dL_act_53 ?_
    refine hV.iald (j := (7 * w27) + w11) dL_act_54 ((To_out (by omega)).trans hp) (zix_nI (by omega)) (by omega) ?_
    refine hV.istore (ls2 := [(11, .int (pins ((7 * w27) + w11))), (10, .int ((nI w37) - 1)), (9, .int (nI w27)), (8, .int (nI w11)), (7, .int (nI w3)), (0, .ref a), (1, .int x), (2, .int y), (3, .ref (a + 31)), (4, .ref (a + 32)), (5, .ref (a + 33)), (6, .ref (a + 34))]) dL_act_55 (by decide) rfl ?_
    refine hV.aload 9 dL_act_57 rfl ?_
    refine hV.bipush (v := 7) dL_act_59 (by decide) ?_
    refine hV.iload 2 dL_act_61 rfl ?_
    refine hV.imulN (a := 7) (b := w27) dL_act_63 ?_
    refine hV.iload 3 dL_act_64 rfl ?_
    refine hV.iaddN (a := 7 * w27) (b := w11) dL_act_66 ?_
    refine hV.iload 1 dL_act_67 rfl ?_
    refine hV.iast (j := (7 * w27) + w11) dL_act_69 ((To_out (by omega)).trans hp) (zix_nI (by omega)) (by omega) ((To_z (by omega)).trans (congrArg (fun w => zTo w _ _ _ _ _ _ _ _ _ _) rfl)) ?_
    refine hV.aload_n 5 dL_act_70 rfl ?_
    refine hV.iload 2 dL_act_71 rfl ?_
    refine hV.iload 3 dL_act_73 rfl ?_
    refine hV.iload 1 dL_act_75 rfl ?_
    refine hV.callSH3 (rest := []) dL_act_77 (WL_bend_ok (by omega) (by omega) (by omega) To_o (c_X4_bend G hu hv (zExt_loc hx (fun q hq => (zput_ne (by omega)))) (r := w27) (c1 := w11) (m := bpC z 56) (t := (nI w37) - 1) (by omega) (by omega) (RB_16 hR).1 (RB_16 hR).2.1 ((RB_16 hR).2.2 _ (by omega)) (triV (q := w37) (by omega)))) my_L_bend ks_L_119 rfl rfl (Nat.le_of_ble_eq_true rfl) (Nat.le_of_ble_eq_true rfl) (Nat.le_of_ble_eq_true rfl) (Nat.le_of_ble_eq_true rfl) (Nat.le_of_ble_eq_true rfl) (st2 := [.int (β 1 (w27 * 7 + w11) + 1)]) (k2 := 11) (g2 := 235) rfl rfl rfl (fun h36 n36 hn36 hs36 => ?_)
    obtain ⟨y36, rf36, rfl, hsv36⟩ := hs36
    refine hV.iload 0 dL_act_80 rfl ?_
    refine hV.iconst (v := 1) dL_act_82 (by decide) ?_
    refine hV.iadd dL_act_83 ?_
    refine hV.icmp_ne_f (tgt := 117) dL_act_84 (by decide) (congrArg (fun w => w + 1) ((hR.1.p (by omega)).trans ((congrArg z (by omega)).trans (vp _ (by omega)).symm))) ?_
    refine hV.aload_n 5 dL_act_87 rfl ?_
    refine hV.bipush (v := 8) dL_act_88 (by decide) ?_
    refine hV.iconst (v := 0) dL_act_90 (by decide) ?_
    refine hV.iconst (v := 2) dL_act_91 (by decide) ?_
    refine hV.callSH3 (rest := []) dL_act_92 (WL_bend_x1 (by omega) (by omega) (by omega) To_o (c_X4_bend_x1 G (by decide))) my_L_bend ks_L_119 rfl rfl (Nat.le_of_ble_eq_true rfl) (Nat.le_of_ble_eq_true rfl) (Nat.le_of_ble_eq_true rfl) (Nat.le_of_ble_eq_true rfl) (Nat.le_of_ble_eq_true rfl) (st2 := [.int (-31)]) (k2 := 22) (g2 := 470) rfl rfl rfl (fun h37 n37 hn37 hs37 => ?_)
    obtain ⟨rfl, hq37⟩ := hs37
    refine hV.bipush (v := (-31)) dL_act_95 (by decide) ?_
    refine hV.icmp_ne_f (tgt := 117) dL_act_97 (by decide) (by decide) ?_
    refine hV.aload_n 5 dL_act_100 rfl ?_
    refine hV.iconst (v := 0) dL_act_101 (by decide) ?_
    refine hV.iconst (v := 0) dL_act_102 (by decide) ?_
    refine hV.bipush (v := (-2)) dL_act_103 (by decide) ?_
    refine hV.callSH3 (rest := []) dL_act_105 (WL_bend_x2 (by omega) (by omega) (by omega) To_o (c_X4_bend_x3 G (by decide) (by decide) (by decide))) my_L_bend ks_L_119 rfl rfl (Nat.le_of_ble_eq_true rfl) (Nat.le_of_ble_eq_true rfl) (Nat.le_of_ble_eq_true rfl) (Nat.le_of_ble_eq_true rfl) (Nat.le_of_ble_eq_true rfl) (st2 := [.int (-32)]) (k2 := 33) (g2 := 705) rfl rfl rfl (fun h38 n38 hn38 hs38 => ?_)
    obtain ⟨rfl, hq38⟩ := hs38
    refine hV.bipush (v := (-32)) dL_act_108 (by decide) ?_
    refine hV.icmp_ne_f (tgt := 117) dL_act_110 (by decide) (by decide) ?_
    refine hV.iconst (v := 1) dL_act_113 (by decide) ?_
    refine hV.goto (tgt := 118) dL_act_114 (by decide) ?_
    exact hE.1 dL_act_118 rfl rfl (Nat.le_of_ble_eq_true rfl) (Nat.le_of_ble_eq_true rfl) (zRTi rfl (SX_s hu hv hsv36 (by omega) ⟨((zput_ne (by omega)).trans hg), zput_at, ((zput_ne (by omega)).trans hk), ((zput_ne (by omega)).trans ht)⟩ (VV.mono (VV_bend hR hI vg vp vk vt (r := w27) (by omega) (by omega) (tri (q := w37) (by omega))) (by omega))))

