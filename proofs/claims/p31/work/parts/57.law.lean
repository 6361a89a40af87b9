/-! The law's body -/
def CEL (V : zVT) (b : Nat) : Prop := ∀ {pc : Nat} {ls : List (Nat × Value)} {h : zH} {n k g j : Nat}, j < 2 ^ 31 → k ≤ 600130 → g ≤ 7301080 → decode code pc = .ok (.invokestatic 152, 3) → (∀ v : Int32, V (pc + 3) ls [.int v] h n k g) → V pc ls [.int (nI j), .ref b] h n k g
def LRT (V : zVT) : Prop := ∀ {ls : List (Nat × Value)} {h : zH} {n k g : Nat}, k ≤ 600130 → g ≤ 7301080 → V 354 ls [.int 1] h n k g
theorem SX.mono {B C a n : Nat} {H : zH} (h : SX B a n H) (hBC : B ≤ C) : SX C a n H := by
  obtain ⟨h, β, τ, u, v, rf, φ, c, π, sn, ρ, κ, g, pins, k, t, e, hu, hv, hx, hL, hV⟩ := h
  exact ⟨h, β, τ, u, v, rf, φ, c, π, sn, ρ, κ, g, pins, k, t, e, hu, hv, hx, hL, hV.mono hBC⟩
/-! where it begins -/
def gN0 : Nat → Int32 := va_up (va_up (va_up (va_up (va_up (va_up (va_up (fun _ => 0) 11 (-1)) 12 3) 13 1) 14 6) 15 8) 17 1) 18 2
def pN0 : Nat → Int32 := fun _ => 0
def kN0 : Nat → Int32 := va_up (va_up (va_up (va_up (va_up (va_up (va_up (va_up (va_up (va_up (fun _ => 0) 5 2) 6 3) 10 1) 11 10) 15 0) 16 2) 20 1) 21 10) 25 2) 26 3
def tN0 : Nat → Int32 := va_up (va_up (va_up (va_up (va_up (va_up (va_up (va_up (fun _ => 0) 0 (-1)) 1 (-1)) 2 (-1)) 3 (-1)) 4 (-1)) 5 (-1)) 6 (-1)) 7 (-1)
theorem RV_new : RV bd0 zM0 := ⟨by decide +kernel, ⟨by decide +kernel, by decide +kernel, by decide +kernel⟩, by decide +kernel, by decide +kernel, by decide +kernel, by decide +kernel, by decide +kernel, by decide +kernel, by decide +kernel, by decide +kernel⟩
theorem zM0_pin : ∀ i, i < 56 → zM0 (20 + i) = 0 := by decide +kernel
theorem zM0_stp : ∀ i, i < 56 → zM0 (76 + i) = 0 := by decide +kernel
theorem zM0_kd : ∀ p, p < 7 → zM0 (132 + 5 * p) = 0 ∨ zM0 (132 + 5 * p) = 1 ∨ zM0 (132 + 5 * p) = 2 := by decide +kernel
theorem zM0_py : ∀ p, p < 7 → zM0 (132 + 5 * p + 1) = nI ([0, 3, 10, 2, 10, 3, 0].getD p 0) ∧ [0, 3, 10, 2, 10, 3, 0].getD p 0 ≤ 15 := by decide +kernel
theorem RB_new : RB 0 bd0 zM0 := by
  refine ⟨RV_new, ⟨0, 0, fun _ => 0, fun _ => 0, by decide +kernel, by decide +kernel, fun a ha => absurd ha (by omega), fun i hi hz => absurd (zM0_pin i hi) hz, fun i hi => ⟨zM0_stp i hi, Nat.le_refl _⟩, fun a b _ hb => absurd hb (by omega), Nat.le_refl _⟩, ⟨1, by decide, by decide +kernel⟩, fun i hi => Or.inl (zM0_pin i hi), by decide +kernel, by decide +kernel, fun p hp => ⟨zM0_kd p hp, _, (zM0_py p hp).2, (zM0_py p hp).1⟩, 0, 0, by decide +kernel, by decide +kernel, Nat.le_refl _, Nat.le_refl _⟩
theorem VI_new : VI zM0 := ⟨by decide +kernel, by decide +kernel, by decide +kernel, by decide +kernel⟩
theorem VG_new : VG zM0 gN0 := by
  show ∀ i, i < 19 → gN0 i = zM0 (gi i)
  decide +kernel
theorem VP_new : VP zM0 pN0 := by
  show ∀ i, i < 56 → pN0 i = zM0 (20 + i)
  decide +kernel
theorem VK_new : VK zM0 kN0 := by
  show ∀ i, i < 35 → kN0 i = zM0 (132 + i)
  decide +kernel
theorem VT_new : VT zM0 tN0 := by
  show ∀ i, i < 8 → tN0 i = zM0 (167 + i)
  decide +kernel
set_option maxHeartbeats 1000000 in
theorem law_loop {l : Launch} {D : va_G} {base : Nat} {Sx : Nat → (Nat → Int32) → Prop} {V : zVT} {X : zXT} {yy : MethodName} (hV : zLaws l D base code RL yy room_1 9 Sx V X) (G : l.stackTraces = false) {a b : Nat} (cel : CEL V b) (lrt : LRT V) : ∀ (r t : Nat) {B n k g : Nat} {H : zH}, t + r = 40 → B ≤ 31 * t → k ≤ 200 + 40 * t → g ≤ 5000 + 800 * t → SX B a n H → V 223 [(6, .int (nI t)), (0, .ref b), (1, .ref a), (2, .ref (a + 31)), (3, .ref (a + 32)), (4, .ref (a + 33)), (5, .ref (a + 34))] [] H n k g := by
  intro r
  induction r with
  | zero =>
    intro t B n k g H h1 h2 h3 h4 hst
    refine hV.iload 0 dL_law_223 rfl ?_
    refine hV.bipush (v := 40) dL_law_225 (by decide) ?_
    refine hV.icmp_ge_t (tgt := 353) dL_law_227 (by decide) ((nI_leI (a := 40) (b := t) (by omega) (by omega)).mpr (by omega)) ?_
    refine hV.iconst (v := 1) dL_law_353 (by decide) ?_
    exact lrt (by omega) (by omega)
  | succ r ih =>
    intro t B n k g H h1 h2 h3 h4 hst
    obtain ⟨Ah0, Ab0, At0, Au0, Av0, Arf0, Aphi0, Ac0, Api0, Asn0, Arho0, Akap0, Ag0, Ap0, Ak0, Ats0, rfl, Ahu0, Ahv0, Ahx0, AhL0, Az0, AhR0, AhI0, Avg0, Avp0, Avk0, Avt0⟩ := hst
    have hBB0 : B < 2 ^ 27 := by omega
    refine hV.iload 0 dL_law_223 rfl ?_
    refine hV.bipush (v := 40) dL_law_225 (by decide) ?_
    refine hV.icmp_ge_f (tgt := 353) dL_law_227 (by decide) (fun q => absurd ((nI_leI (a := 40) (b := t) (by omega) (by omega)).mp q) (by omega)) ?_
    refine hV.aload_n 1 dL_law_230 rfl ?_
    refine hV.iconst (v := 2) dL_law_231 (by decide) ?_
    refine hV.iload 0 dL_law_232 rfl ?_
    refine hV.imulN (a := 2) (b := t) dL_law_234 ?_
    refine cel (by omega) (by omega) (by omega) dL_law_235 (fun v235 => ?_)
    refine hV.istore (ls2 := [(7, .int v235), (6, .int (nI t)), (0, .ref b), (1, .ref a), (2, .ref (a + 31)), (3, .ref (a + 32)), (4, .ref (a + 33)), (5, .ref (a + 34))]) dL_law_238 (by decide) rfl ?_
    refine hV.aload_n 2 dL_law_240 rfl ?_
    refine hV.iconst (v := 2) dL_law_241 (by decide) ?_
    refine hV.iload 1 dL_law_242 rfl ?_
    refine hV.imulN (a := 2) (b := t) dL_law_244 ?_
    refine hV.iconst (v := 1) dL_law_245 (by decide) ?_
    refine hV.iaddN (a := 2 * t) (b := 1) dL_law_246 ?_
    refine cel (by omega) (by omega) (by omega) dL_law_247 (fun v247 => ?_)
    refine hV.istore (ls2 := [(8, .int v247), (7, .int v235), (6, .int (nI t)), (0, .ref b), (1, .ref a), (2, .ref (a + 31)), (3, .ref (a + 32)), (4, .ref (a + 33)), (5, .ref (a + 34))]) dL_law_250 (by decide) rfl ?_
    refine hV.aload_n 4 dL_law_252 rfl ?_
    refine hV.iload 2 dL_law_253 rfl ?_
    by_cases c255_1 : t = 0
    · refine hV.if_ne_f (tgt := 263) dL_law_255 (by decide) ((nI_eq (a := t) (b := 0) (by omega) (by omega)).mpr c255_1) ?_
      refine hV.bipush (v := 8) dL_law_258 (by decide) ?_
      refine hV.goto (tgt := 265) dL_law_260 (by decide) ?_
      refine hV.iload 0 dL_law_265 rfl ?_
      refine hV.aload_n 5 dL_law_267 rfl ?_
      refine hV.aload_n 6 dL_law_268 rfl ?_
      refine hV.aload 7 dL_law_269 rfl ?_
      refine hV.aload 8 dL_law_271 rfl ?_
      refine hV.callS3 (rest := []) dL_law_273 (c_L_act G Ahu0 Ahv0 Ahx0 AhL0.1 AhL0.2.1 AhL0.2.2.1 AhL0.2.2.2 AhR0 AhI0 Avg0 Avp0 Avk0 Avt0 hBB0 (x := 8) (y := v247)) my_L_act ks_L_155 rfl rfl (Nat.le_of_ble_eq_true rfl) (Nat.le_of_ble_eq_true rfl) (Nat.le_of_ble_eq_true rfl) (show k + 33 ≤ 600130 by omega) (show g + 705 ≤ 7301080 by omega) (st2 := [.int 1]) (k2 := k + 33) (g2 := g + 705) rfl rfl rfl (fun h2 n2 hn2 hs2 => ?_)
      obtain ⟨Ah2, Ab2, At2, Au2, Av2, Arf2, Aphi2, Ac2, Api2, Asn2, Arho2, Akap2, Ag2, Ap2, Ak2, Ats2, rfl, Ahu2, Ahv2, Ahx2, AhL2, Az2, AhR2, AhI2, Avg2, Avp2, Avk2, Avt2⟩ := hs2
      have hBB2 : B + 31 < 2 ^ 27 := by omega
      refine hV.if_eq_f (tgt := 292) dL_law_276 (by decide) (by decide) ?_
      refine hV.aload_n 4 dL_law_279 rfl ?_
      refine hV.aload_n 5 dL_law_280 rfl ?_
      refine hV.aload_n 6 dL_law_281 rfl ?_
      refine hV.aload 7 dL_law_282 rfl ?_
      refine hV.aload 8 dL_law_284 rfl ?_
      refine hV.callS1 (rest := []) dL_law_286 (c_L_isSo G AhL2.1 AhL2.2.1 AhL2.2.2.1 AhL2.2.2.2 AhR2 AhI2 Avg2 Avp2 Avk2 Avt2 hBB2) my_L_isSo ks_L_139 rfl rfl (Nat.le_of_ble_eq_true rfl) (Nat.le_of_ble_eq_true rfl) (Nat.le_of_ble_eq_true rfl) (show k + 33 + 0 ≤ 600130 by omega) (show g + 705 + 0 ≤ 7301080 by omega) (st2 := [.int 1]) (k2 := k + 33) (g2 := g + 705) rfl rfl rfl ?_
      refine hV.if_ne_t (tgt := 294) dL_law_289 (by decide) (by decide) ?_
      refine hV.iload 2 dL_law_294 rfl ?_
      refine hV.iconst (v := 3) dL_law_296 (by decide) ?_
      refine hV.irem dL_law_297 (by decide) ?_
      refine zTop (v := nI (t % 3)) (nI_modL (i := t) (m := 3) (by omega) (by omega)) ?_
      refine hV.iconst (v := 2) dL_law_298 (by decide) ?_
      by_cases c299_3 : t % 3 = 2
      · refine hV.icmp_ne_f (tgt := 324) dL_law_299 (by decide) ((nI_eq (a := t % 3) (b := 2) (by omega) (by omega)).mpr c299_3) ?_
        refine hV.aload_n 4 dL_law_302 rfl ?_
        refine hV.iload 1 dL_law_303 rfl ?_
        refine hV.iconst (v := 5) dL_law_305 (by decide) ?_
        refine hV.ishr dL_law_306 ?_
        refine hV.bipush (v := 7) dL_law_307 (by decide) ?_
        obtain ⟨w309, hw309, e309⟩ := lowL_N (v235 >>> (5 &&& 31)) (m := 7) (M := 7) rfl (by decide) (by decide)
        refine hV.callS1 (rest := [.ref a]) dL_law_309 (c_L_low G (by decide)) my_L_low ks_L_116 rfl rfl (Nat.le_of_ble_eq_true rfl) (Nat.le_of_ble_eq_true rfl) (Nat.le_of_ble_eq_true rfl) (show k + 33 + 0 ≤ 600130 by omega) (show g + 705 + 0 ≤ 7301080 by omega) (st2 := [.int (lowL (v235 >>> (5 &&& 31)) 7), .ref a]) (k2 := k + 33) (g2 := g + 705) rfl rfl rfl ?_
        refine zTop (v := nI w309) e309 ?_
        refine hV.aload_n 5 dL_law_312 rfl ?_
        refine hV.aload_n 6 dL_law_313 rfl ?_
        refine hV.aload 7 dL_law_314 rfl ?_
        refine hV.aload 8 dL_law_316 rfl ?_
        refine hV.callS3 (rest := []) dL_law_318 (c_L_isAhead G AhL2.1 AhL2.2.1 AhL2.2.2.1 AhL2.2.2.2 AhR2 AhI2 Avg2 Avp2 Avk2 Avt2 hBB2 (c1 := w309) (by omega) (by have := Ahx2.1; omega)) my_L_isAhead ks_L_159 rfl rfl (Nat.le_of_ble_eq_true rfl) (Nat.le_of_ble_eq_true rfl) (Nat.le_of_ble_eq_true rfl) (show k + 33 + 3 ≤ 600130 by omega) (show g + 705 + 62 ≤ 7301080 by omega) (st2 := [.int 1]) (k2 := k + 33 + 3) (g2 := g + 705 + 62) rfl rfl rfl (fun h4 n4 hn4 hs4 => ?_)
        obtain ⟨Yh4, Yt4, rfl, Yl4, Yn4⟩ := hs4
        refine hV.if_eq_f (tgt := 345) dL_law_321 (by decide) (by decide) ?_
        refine hV.iload 2 dL_law_324 rfl ?_
        refine hV.bipush (v := 8) dL_law_326 (by decide) ?_
        refine hV.irem dL_law_328 (by decide) ?_
        refine zTop (v := nI (t % 8)) (nI_modL (i := t) (m := 8) (by omega) (by omega)) ?_
        refine hV.bipush (v := 7) dL_law_329 (by decide) ?_
        by_cases c331_5 : t % 8 = 7
        · refine hV.icmp_ne_f (tgt := 347) dL_law_331 (by decide) ((nI_eq (a := t % 8) (b := 7) (by omega) (by omega)).mpr c331_5) ?_
          refine hV.aload_n 4 dL_law_334 rfl ?_
          refine hV.aload_n 5 dL_law_335 rfl ?_
          refine hV.aload_n 6 dL_law_336 rfl ?_
          refine hV.aload 7 dL_law_337 rfl ?_
          refine hV.callS3 (rest := []) dL_law_339 (c_L_isBest G ((Yl4 _ (by have := Ahx2.1; omega)).trans AhL2.1) ((Yl4 _ (by have := Ahx2.1; omega)).trans AhL2.2.1) ((Yl4 _ (by have := Ahx2.1; omega)).trans AhL2.2.2.1) ((Yl4 _ (by have := Ahx2.1; omega)).trans AhL2.2.2.2) AhR2 AhI2 Avg2 Avp2 Avk2 Avt2 hBB2 (by have := (zExt_lo Ahx2 Yl4).1; omega)) my_L_isBest ks_L_143 rfl rfl (Nat.le_of_ble_eq_true rfl) (Nat.le_of_ble_eq_true rfl) (Nat.le_of_ble_eq_true rfl) (show k + 33 + 3 + 1 ≤ 600130 by omega) (show g + 705 + 62 + 8 ≤ 7301080 by omega) (st2 := [.int 1]) (k2 := k + 33 + 3 + 1) (g2 := g + 705 + 62 + 8) rfl rfl rfl (fun h6 n6 hn6 hs6 => ?_)
          obtain ⟨Yh6, Yp6, rfl, Yl6, Yn6⟩ := hs6
          refine hV.if_ne_t (tgt := 347) dL_law_342 (by decide) (by decide) ?_
          refine hV.iinc 2 (v := nI (t + 1)) (ls2 := [(6, .int (nI (t + 1))), (8, .int v247), (7, .int v235), (0, .ref b), (1, .ref a), (2, .ref (a + 31)), (3, .ref (a + 32)), (4, .ref (a + 33)), (5, .ref (a + 34))]) dL_law_347 rfl (nI_1 _) (by decide) rfl ?_
          refine hV.goto (tgt := 223) dL_law_350 (by decide) ?_
          refine hV.pick [0, 3, 4, 5, 6, 7, 8] (ls2 := [(6, .int (nI (t + 1))), (0, .ref b), (1, .ref a), (2, .ref (a + 31)), (3, .ref (a + 32)), (4, .ref (a + 33)), (5, .ref (a + 34))]) rfl ?_
          exact ih (t + 1) (B := B + 31) (by omega) (by omega) (by omega) (by omega) ⟨Yh6, Ab2, Yt4, Au2, Av2, Arf2, Aphi2, Ac2, Yp6, Asn2, Arho2, Akap2, Ag2, Ap2, Ak2, Ats2, rfl, Ahu2, Ahv2, (zExt_lo ((zExt_lo Ahx2 Yl4).mono (by omega)) Yl6).mono (by omega), ⟨((Yl6 _ (by have := (zExt_lo Ahx2 Yl4).1; omega)).trans ((Yl4 _ (by have := Ahx2.1; omega)).trans AhL2.1)), ((Yl6 _ (by have := (zExt_lo Ahx2 Yl4).1; omega)).trans ((Yl4 _ (by have := Ahx2.1; omega)).trans AhL2.2.1)), ((Yl6 _ (by have := (zExt_lo Ahx2 Yl4).1; omega)).trans ((Yl4 _ (by have := Ahx2.1; omega)).trans AhL2.2.2.1)), ((Yl6 _ (by have := (zExt_lo Ahx2 Yl4).1; omega)).trans ((Yl4 _ (by have := Ahx2.1; omega)).trans AhL2.2.2.2))⟩, ⟨Az2, AhR2, AhI2, Avg2, Avp2, Avk2, Avt2⟩⟩
        · refine hV.icmp_ne_t (tgt := 347) dL_law_331 (by decide) (fun q => absurd ((nI_eq (a := t % 8) (b := 7) (by omega) (by omega)).mp q) c331_5) ?_
          refine hV.iinc 2 (v := nI (t + 1)) (ls2 := [(6, .int (nI (t + 1))), (8, .int v247), (7, .int v235), (0, .ref b), (1, .ref a), (2, .ref (a + 31)), (3, .ref (a + 32)), (4, .ref (a + 33)), (5, .ref (a + 34))]) dL_law_347 rfl (nI_1 _) (by decide) rfl ?_
          refine hV.goto (tgt := 223) dL_law_350 (by decide) ?_
          refine hV.pick [0, 3, 4, 5, 6, 7, 8] (ls2 := [(6, .int (nI (t + 1))), (0, .ref b), (1, .ref a), (2, .ref (a + 31)), (3, .ref (a + 32)), (4, .ref (a + 33)), (5, .ref (a + 34))]) rfl ?_
          exact ih (t + 1) (B := B + 31) (by omega) (by omega) (by omega) (by omega) ⟨Yh4, Ab2, Yt4, Au2, Av2, Arf2, Aphi2, Ac2, Api2, Asn2, Arho2, Akap2, Ag2, Ap2, Ak2, Ats2, rfl, Ahu2, Ahv2, (zExt_lo Ahx2 Yl4).mono (by omega), ⟨((Yl4 _ (by have := Ahx2.1; omega)).trans AhL2.1), ((Yl4 _ (by have := Ahx2.1; omega)).trans AhL2.2.1), ((Yl4 _ (by have := Ahx2.1; omega)).trans AhL2.2.2.1), ((Yl4 _ (by have := Ahx2.1; omega)).trans AhL2.2.2.2)⟩, ⟨Az2, AhR2, AhI2, Avg2, Avp2, Avk2, Avt2⟩⟩
      · refine hV.icmp_ne_t (tgt := 324) dL_law_299 (by decide) (fun q => absurd ((nI_eq (a := t % 3) (b := 2) (by omega) (by omega)).mp q) c299_3) ?_
        refine hV.iload 2 dL_law_324 rfl ?_
        refine hV.bipush (v := 8) dL_law_326 (by decide) ?_
        refine hV.irem dL_law_328 (by decide) ?_
        refine zTop (v := nI (t % 8)) (nI_modL (i := t) (m := 8) (by omega) (by omega)) ?_
        refine hV.bipush (v := 7) dL_law_329 (by decide) ?_
        by_cases c331_7 : t % 8 = 7
        · refine hV.icmp_ne_f (tgt := 347) dL_law_331 (by decide) ((nI_eq (a := t % 8) (b := 7) (by omega) (by omega)).mpr c331_7) ?_
          refine hV.aload_n 4 dL_law_334 rfl ?_
          refine hV.aload_n 5 dL_law_335 rfl ?_
          refine hV.aload_n 6 dL_law_336 rfl ?_
          refine hV.aload 7 dL_law_337 rfl ?_
          refine hV.callS3 (rest := []) dL_law_339 (c_L_isBest G AhL2.1 AhL2.2.1 AhL2.2.2.1 AhL2.2.2.2 AhR2 AhI2 Avg2 Avp2 Avk2 Avt2 hBB2 (by have := Ahx2.1; omega)) my_L_isBest ks_L_143 rfl rfl (Nat.le_of_ble_eq_true rfl) (Nat.le_of_ble_eq_true rfl) (Nat.le_of_ble_eq_true rfl) (show k + 33 + 1 ≤ 600130 by omega) (show g + 705 + 8 ≤ 7301080 by omega) (st2 := [.int 1]) (k2 := k + 33 + 1) (g2 := g + 705 + 8) rfl rfl rfl (fun h8 n8 hn8 hs8 => ?_)
          obtain ⟨Yh8, Yp8, rfl, Yl8, Yn8⟩ := hs8
          refine hV.if_ne_t (tgt := 347) dL_law_342 (by decide) (by decide) ?_
          refine hV.iinc 2 (v := nI (t + 1)) (ls2 := [(6, .int (nI (t + 1))), (8, .int v247), (7, .int v235), (0, .ref b), (1, .ref a), (2, .ref (a + 31)), (3, .ref (a + 32)), (4, .ref (a + 33)), (5, .ref (a + 34))]) dL_law_347 rfl (nI_1 _) (by decide) rfl ?_
          refine hV.goto (tgt := 223) dL_law_350 (by decide) ?_
          refine hV.pick [0, 3, 4, 5, 6, 7, 8] (ls2 := [(6, .int (nI (t + 1))), (0, .ref b), (1, .ref a), (2, .ref (a + 31)), (3, .ref (a + 32)), (4, .ref (a + 33)), (5, .ref (a + 34))]) rfl ?_
          exact ih (t + 1) (B := B + 31) (by omega) (by omega) (by omega) (by omega) ⟨Yh8, Ab2, At2, Au2, Av2, Arf2, Aphi2, Ac2, Yp8, Asn2, Arho2, Akap2, Ag2, Ap2, Ak2, Ats2, rfl, Ahu2, Ahv2, (zExt_lo (Ahx2.mono (by omega)) Yl8).mono (by omega), ⟨((Yl8 _ (by have := Ahx2.1; omega)).trans AhL2.1), ((Yl8 _ (by have := Ahx2.1; omega)).trans AhL2.2.1), ((Yl8 _ (by have := Ahx2.1; omega)).trans AhL2.2.2.1), ((Yl8 _ (by have := Ahx2.1; omega)).trans AhL2.2.2.2)⟩, ⟨Az2, AhR2, AhI2, Avg2, Avp2, Avk2, Avt2⟩⟩
        · refine hV.icmp_ne_t (tgt := 347) dL_law_331 (by decide) (fun q => absurd ((nI_eq (a := t % 8) (b := 7) (by omega) (by omega)).mp q) c331_7) ?_
          refine hV.iinc 2 (v := nI (t + 1)) (ls2 := [(6, .int (nI (t + 1))), (8, .int v247), (7, .int v235), (0, .ref b), (1, .ref a), (2, .ref (a + 31)), (3, .ref (a + 32)), (4, .ref (a + 33)), (5, .ref (a + 34))]) dL_law_347 rfl (nI_1 _) (by decide) rfl ?_
          refine hV.goto (tgt := 223) dL_law_350 (by decide) ?_
          refine hV.pick [0, 3, 4, 5, 6, 7, 8] (ls2 := [(6, .int (nI (t + 1))), (0, .ref b), (1, .ref a), (2, .ref (a + 31)), (3, .ref (a + 32)), (4, .ref (a + 33)), (5, .ref (a + 34))]) rfl ?_
          exact ih (t + 1) (B := B + 31) (by omega) (by omega) (by omega) (by omega) ⟨Ah2, Ab2, At2, Au2, Av2, Arf2, Aphi2, Ac2, Api2, Asn2, Arho2, Akap2, Ag2, Ap2, Ak2, Ats2, rfl, Ahu2, Ahv2, Ahx2.mono (by omega), ⟨AhL2.1, AhL2.2.1, AhL2.2.2.1, AhL2.2.2.2⟩, ⟨Az2, AhR2, AhI2, Avg2, Avp2, Avk2, Avt2⟩⟩
    · refine hV.if_ne_t (tgt := 263) dL_law_255 (by decide) (fun q => absurd ((nI_eq (a := t) (b := 0) (by omega) (by omega)).mp q) c255_1) ?_
      refine hV.iload 1 dL_law_263 rfl ?_
      refine hV.iload 0 dL_law_265 rfl ?_
      refine hV.aload_n 5 dL_law_267 rfl ?_
      refine hV.aload_n 6 dL_law_268 rfl ?_
      refine hV.aload 7 dL_law_269 rfl ?_
      refine hV.aload 8 dL_law_271 rfl ?_
      refine hV.callS3 (rest := []) dL_law_273 (c_L_act G Ahu0 Ahv0 Ahx0 AhL0.1 AhL0.2.1 AhL0.2.2.1 AhL0.2.2.2 AhR0 AhI0 Avg0 Avp0 Avk0 Avt0 hBB0 (x := v235) (y := v247)) my_L_act ks_L_155 rfl rfl (Nat.le_of_ble_eq_true rfl) (Nat.le_of_ble_eq_true rfl) (Nat.le_of_ble_eq_true rfl) (show k + 33 ≤ 600130 by omega) (show g + 705 ≤ 7301080 by omega) (st2 := [.int 1]) (k2 := k + 33) (g2 := g + 705) rfl rfl rfl (fun h9 n9 hn9 hs9 => ?_)
      obtain ⟨Ah9, Ab9, At9, Au9, Av9, Arf9, Aphi9, Ac9, Api9, Asn9, Arho9, Akap9, Ag9, Ap9, Ak9, Ats9, rfl, Ahu9, Ahv9, Ahx9, AhL9, Az9, AhR9, AhI9, Avg9, Avp9, Avk9, Avt9⟩ := hs9
      have hBB9 : B + 31 < 2 ^ 27 := by omega
      refine hV.if_eq_f (tgt := 292) dL_law_276 (by decide) (by decide) ?_
      refine hV.aload_n 4 dL_law_279 rfl ?_
      refine hV.aload_n 5 dL_law_280 rfl ?_
      refine hV.aload_n 6 dL_law_281 rfl ?_
      refine hV.aload 7 dL_law_282 rfl ?_
      refine hV.aload 8 dL_law_284 rfl ?_
      refine hV.callS1 (rest := []) dL_law_286 (c_L_isSo G AhL9.1 AhL9.2.1 AhL9.2.2.1 AhL9.2.2.2 AhR9 AhI9 Avg9 Avp9 Avk9 Avt9 hBB9) my_L_isSo ks_L_139 rfl rfl (Nat.le_of_ble_eq_true rfl) (Nat.le_of_ble_eq_true rfl) (Nat.le_of_ble_eq_true rfl) (show k + 33 + 0 ≤ 600130 by omega) (show g + 705 + 0 ≤ 7301080 by omega) (st2 := [.int 1]) (k2 := k + 33) (g2 := g + 705) rfl rfl rfl ?_
      refine hV.if_ne_t (tgt := 294) dL_law_289 (by decide) (by decide) ?_
      refine hV.iload 2 dL_law_294 rfl ?_
      refine hV.iconst (v := 3) dL_law_296 (by decide) ?_
      refine hV.irem dL_law_297 (by decide) ?_
      refine zTop (v := nI (t % 3)) (nI_modL (i := t) (m := 3) (by omega) (by omega)) ?_
      refine hV.iconst (v := 2) dL_law_298 (by decide) ?_
      by_cases c299_10 : t % 3 = 2
      · refine hV.icmp_ne_f (tgt := 324) dL_law_299 (by decide) ((nI_eq (a := t % 3) (b := 2) (by omega) (by omega)).mpr c299_10) ?_
        refine hV.aload_n 4 dL_law_302 rfl ?_
        refine hV.iload 1 dL_law_303 rfl ?_
        refine hV.iconst (v := 5) dL_law_305 (by decide) ?_
        refine hV.ishr dL_law_306 ?_
        refine hV.bipush (v := 7) dL_law_307 (by decide) ?_
        obtain ⟨w309, hw309, e309⟩ := lowL_N (v235 >>> (5 &&& 31)) (m := 7) (M := 7) rfl (by decide) (by decide)
        refine hV.callS1 (rest := [.ref a]) dL_law_309 (c_L_low G (by decide)) my_L_low ks_L_116 rfl rfl (Nat.le_of_ble_eq_true rfl) (Nat.le_of_ble_eq_true rfl) (Nat.le_of_ble_eq_true rfl) (show k + 33 + 0 ≤ 600130 by omega) (show g + 705 + 0 ≤ 7301080 by omega) (st2 := [.int (lowL (v235 >>> (5 &&& 31)) 7), .ref a]) (k2 := k + 33) (g2 := g + 705) rfl rfl rfl ?_
        refine zTop (v := nI w309) e309 ?_
        refine hV.aload_n 5 dL_law_312 rfl ?_
        refine hV.aload_n 6 dL_law_313 rfl ?_
        refine hV.aload 7 dL_law_314 rfl ?_
        refine hV.aload 8 dL_law_316 rfl ?_
        refine hV.callS3 (rest := []) dL_law_318 (c_L_isAhead G AhL9.1 AhL9.2.1 AhL9.2.2.1 AhL9.2.2.2 AhR9 AhI9 Avg9 Avp9 Avk9 Avt9 hBB9 (c1 := w309) (by omega) (by have := Ahx9.1; omega)) my_L_isAhead ks_L_159 rfl rfl (Nat.le_of_ble_eq_true rfl) (Nat.le_of_ble_eq_true rfl) (Nat.le_of_ble_eq_true rfl) (show k + 33 + 3 ≤ 600130 by omega) (show g + 705 + 62 ≤ 7301080 by omega) (st2 := [.int 1]) (k2 := k + 33 + 3) (g2 := g + 705 + 62) rfl rfl rfl (fun h11 n11 hn11 hs11 => ?_)
        obtain ⟨Yh11, Yt11, rfl, Yl11, Yn11⟩ := hs11
        refine hV.if_eq_f (tgt := 345) dL_law_321 (by decide) (by decide) ?_
        refine hV.iload 2 dL_law_324 rfl ?_
        refine hV.bipush (v := 8) dL_law_326 (by decide) ?_
        refine hV.irem dL_law_328 (by decide) ?_
        refine zTop (v := nI (t % 8)) (nI_modL (i := t) (m := 8) (by omega) (by omega)) ?_
        refine hV.bipush (v := 7) dL_law_329 (by decide) ?_
        by_cases c331_12 : t % 8 = 7
        · refine hV.icmp_ne_f (tgt := 347) dL_law_331 (by decide) ((nI_eq (a := t % 8) (b := 7) (by omega) (by omega)).mpr c331_12) ?_
          refine hV.aload_n 4 dL_law_334 rfl ?_
          refine hV.aload_n 5 dL_law_335 rfl ?_
          refine hV.aload_n 6 dL_law_336 rfl ?_
          refine hV.aload 7 dL_law_337 rfl ?_
          refine hV.callS3 (rest := []) dL_law_339 (c_L_isBest G ((Yl11 _ (by have := Ahx9.1; omega)).trans AhL9.1) ((Yl11 _ (by have := Ahx9.1; omega)).trans AhL9.2.1) ((Yl11 _ (by have := Ahx9.1; omega)).trans AhL9.2.2.1) ((Yl11 _ (by have := Ahx9.1; omega)).trans AhL9.2.2.2) AhR9 AhI9 Avg9 Avp9 Avk9 Avt9 hBB9 (by have := (zExt_lo Ahx9 Yl11).1; omega)) my_L_isBest ks_L_143 rfl rfl (Nat.le_of_ble_eq_true rfl) (Nat.le_of_ble_eq_true rfl) (Nat.le_of_ble_eq_true rfl) (show k + 33 + 3 + 1 ≤ 600130 by omega) (show g + 705 + 62 + 8 ≤ 7301080 by omega) (st2 := [.int 1]) (k2 := k + 33 + 3 + 1) (g2 := g + 705 + 62 + 8) rfl rfl rfl (fun h13 n13 hn13 hs13 => ?_)
          obtain ⟨Yh13, Yp13, rfl, Yl13, Yn13⟩ := hs13
          refine hV.if_ne_t (tgt := 347) dL_law_342 (by decide) (by decide) ?_
          refine hV.iinc 2 (v := nI (t + 1)) (ls2 := [(6, .int (nI (t + 1))), (8, .int v247), (7, .int v235), (0, .ref b), (1, .ref a), (2, .ref (a + 31)), (3, .ref (a + 32)), (4, .ref (a + 33)), (5, .ref (a + 34))]) dL_law_347 rfl (nI_1 _) (by decide) rfl ?_
          refine hV.goto (tgt := 223) dL_law_350 (by decide) ?_
          refine hV.pick [0, 3, 4, 5, 6, 7, 8] (ls2 := [(6, .int (nI (t + 1))), (0, .ref b), (1, .ref a), (2, .ref (a + 31)), (3, .ref (a + 32)), (4, .ref (a + 33)), (5, .ref (a + 34))]) rfl ?_
          exact ih (t + 1) (B := B + 31) (by omega) (by omega) (by omega) (by omega) ⟨Yh13, Ab9, Yt11, Au9, Av9, Arf9, Aphi9, Ac9, Yp13, Asn9, Arho9, Akap9, Ag9, Ap9, Ak9, Ats9, rfl, Ahu9, Ahv9, (zExt_lo ((zExt_lo Ahx9 Yl11).mono (by omega)) Yl13).mono (by omega), ⟨((Yl13 _ (by have := (zExt_lo Ahx9 Yl11).1; omega)).trans ((Yl11 _ (by have := Ahx9.1; omega)).trans AhL9.1)), ((Yl13 _ (by have := (zExt_lo Ahx9 Yl11).1; omega)).trans ((Yl11 _ (by have := Ahx9.1; omega)).trans AhL9.2.1)), ((Yl13 _ (by have := (zExt_lo Ahx9 Yl11).1; omega)).trans ((Yl11 _ (by have := Ahx9.1; omega)).trans AhL9.2.2.1)), ((Yl13 _ (by have := (zExt_lo Ahx9 Yl11).1; omega)).trans ((Yl11 _ (by have := Ahx9.1; omega)).trans AhL9.2.2.2))⟩, ⟨Az9, AhR9, AhI9, Avg9, Avp9, Avk9, Avt9⟩⟩
        · refine hV.icmp_ne_t (tgt := 347) dL_law_331 (by decide) (fun q => absurd ((nI_eq (a := t % 8) (b := 7) (by omega) (by omega)).mp q) c331_12) ?_
          refine hV.iinc 2 (v := nI (t + 1)) (ls2 := [(6, .int (nI (t + 1))), (8, .int v247), (7, .int v235), (0, .ref b), (1, .ref a), (2, .ref (a + 31)), (3, .ref (a + 32)), (4, .ref (a + 33)), (5, .ref (a + 34))]) dL_law_347 rfl (nI_1 _) (by decide) rfl ?_
          refine hV.goto (tgt := 223) dL_law_350 (by decide) ?_
          refine hV.pick [0, 3, 4, 5, 6, 7, 8] (ls2 := [(6, .int (nI (t + 1))), (0, .ref b), (1, .ref a), (2, .ref (a + 31)), (3, .ref (a + 32)), (4, .ref (a + 33)), (5, .ref (a + 34))]) rfl ?_
          exact ih (t + 1) (B := B + 31) (by omega) (by omega) (by omega) (by omega) ⟨Yh11, Ab9, Yt11, Au9, Av9, Arf9, Aphi9, Ac9, Api9, Asn9, Arho9, Akap9, Ag9, Ap9, Ak9, Ats9, rfl, Ahu9, Ahv9, (zExt_lo Ahx9 Yl11).mono (by omega), ⟨((Yl11 _ (by have := Ahx9.1; omega)).trans AhL9.1), ((Yl11 _ (by have := Ahx9.1; omega)).trans AhL9.2.1), ((Yl11 _ (by have := Ahx9.1; omega)).trans AhL9.2.2.1), ((Yl11 _ (by have := Ahx9.1; omega)).trans AhL9.2.2.2)⟩, ⟨Az9, AhR9, AhI9, Avg9, Avp9, Avk9, Avt9⟩⟩
      · refine hV.icmp_ne_t (tgt := 324) dL_law_299 (by decide) (fun q => absurd ((nI_eq (a := t % 3) (b := 2) (by omega) (by omega)).mp q) c299_10) ?_
        refine hV.iload 2 dL_law_324 rfl ?_
        refine hV.bipush (v := 8) dL_law_326 (by decide) ?_
        refine hV.irem dL_law_328 (by decide) ?_
        refine zTop (v := nI (t % 8)) (nI_modL (i := t) (m := 8) (by omega) (by omega)) ?_
        refine hV.bipush (v := 7) dL_law_329 (by decide) ?_
        by_cases c331_14 : t % 8 = 7
        · refine hV.icmp_ne_f (tgt := 347) dL_law_331 (by decide) ((nI_eq (a := t % 8) (b := 7) (by omega) (by omega)).mpr c331_14) ?_
          refine hV.aload_n 4 dL_law_334 rfl ?_
          refine hV.aload_n 5 dL_law_335 rfl ?_
          refine hV.aload_n 6 dL_law_336 rfl ?_
          refine hV.aload 7 dL_law_337 rfl ?_
          refine hV.callS3 (rest := []) dL_law_339 (c_L_isBest G AhL9.1 AhL9.2.1 AhL9.2.2.1 AhL9.2.2.2 AhR9 AhI9 Avg9 Avp9 Avk9 Avt9 hBB9 (by have := Ahx9.1; omega)) my_L_isBest ks_L_143 rfl rfl (Nat.le_of_ble_eq_true rfl) (Nat.le_of_ble_eq_true rfl) (Nat.le_of_ble_eq_true rfl) (show k + 33 + 1 ≤ 600130 by omega) (show g + 705 + 8 ≤ 7301080 by omega) (st2 := [.int 1]) (k2 := k + 33 + 1) (g2 := g + 705 + 8) rfl rfl rfl (fun h15 n15 hn15 hs15 => ?_)
          obtain ⟨Yh15, Yp15, rfl, Yl15, Yn15⟩ := hs15
          refine hV.if_ne_t (tgt := 347) dL_law_342 (by decide) (by decide) ?_
          refine hV.iinc 2 (v := nI (t + 1)) (ls2 := [(6, .int (nI (t + 1))), (8, .int v247), (7, .int v235), (0, .ref b), (1, .ref a), (2, .ref (a + 31)), (3, .ref (a + 32)), (4, .ref (a + 33)), (5, .ref (a + 34))]) dL_law_347 rfl (nI_1 _) (by decide) rfl ?_
          refine hV.goto (tgt := 223) dL_law_350 (by decide) ?_
          refine hV.pick [0, 3, 4, 5, 6, 7, 8] (ls2 := [(6, .int (nI (t + 1))), (0, .ref b), (1, .ref a), (2, .ref (a + 31)), (3, .ref (a + 32)), (4, .ref (a + 33)), (5, .ref (a + 34))]) rfl ?_
          exact ih (t + 1) (B := B + 31) (by omega) (by omega) (by omega) (by omega) ⟨Yh15, Ab9, At9, Au9, Av9, Arf9, Aphi9, Ac9, Yp15, Asn9, Arho9, Akap9, Ag9, Ap9, Ak9, Ats9, rfl, Ahu9, Ahv9, (zExt_lo (Ahx9.mono (by omega)) Yl15).mono (by omega), ⟨((Yl15 _ (by have := Ahx9.1; omega)).trans AhL9.1), ((Yl15 _ (by have := Ahx9.1; omega)).trans AhL9.2.1), ((Yl15 _ (by have := Ahx9.1; omega)).trans AhL9.2.2.1), ((Yl15 _ (by have := Ahx9.1; omega)).trans AhL9.2.2.2)⟩, ⟨Az9, AhR9, AhI9, Avg9, Avp9, Avk9, Avt9⟩⟩
        · refine hV.icmp_ne_t (tgt := 347) dL_law_331 (by decide) (fun q => absurd ((nI_eq (a := t % 8) (b := 7) (by omega) (by omega)).mp q) c331_14) ?_
          refine hV.iinc 2 (v := nI (t + 1)) (ls2 := [(6, .int (nI (t + 1))), (8, .int v247), (7, .int v235), (0, .ref b), (1, .ref a), (2, .ref (a + 31)), (3, .ref (a + 32)), (4, .ref (a + 33)), (5, .ref (a + 34))]) dL_law_347 rfl (nI_1 _) (by decide) rfl ?_
          refine hV.goto (tgt := 223) dL_law_350 (by decide) ?_
          refine hV.pick [0, 3, 4, 5, 6, 7, 8] (ls2 := [(6, .int (nI (t + 1))), (0, .ref b), (1, .ref a), (2, .ref (a + 31)), (3, .ref (a + 32)), (4, .ref (a + 33)), (5, .ref (a + 34))]) rfl ?_
          exact ih (t + 1) (B := B + 31) (by omega) (by omega) (by omega) (by omega) ⟨Ah9, Ab9, At9, Au9, Av9, Arf9, Aphi9, Ac9, Api9, Asn9, Arho9, Akap9, Ag9, Ap9, Ak9, Ats9, rfl, Ahu9, Ahv9, Ahx9.mono (by omega), ⟨AhL9.1, AhL9.2.1, AhL9.2.2.1, AhL9.2.2.2⟩, ⟨Az9, AhR9, AhI9, Avg9, Avp9, Avk9, Avt9⟩⟩
set_option maxHeartbeats 1000000 in
theorem law_all {l : Launch} {D : va_G} {base : Nat} {Sx : Nat → (Nat → Int32) → Prop} {V : zVT} {X : zXT} {yy : MethodName} (hV : zLaws l D base code RL yy room_1 9 Sx V X) (G : l.stackTraces = false) {b a : Nat} (cel : CEL V b) (lrt : LRT V) {h0 : zH} : V 0 [(0, .ref b)] [] h0 a 0 0 := by
  refine hV.new (h2 := zobj (4, [.null, .null, .null, .null, .null, .null]) 0 lnB z0 a h0) dL_law_0 nw_L_10 (Nat.le_of_ble_eq_true rfl) (Nat.le_of_ble_eq_true rfl) zobj_new ?_
  refine hV.dup dL_law_3 rfl ?_
  refine hV.callI1 (rest := [.ref a]) dL_law_4 (c_X4_init G (n := 0)) my_X4_init ki_L_138 rfl rfl (Nat.le_of_ble_eq_true rfl) (Nat.le_of_ble_eq_true rfl) (Nat.le_of_ble_eq_true rfl) (Nat.le_of_ble_eq_true rfl) (Nat.le_of_ble_eq_true rfl) (st2 := [.ref a]) (k2 := 31) (g2 := 606) rfl rfl rfl ?_
  refine hV.astore_n (ls2 := [(1, .ref a), (0, .ref b)]) dL_law_7 (by decide) rfl ?_
  refine hV.bipush (v := 19) dL_law_8 (by decide) ?_
  refine hV.newi (N := 19) (h2 := zTo (zput h0 (a + 31) (some (.inl (19, .inl (fun _ => 0))))) a bd0 bd0 0 0 (fun _ => none) (va_up (fun _ => 0) 0 0) z0 z0 none) dL_law_10 ⟨by decide, by decide⟩ (by decide) (Nat.le_of_ble_eq_true rfl) (Nat.le_of_ble_eq_true rfl) ((To_z (by omega)).trans (congrArg (fun w => zTo w _ _ _ _ _ _ _ _ _ _) rfl)) ?_
  refine hV.astore_n (ls2 := [(2, .ref (a + 31)), (1, .ref a), (0, .ref b)]) dL_law_12 (by decide) rfl ?_
  refine hV.bipush (v := 56) dL_law_13 (by decide) ?_
  refine hV.newi (N := 56) (h2 := zTo (zput (zput h0 (a + 31) (some (.inl (19, .inl (fun _ => 0))))) (a + 32) (some (.inl (56, .inl (fun _ => 0))))) a bd0 bd0 0 0 (fun _ => none) (va_up (fun _ => 0) 0 0) z0 z0 none) dL_law_15 ⟨by decide, by decide⟩ (by decide) (Nat.le_of_ble_eq_true rfl) (Nat.le_of_ble_eq_true rfl) ((To_z (by omega)).trans (congrArg (fun w => zTo w _ _ _ _ _ _ _ _ _ _) rfl)) ?_
  refine hV.astore_n (ls2 := [(3, .ref (a + 32)), (2, .ref (a + 31)), (1, .ref a), (0, .ref b)]) dL_law_17 (by decide) rfl ?_
  refine hV.bipush (v := 35) dL_law_18 (by decide) ?_
  refine hV.newi (N := 35) (h2 := zTo (zput (zput (zput h0 (a + 31) (some (.inl (19, .inl (fun _ => 0))))) (a + 32) (some (.inl (56, .inl (fun _ => 0))))) (a + 33) (some (.inl (35, .inl (fun _ => 0))))) a bd0 bd0 0 0 (fun _ => none) (va_up (fun _ => 0) 0 0) z0 z0 none) dL_law_20 ⟨by decide, by decide⟩ (by decide) (Nat.le_of_ble_eq_true rfl) (Nat.le_of_ble_eq_true rfl) ((To_z (by omega)).trans (congrArg (fun w => zTo w _ _ _ _ _ _ _ _ _ _) rfl)) ?_
  refine hV.astore (ls2 := [(4, .ref (a + 33)), (3, .ref (a + 32)), (2, .ref (a + 31)), (1, .ref a), (0, .ref b)]) dL_law_22 (by decide) rfl ?_
  refine hV.bipush (v := 8) dL_law_24 (by decide) ?_
  refine hV.newi (N := 8) (h2 := zTo (zput (zput (zput (zput h0 (a + 31) (some (.inl (19, .inl (fun _ => 0))))) (a + 32) (some (.inl (56, .inl (fun _ => 0))))) (a + 33) (some (.inl (35, .inl (fun _ => 0))))) (a + 34) (some (.inl (8, .inl (fun _ => 0))))) a bd0 bd0 0 0 (fun _ => none) (va_up (fun _ => 0) 0 0) z0 z0 none) dL_law_26 ⟨by decide, by decide⟩ (by decide) (Nat.le_of_ble_eq_true rfl) (Nat.le_of_ble_eq_true rfl) ((To_z (by omega)).trans (congrArg (fun w => zTo w _ _ _ _ _ _ _ _ _ _) rfl)) ?_
  refine hV.astore (ls2 := [(5, .ref (a + 34)), (4, .ref (a + 33)), (3, .ref (a + 32)), (2, .ref (a + 31)), (1, .ref a), (0, .ref b)]) dL_law_28 (by decide) rfl ?_
  refine hV.aload_n 3 dL_law_30 rfl ?_
  refine hV.bipush (v := 11) dL_law_31 (by decide) ?_
  refine hV.iconst (v := (-1)) dL_law_33 (by decide) ?_
  refine hV.iast (j := 11) dL_law_34 ((To_out (by omega)).trans ((zput_ne (by omega)).trans ((zput_ne (by omega)).trans ((zput_ne (by omega)).trans zput_at)))) ⟨by decide, by decide⟩ (by decide) ((To_z (by omega)).trans (congrArg (fun w => zTo w _ _ _ _ _ _ _ _ _ _) ((zput_sw (by omega)).trans (congrArg (fun z => zput z _ _) ((zput_sw (by omega)).trans (congrArg (fun z => zput z _ _) ((zput_sw (by omega)).trans (congrArg (fun z => zput z _ _) zput_zput)))))))) ?_
  refine hV.aload_n 3 dL_law_35 rfl ?_
  refine hV.bipush (v := 12) dL_law_36 (by decide) ?_
  refine hV.iconst (v := 3) dL_law_38 (by decide) ?_
  refine hV.iast (j := 12) dL_law_39 ((To_out (by omega)).trans ((zput_ne (by omega)).trans ((zput_ne (by omega)).trans ((zput_ne (by omega)).trans zput_at)))) ⟨by decide, by decide⟩ (by decide) ((To_z (by omega)).trans (congrArg (fun w => zTo w _ _ _ _ _ _ _ _ _ _) ((zput_sw (by omega)).trans (congrArg (fun z => zput z _ _) ((zput_sw (by omega)).trans (congrArg (fun z => zput z _ _) ((zput_sw (by omega)).trans (congrArg (fun z => zput z _ _) zput_zput)))))))) ?_
  refine hV.aload_n 3 dL_law_40 rfl ?_
  refine hV.bipush (v := 13) dL_law_41 (by decide) ?_
  refine hV.iconst (v := 1) dL_law_43 (by decide) ?_
  refine hV.iast (j := 13) dL_law_44 ((To_out (by omega)).trans ((zput_ne (by omega)).trans ((zput_ne (by omega)).trans ((zput_ne (by omega)).trans zput_at)))) ⟨by decide, by decide⟩ (by decide) ((To_z (by omega)).trans (congrArg (fun w => zTo w _ _ _ _ _ _ _ _ _ _) ((zput_sw (by omega)).trans (congrArg (fun z => zput z _ _) ((zput_sw (by omega)).trans (congrArg (fun z => zput z _ _) ((zput_sw (by omega)).trans (congrArg (fun z => zput z _ _) zput_zput)))))))) ?_
  refine hV.aload_n 3 dL_law_45 rfl ?_
  refine hV.bipush (v := 14) dL_law_46 (by decide) ?_
  refine hV.bipush (v := 6) dL_law_48 (by decide) ?_
  refine hV.iast (j := 14) dL_law_50 ((To_out (by omega)).trans ((zput_ne (by omega)).trans ((zput_ne (by omega)).trans ((zput_ne (by omega)).trans zput_at)))) ⟨by decide, by decide⟩ (by decide) ((To_z (by omega)).trans (congrArg (fun w => zTo w _ _ _ _ _ _ _ _ _ _) ((zput_sw (by omega)).trans (congrArg (fun z => zput z _ _) ((zput_sw (by omega)).trans (congrArg (fun z => zput z _ _) ((zput_sw (by omega)).trans (congrArg (fun z => zput z _ _) zput_zput)))))))) ?_
  refine hV.aload_n 3 dL_law_51 rfl ?_
  refine hV.bipush (v := 15) dL_law_52 (by decide) ?_
  refine hV.bipush (v := 8) dL_law_54 (by decide) ?_
  refine hV.iast (j := 15) dL_law_56 ((To_out (by omega)).trans ((zput_ne (by omega)).trans ((zput_ne (by omega)).trans ((zput_ne (by omega)).trans zput_at)))) ⟨by decide, by decide⟩ (by decide) ((To_z (by omega)).trans (congrArg (fun w => zTo w _ _ _ _ _ _ _ _ _ _) ((zput_sw (by omega)).trans (congrArg (fun z => zput z _ _) ((zput_sw (by omega)).trans (congrArg (fun z => zput z _ _) ((zput_sw (by omega)).trans (congrArg (fun z => zput z _ _) zput_zput)))))))) ?_
  refine hV.aload_n 3 dL_law_57 rfl ?_
  refine hV.bipush (v := 17) dL_law_58 (by decide) ?_
  refine hV.iconst (v := 1) dL_law_60 (by decide) ?_
  refine hV.iast (j := 17) dL_law_61 ((To_out (by omega)).trans ((zput_ne (by omega)).trans ((zput_ne (by omega)).trans ((zput_ne (by omega)).trans zput_at)))) ⟨by decide, by decide⟩ (by decide) ((To_z (by omega)).trans (congrArg (fun w => zTo w _ _ _ _ _ _ _ _ _ _) ((zput_sw (by omega)).trans (congrArg (fun z => zput z _ _) ((zput_sw (by omega)).trans (congrArg (fun z => zput z _ _) ((zput_sw (by omega)).trans (congrArg (fun z => zput z _ _) zput_zput)))))))) ?_
  refine hV.aload_n 3 dL_law_62 rfl ?_
  refine hV.bipush (v := 18) dL_law_63 (by decide) ?_
  refine hV.iconst (v := 2) dL_law_65 (by decide) ?_
  refine hV.iast (j := 18) dL_law_66 ((To_out (by omega)).trans ((zput_ne (by omega)).trans ((zput_ne (by omega)).trans ((zput_ne (by omega)).trans zput_at)))) ⟨by decide, by decide⟩ (by decide) ((To_z (by omega)).trans (congrArg (fun w => zTo w _ _ _ _ _ _ _ _ _ _) ((zput_sw (by omega)).trans (congrArg (fun z => zput z _ _) ((zput_sw (by omega)).trans (congrArg (fun z => zput z _ _) ((zput_sw (by omega)).trans (congrArg (fun z => zput z _ _) zput_zput)))))))) ?_
  refine hV.iconst (v := 0) dL_law_67 (by decide) ?_
  refine hV.istore (ls2 := [(6, .int 0), (5, .ref (a + 34)), (4, .ref (a + 33)), (3, .ref (a + 32)), (2, .ref (a + 31)), (1, .ref a), (0, .ref b)]) dL_law_68 (by decide) rfl ?_
  refine hV.iload 0 dL_law_70 rfl ?_
  refine hV.bipush (v := 8) dL_law_72 (by decide) ?_
  refine hV.icmp_ge_f (tgt := 89) dL_law_74 (by decide) (by decide) ?_
  refine hV.aload 1 dL_law_77 rfl ?_
  refine hV.iload 0 dL_law_79 rfl ?_
  refine hV.iconst (v := (-1)) dL_law_81 (by decide) ?_
  refine hV.iast (j := 0) dL_law_82 ((To_out (by omega)).trans zput_at) ⟨by decide, by decide⟩ (by decide) ((To_z (by omega)).trans (congrArg (fun w => zTo w _ _ _ _ _ _ _ _ _ _) zput_zput)) ?_
  refine hV.iinc 0 (v := 1) (ls2 := [(6, .int 1), (5, .ref (a + 34)), (4, .ref (a + 33)), (3, .ref (a + 32)), (2, .ref (a + 31)), (1, .ref a), (0, .ref b)]) dL_law_83 rfl (by decide) (by decide) rfl ?_
  refine hV.goto (tgt := 70) dL_law_86 (by decide) ?_
  refine hV.iload 0 dL_law_70 rfl ?_
  refine hV.bipush (v := 8) dL_law_72 (by decide) ?_
  refine hV.icmp_ge_f (tgt := 89) dL_law_74 (by decide) (by decide) ?_
  refine hV.aload 1 dL_law_77 rfl ?_
  refine hV.iload 0 dL_law_79 rfl ?_
  refine hV.iconst (v := (-1)) dL_law_81 (by decide) ?_
  refine hV.iast (j := 1) dL_law_82 ((To_out (by omega)).trans zput_at) ⟨by decide, by decide⟩ (by decide) ((To_z (by omega)).trans (congrArg (fun w => zTo w _ _ _ _ _ _ _ _ _ _) zput_zput)) ?_
  refine hV.iinc 0 (v := 2) (ls2 := [(6, .int 2), (5, .ref (a + 34)), (4, .ref (a + 33)), (3, .ref (a + 32)), (2, .ref (a + 31)), (1, .ref a), (0, .ref b)]) dL_law_83 rfl (by decide) (by decide) rfl ?_
  refine hV.goto (tgt := 70) dL_law_86 (by decide) ?_
  refine hV.iload 0 dL_law_70 rfl ?_
  refine hV.bipush (v := 8) dL_law_72 (by decide) ?_
  refine hV.icmp_ge_f (tgt := 89) dL_law_74 (by decide) (by decide) ?_
  refine hV.aload 1 dL_law_77 rfl ?_
  refine hV.iload 0 dL_law_79 rfl ?_
  refine hV.iconst (v := (-1)) dL_law_81 (by decide) ?_
  refine hV.iast (j := 2) dL_law_82 ((To_out (by omega)).trans zput_at) ⟨by decide, by decide⟩ (by decide) ((To_z (by omega)).trans (congrArg (fun w => zTo w _ _ _ _ _ _ _ _ _ _) zput_zput)) ?_
  refine hV.iinc 0 (v := 3) (ls2 := [(6, .int 3), (5, .ref (a + 34)), (4, .ref (a + 33)), (3, .ref (a + 32)), (2, .ref (a + 31)), (1, .ref a), (0, .ref b)]) dL_law_83 rfl (by decide) (by decide) rfl ?_
  refine hV.goto (tgt := 70) dL_law_86 (by decide) ?_
  refine hV.iload 0 dL_law_70 rfl ?_
  refine hV.bipush (v := 8) dL_law_72 (by decide) ?_
  refine hV.icmp_ge_f (tgt := 89) dL_law_74 (by decide) (by decide) ?_
  refine hV.aload 1 dL_law_77 rfl ?_
  refine hV.iload 0 dL_law_79 rfl ?_
  refine hV.iconst (v := (-1)) dL_law_81 (by decide) ?_
  refine hV.iast (j := 3) dL_law_82 ((To_out (by omega)).trans zput_at) ⟨by decide, by decide⟩ (by decide) ((To_z (by omega)).trans (congrArg (fun w => zTo w _ _ _ _ _ _ _ _ _ _) zput_zput)) ?_
  refine hV.iinc 0 (v := 4) (ls2 := [(6, .int 4), (5, .ref (a + 34)), (4, .ref (a + 33)), (3, .ref (a + 32)), (2, .ref (a + 31)), (1, .ref a), (0, .ref b)]) dL_law_83 rfl (by decide) (by decide) rfl ?_
  refine hV.goto (tgt := 70) dL_law_86 (by decide) ?_
  refine hV.iload 0 dL_law_70 rfl ?_
  refine hV.bipush (v := 8) dL_law_72 (by decide) ?_
  refine hV.icmp_ge_f (tgt := 89) dL_law_74 (by decide) (by decide) ?_
  refine hV.aload 1 dL_law_77 rfl ?_
  refine hV.iload 0 dL_law_79 rfl ?_
  refine hV.iconst (v := (-1)) dL_law_81 (by decide) ?_
  refine hV.iast (j := 4) dL_law_82 ((To_out (by omega)).trans zput_at) ⟨by decide, by decide⟩ (by decide) ((To_z (by omega)).trans (congrArg (fun w => zTo w _ _ _ _ _ _ _ _ _ _) zput_zput)) ?_
  refine hV.iinc 0 (v := 5) (ls2 := [(6, .int 5), (5, .ref (a + 34)), (4, .ref (a + 33)), (3, .ref (a + 32)), (2, .ref (a + 31)), (1, .ref a), (0, .ref b)]) dL_law_83 rfl (by decide) (by decide) rfl ?_
  refine hV.goto (tgt := 70) dL_law_86 (by decide) ?_
  refine hV.iload 0 dL_law_70 rfl ?_
  refine hV.bipush (v := 8) dL_law_72 (by decide) ?_
  refine hV.icmp_ge_f (tgt := 89) dL_law_74 (by decide) (by decide) ?_
  refine hV.aload 1 dL_law_77 rfl ?_
  refine hV.iload 0 dL_law_79 rfl ?_
  refine hV.iconst (v := (-1)) dL_law_81 (by decide) ?_
  refine hV.iast (j := 5) dL_law_82 ((To_out (by omega)).trans zput_at) ⟨by decide, by decide⟩ (by decide) ((To_z (by omega)).trans (congrArg (fun w => zTo w _ _ _ _ _ _ _ _ _ _) zput_zput)) ?_
  refine hV.iinc 0 (v := 6) (ls2 := [(6, .int 6), (5, .ref (a + 34)), (4, .ref (a + 33)), (3, .ref (a + 32)), (2, .ref (a + 31)), (1, .ref a), (0, .ref b)]) dL_law_83 rfl (by decide) (by decide) rfl ?_
  refine hV.goto (tgt := 70) dL_law_86 (by decide) ?_
  refine hV.iload 0 dL_law_70 rfl ?_
  refine hV.bipush (v := 8) dL_law_72 (by decide) ?_
  refine hV.icmp_ge_f (tgt := 89) dL_law_74 (by decide) (by decide) ?_
  refine hV.aload 1 dL_law_77 rfl ?_
  refine hV.iload 0 dL_law_79 rfl ?_
  refine hV.iconst (v := (-1)) dL_law_81 (by decide) ?_
  refine hV.iast (j := 6) dL_law_82 ((To_out (by omega)).trans zput_at) ⟨by decide, by decide⟩ (by decide) ((To_z (by omega)).trans (congrArg (fun w => zTo w _ _ _ _ _ _ _ _ _ _) zput_zput)) ?_
  refine hV.iinc 0 (v := 7) (ls2 := [(6, .int 7), (5, .ref (a + 34)), (4, .ref (a + 33)), (3, .ref (a + 32)), (2, .ref (a + 31)), (1, .ref a), (0, .ref b)]) dL_law_83 rfl (by decide) (by decide) rfl ?_
  refine hV.goto (tgt := 70) dL_law_86 (by decide) ?_
  refine hV.iload 0 dL_law_70 rfl ?_
  refine hV.bipush (v := 8) dL_law_72 (by decide) ?_
  refine hV.icmp_ge_f (tgt := 89) dL_law_74 (by decide) (by decide) ?_
  refine hV.aload 1 dL_law_77 rfl ?_
  refine hV.iload 0 dL_law_79 rfl ?_
  refine hV.iconst (v := (-1)) dL_law_81 (by decide) ?_
  refine hV.iast (j := 7) dL_law_82 ((To_out (by omega)).trans zput_at) ⟨by decide, by decide⟩ (by decide) ((To_z (by omega)).trans (congrArg (fun w => zTo w _ _ _ _ _ _ _ _ _ _) zput_zput)) ?_
  refine hV.iinc 0 (v := 8) (ls2 := [(6, .int 8), (5, .ref (a + 34)), (4, .ref (a + 33)), (3, .ref (a + 32)), (2, .ref (a + 31)), (1, .ref a), (0, .ref b)]) dL_law_83 rfl (by decide) (by decide) rfl ?_
  refine hV.goto (tgt := 70) dL_law_86 (by decide) ?_
  refine hV.iload 0 dL_law_70 rfl ?_
  refine hV.bipush (v := 8) dL_law_72 (by decide) ?_
  refine hV.icmp_ge_t (tgt := 89) dL_law_74 (by decide) (by decide) ?_
  refine hV.iconst (v := 1) dL_law_89 (by decide) ?_
  refine hV.istore (ls2 := [(6, .int 1), (5, .ref (a + 34)), (4, .ref (a + 33)), (3, .ref (a + 32)), (2, .ref (a + 31)), (1, .ref a), (0, .ref b)]) dL_law_90 (by decide) rfl ?_
  refine hV.iload 0 dL_law_92 rfl ?_
  refine hV.bipush (v := 6) dL_law_94 (by decide) ?_
  refine hV.icmp_ge_f (tgt := 176) dL_law_96 (by decide) (by decide) ?_
  refine hV.aload 2 dL_law_99 rfl ?_
  refine hV.iconst (v := 5) dL_law_101 (by decide) ?_
  refine hV.iload 0 dL_law_102 rfl ?_
  refine hV.imul dL_law_104 ?_
  refine zTop (v := 5) (by decide) ?_
  refine hV.iload 0 dL_law_105 rfl ?_
  refine hV.iconst (v := 1) dL_law_107 (by decide) ?_
  refine hV.icmp_eq_t (tgt := 117) dL_law_108 (by decide) (by decide) ?_
  refine hV.iconst (v := 2) dL_law_117 (by decide) ?_
  refine hV.goto (tgt := 132) dL_law_118 (by decide) ?_
  refine hV.iast (j := 5) dL_law_132 ((To_out (by omega)).trans ((zput_ne (by omega)).trans zput_at)) ⟨by decide, by decide⟩ (by decide) ((To_z (by omega)).trans (congrArg (fun w => zTo w _ _ _ _ _ _ _ _ _ _) ((zput_sw (by omega)).trans (congrArg (fun z => zput z _ _) zput_zput)))) ?_
  refine hV.aload 2 dL_law_133 rfl ?_
  refine hV.iconst (v := 5) dL_law_135 (by decide) ?_
  refine hV.iload 0 dL_law_136 rfl ?_
  refine hV.imul dL_law_138 ?_
  refine zTop (v := 5) (by decide) ?_
  refine hV.iconst (v := 1) dL_law_139 (by decide) ?_
  refine hV.iadd dL_law_140 ?_
  refine zTop (v := 6) (by decide) ?_
  refine hV.iload 0 dL_law_141 rfl ?_
  refine hV.iconst (v := 1) dL_law_143 (by decide) ?_
  refine hV.icmp_eq_t (tgt := 153) dL_law_144 (by decide) (by decide) ?_
  refine hV.iconst (v := 3) dL_law_153 (by decide) ?_
  refine hV.goto (tgt := 169) dL_law_154 (by decide) ?_
  refine hV.iast (j := 6) dL_law_169 ((To_out (by omega)).trans ((zput_ne (by omega)).trans zput_at)) ⟨by decide, by decide⟩ (by decide) ((To_z (by omega)).trans (congrArg (fun w => zTo w _ _ _ _ _ _ _ _ _ _) ((zput_sw (by omega)).trans (congrArg (fun z => zput z _ _) zput_zput)))) ?_
  refine hV.iinc 0 (v := 2) (ls2 := [(6, .int 2), (5, .ref (a + 34)), (4, .ref (a + 33)), (3, .ref (a + 32)), (2, .ref (a + 31)), (1, .ref a), (0, .ref b)]) dL_law_170 rfl (by decide) (by decide) rfl ?_
  refine hV.goto (tgt := 92) dL_law_173 (by decide) ?_
  refine hV.iload 0 dL_law_92 rfl ?_
  refine hV.bipush (v := 6) dL_law_94 (by decide) ?_
  refine hV.icmp_ge_f (tgt := 176) dL_law_96 (by decide) (by decide) ?_
  refine hV.aload 2 dL_law_99 rfl ?_
  refine hV.iconst (v := 5) dL_law_101 (by decide) ?_
  refine hV.iload 0 dL_law_102 rfl ?_
  refine hV.imul dL_law_104 ?_
  refine zTop (v := 10) (by decide) ?_
  refine hV.iload 0 dL_law_105 rfl ?_
  refine hV.iconst (v := 1) dL_law_107 (by decide) ?_
  refine hV.icmp_eq_f (tgt := 117) dL_law_108 (by decide) (by decide) ?_
  refine hV.iload 0 dL_law_111 rfl ?_
  refine hV.iconst (v := 5) dL_law_113 (by decide) ?_
  refine hV.icmp_ne_t (tgt := 121) dL_law_114 (by decide) (by decide) ?_
  refine hV.iload 0 dL_law_121 rfl ?_
  refine hV.iconst (v := 3) dL_law_123 (by decide) ?_
  refine hV.icmp_ne_t (tgt := 131) dL_law_124 (by decide) (by decide) ?_
  refine hV.iconst (v := 1) dL_law_131 (by decide) ?_
  refine hV.iast (j := 10) dL_law_132 ((To_out (by omega)).trans ((zput_ne (by omega)).trans zput_at)) ⟨by decide, by decide⟩ (by decide) ((To_z (by omega)).trans (congrArg (fun w => zTo w _ _ _ _ _ _ _ _ _ _) ((zput_sw (by omega)).trans (congrArg (fun z => zput z _ _) zput_zput)))) ?_
  refine hV.aload 2 dL_law_133 rfl ?_
  refine hV.iconst (v := 5) dL_law_135 (by decide) ?_
  refine hV.iload 0 dL_law_136 rfl ?_
  refine hV.imul dL_law_138 ?_
  refine zTop (v := 10) (by decide) ?_
  refine hV.iconst (v := 1) dL_law_139 (by decide) ?_
  refine hV.iadd dL_law_140 ?_
  refine zTop (v := 11) (by decide) ?_
  refine hV.iload 0 dL_law_141 rfl ?_
  refine hV.iconst (v := 1) dL_law_143 (by decide) ?_
  refine hV.icmp_eq_f (tgt := 153) dL_law_144 (by decide) (by decide) ?_
  refine hV.iload 0 dL_law_147 rfl ?_
  refine hV.iconst (v := 5) dL_law_149 (by decide) ?_
  refine hV.icmp_ne_t (tgt := 157) dL_law_150 (by decide) (by decide) ?_
  refine hV.iload 0 dL_law_157 rfl ?_
  refine hV.iconst (v := 3) dL_law_159 (by decide) ?_
  refine hV.icmp_ne_t (tgt := 167) dL_law_160 (by decide) (by decide) ?_
  refine hV.bipush (v := 10) dL_law_167 (by decide) ?_
  refine hV.iast (j := 11) dL_law_169 ((To_out (by omega)).trans ((zput_ne (by omega)).trans zput_at)) ⟨by decide, by decide⟩ (by decide) ((To_z (by omega)).trans (congrArg (fun w => zTo w _ _ _ _ _ _ _ _ _ _) ((zput_sw (by omega)).trans (congrArg (fun z => zput z _ _) zput_zput)))) ?_
  refine hV.iinc 0 (v := 3) (ls2 := [(6, .int 3), (5, .ref (a + 34)), (4, .ref (a + 33)), (3, .ref (a + 32)), (2, .ref (a + 31)), (1, .ref a), (0, .ref b)]) dL_law_170 rfl (by decide) (by decide) rfl ?_
  refine hV.goto (tgt := 92) dL_law_173 (by decide) ?_
  refine hV.iload 0 dL_law_92 rfl ?_
  refine hV.bipush (v := 6) dL_law_94 (by decide) ?_
  refine hV.icmp_ge_f (tgt := 176) dL_law_96 (by decide) (by decide) ?_
  refine hV.aload 2 dL_law_99 rfl ?_
  refine hV.iconst (v := 5) dL_law_101 (by decide) ?_
  refine hV.iload 0 dL_law_102 rfl ?_
  refine hV.imul dL_law_104 ?_
  refine zTop (v := 15) (by decide) ?_
  refine hV.iload 0 dL_law_105 rfl ?_
  refine hV.iconst (v := 1) dL_law_107 (by decide) ?_
  refine hV.icmp_eq_f (tgt := 117) dL_law_108 (by decide) (by decide) ?_
  refine hV.iload 0 dL_law_111 rfl ?_
  refine hV.iconst (v := 5) dL_law_113 (by decide) ?_
  refine hV.icmp_ne_t (tgt := 121) dL_law_114 (by decide) (by decide) ?_
  refine hV.iload 0 dL_law_121 rfl ?_
  refine hV.iconst (v := 3) dL_law_123 (by decide) ?_
  refine hV.icmp_ne_f (tgt := 131) dL_law_124 (by decide) (by decide) ?_
  refine hV.iconst (v := 0) dL_law_127 (by decide) ?_
  refine hV.goto (tgt := 132) dL_law_128 (by decide) ?_
  refine hV.iast (j := 15) dL_law_132 ((To_out (by omega)).trans ((zput_ne (by omega)).trans zput_at)) ⟨by decide, by decide⟩ (by decide) ((To_z (by omega)).trans (congrArg (fun w => zTo w _ _ _ _ _ _ _ _ _ _) ((zput_sw (by omega)).trans (congrArg (fun z => zput z _ _) zput_zput)))) ?_
  refine hV.aload 2 dL_law_133 rfl ?_
  refine hV.iconst (v := 5) dL_law_135 (by decide) ?_
  refine hV.iload 0 dL_law_136 rfl ?_
  refine hV.imul dL_law_138 ?_
  refine zTop (v := 15) (by decide) ?_
  refine hV.iconst (v := 1) dL_law_139 (by decide) ?_
  refine hV.iadd dL_law_140 ?_
  refine zTop (v := 16) (by decide) ?_
  refine hV.iload 0 dL_law_141 rfl ?_
  refine hV.iconst (v := 1) dL_law_143 (by decide) ?_
  refine hV.icmp_eq_f (tgt := 153) dL_law_144 (by decide) (by decide) ?_
  refine hV.iload 0 dL_law_147 rfl ?_
  refine hV.iconst (v := 5) dL_law_149 (by decide) ?_
  refine hV.icmp_ne_t (tgt := 157) dL_law_150 (by decide) (by decide) ?_
  refine hV.iload 0 dL_law_157 rfl ?_
  refine hV.iconst (v := 3) dL_law_159 (by decide) ?_
  refine hV.icmp_ne_f (tgt := 167) dL_law_160 (by decide) (by decide) ?_
  refine hV.iconst (v := 2) dL_law_163 (by decide) ?_
  refine hV.goto (tgt := 169) dL_law_164 (by decide) ?_
  refine hV.iast (j := 16) dL_law_169 ((To_out (by omega)).trans ((zput_ne (by omega)).trans zput_at)) ⟨by decide, by decide⟩ (by decide) ((To_z (by omega)).trans (congrArg (fun w => zTo w _ _ _ _ _ _ _ _ _ _) ((zput_sw (by omega)).trans (congrArg (fun z => zput z _ _) zput_zput)))) ?_
  refine hV.iinc 0 (v := 4) (ls2 := [(6, .int 4), (5, .ref (a + 34)), (4, .ref (a + 33)), (3, .ref (a + 32)), (2, .ref (a + 31)), (1, .ref a), (0, .ref b)]) dL_law_170 rfl (by decide) (by decide) rfl ?_
  refine hV.goto (tgt := 92) dL_law_173 (by decide) ?_
  refine hV.iload 0 dL_law_92 rfl ?_
  refine hV.bipush (v := 6) dL_law_94 (by decide) ?_
  refine hV.icmp_ge_f (tgt := 176) dL_law_96 (by decide) (by decide) ?_
  refine hV.aload 2 dL_law_99 rfl ?_
  refine hV.iconst (v := 5) dL_law_101 (by decide) ?_
  refine hV.iload 0 dL_law_102 rfl ?_
  refine hV.imul dL_law_104 ?_
  refine zTop (v := 20) (by decide) ?_
  refine hV.iload 0 dL_law_105 rfl ?_
  refine hV.iconst (v := 1) dL_law_107 (by decide) ?_
  refine hV.icmp_eq_f (tgt := 117) dL_law_108 (by decide) (by decide) ?_
  refine hV.iload 0 dL_law_111 rfl ?_
  refine hV.iconst (v := 5) dL_law_113 (by decide) ?_
  refine hV.icmp_ne_t (tgt := 121) dL_law_114 (by decide) (by decide) ?_
  refine hV.iload 0 dL_law_121 rfl ?_
  refine hV.iconst (v := 3) dL_law_123 (by decide) ?_
  refine hV.icmp_ne_t (tgt := 131) dL_law_124 (by decide) (by decide) ?_
  refine hV.iconst (v := 1) dL_law_131 (by decide) ?_
  refine hV.iast (j := 20) dL_law_132 ((To_out (by omega)).trans ((zput_ne (by omega)).trans zput_at)) ⟨by decide, by decide⟩ (by decide) ((To_z (by omega)).trans (congrArg (fun w => zTo w _ _ _ _ _ _ _ _ _ _) ((zput_sw (by omega)).trans (congrArg (fun z => zput z _ _) zput_zput)))) ?_
  refine hV.aload 2 dL_law_133 rfl ?_
  refine hV.iconst (v := 5) dL_law_135 (by decide) ?_
  refine hV.iload 0 dL_law_136 rfl ?_
  refine hV.imul dL_law_138 ?_
  refine zTop (v := 20) (by decide) ?_
  refine hV.iconst (v := 1) dL_law_139 (by decide) ?_
  refine hV.iadd dL_law_140 ?_
  refine zTop (v := 21) (by decide) ?_
  refine hV.iload 0 dL_law_141 rfl ?_
  refine hV.iconst (v := 1) dL_law_143 (by decide) ?_
  refine hV.icmp_eq_f (tgt := 153) dL_law_144 (by decide) (by decide) ?_
  refine hV.iload 0 dL_law_147 rfl ?_
  refine hV.iconst (v := 5) dL_law_149 (by decide) ?_
  refine hV.icmp_ne_t (tgt := 157) dL_law_150 (by decide) (by decide) ?_
  refine hV.iload 0 dL_law_157 rfl ?_
  refine hV.iconst (v := 3) dL_law_159 (by decide) ?_
  refine hV.icmp_ne_t (tgt := 167) dL_law_160 (by decide) (by decide) ?_
  refine hV.bipush (v := 10) dL_law_167 (by decide) ?_
  refine hV.iast (j := 21) dL_law_169 ((To_out (by omega)).trans ((zput_ne (by omega)).trans zput_at)) ⟨by decide, by decide⟩ (by decide) ((To_z (by omega)).trans (congrArg (fun w => zTo w _ _ _ _ _ _ _ _ _ _) ((zput_sw (by omega)).trans (congrArg (fun z => zput z _ _) zput_zput)))) ?_
  refine hV.iinc 0 (v := 5) (ls2 := [(6, .int 5), (5, .ref (a + 34)), (4, .ref (a + 33)), (3, .ref (a + 32)), (2, .ref (a + 31)), (1, .ref a), (0, .ref b)]) dL_law_170 rfl (by decide) (by decide) rfl ?_
  refine hV.goto (tgt := 92) dL_law_173 (by decide) ?_
  refine hV.iload 0 dL_law_92 rfl ?_
  refine hV.bipush (v := 6) dL_law_94 (by decide) ?_
  refine hV.icmp_ge_f (tgt := 176) dL_law_96 (by decide) (by decide) ?_
  refine hV.aload 2 dL_law_99 rfl ?_
  refine hV.iconst (v := 5) dL_law_101 (by decide) ?_
  refine hV.iload 0 dL_law_102 rfl ?_
  refine hV.imul dL_law_104 ?_
  refine zTop (v := 25) (by decide) ?_
  refine hV.iload 0 dL_law_105 rfl ?_
  refine hV.iconst (v := 1) dL_law_107 (by decide) ?_
  refine hV.icmp_eq_f (tgt := 117) dL_law_108 (by decide) (by decide) ?_
  refine hV.iload 0 dL_law_111 rfl ?_
  refine hV.iconst (v := 5) dL_law_113 (by decide) ?_
  refine hV.icmp_ne_f (tgt := 121) dL_law_114 (by decide) (by decide) ?_
  refine hV.iconst (v := 2) dL_law_117 (by decide) ?_
  refine hV.goto (tgt := 132) dL_law_118 (by decide) ?_
  refine hV.iast (j := 25) dL_law_132 ((To_out (by omega)).trans ((zput_ne (by omega)).trans zput_at)) ⟨by decide, by decide⟩ (by decide) ((To_z (by omega)).trans (congrArg (fun w => zTo w _ _ _ _ _ _ _ _ _ _) ((zput_sw (by omega)).trans (congrArg (fun z => zput z _ _) zput_zput)))) ?_
  refine hV.aload 2 dL_law_133 rfl ?_
  refine hV.iconst (v := 5) dL_law_135 (by decide) ?_
  refine hV.iload 0 dL_law_136 rfl ?_
  refine hV.imul dL_law_138 ?_
  refine zTop (v := 25) (by decide) ?_
  refine hV.iconst (v := 1) dL_law_139 (by decide) ?_
  refine hV.iadd dL_law_140 ?_
  refine zTop (v := 26) (by decide) ?_
  refine hV.iload 0 dL_law_141 rfl ?_
  refine hV.iconst (v := 1) dL_law_143 (by decide) ?_
  refine hV.icmp_eq_f (tgt := 153) dL_law_144 (by decide) (by decide) ?_
  refine hV.iload 0 dL_law_147 rfl ?_
  refine hV.iconst (v := 5) dL_law_149 (by decide) ?_
  refine hV.icmp_ne_f (tgt := 157) dL_law_150 (by decide) (by decide) ?_
  refine hV.iconst (v := 3) dL_law_153 (by decide) ?_
  refine hV.goto (tgt := 169) dL_law_154 (by decide) ?_
  refine hV.iast (j := 26) dL_law_169 ((To_out (by omega)).trans ((zput_ne (by omega)).trans zput_at)) ⟨by decide, by decide⟩ (by decide) ((To_z (by omega)).trans (congrArg (fun w => zTo w _ _ _ _ _ _ _ _ _ _) ((zput_sw (by omega)).trans (congrArg (fun z => zput z _ _) zput_zput)))) ?_
  refine hV.iinc 0 (v := 6) (ls2 := [(6, .int 6), (5, .ref (a + 34)), (4, .ref (a + 33)), (3, .ref (a + 32)), (2, .ref (a + 31)), (1, .ref a), (0, .ref b)]) dL_law_170 rfl (by decide) (by decide) rfl ?_
  refine hV.goto (tgt := 92) dL_law_173 (by decide) ?_
  refine hV.iload 0 dL_law_92 rfl ?_
  refine hV.bipush (v := 6) dL_law_94 (by decide) ?_
  refine hV.icmp_ge_t (tgt := 176) dL_law_96 (by decide) (by decide) ?_
  refine zHeap (h2 := zTo (zput (zput (zput (zput h0 (a + 31) (some (.inl (19, .inl gN0)))) (a + 32) (some (.inl (56, .inl pN0)))) (a + 33) (some (.inl (35, .inl kN0)))) (a + 34) (some (.inl (8, .inl tN0)))) a bd0 bd0 (nI 0) (nI 0) (fun _ => none) (va_up (fun _ => 0) 0 0) z0 z0 none) rfl ?_
  refine hV.pick [6, 5, 4, 3, 2, 1] (ls2 := [(0, .ref b), (1, .ref a), (2, .ref (a + 31)), (3, .ref (a + 32)), (4, .ref (a + 33)), (5, .ref (a + 34))]) rfl ?_
  refine hV.aload_n 1 dL_law_176 rfl ?_
  refine hV.aload_n 2 dL_law_177 rfl ?_
  refine hV.aload_n 3 dL_law_178 rfl ?_
  refine hV.aload 4 dL_law_179 rfl ?_
  refine hV.aload 5 dL_law_181 rfl ?_
  refine hV.callS1 (rest := []) dL_law_183 (c_L_isSo G ((zput_ne (by omega)).trans ((zput_ne (by omega)).trans ((zput_ne (by omega)).trans zput_at))) ((zput_ne (by omega)).trans ((zput_ne (by omega)).trans zput_at)) ((zput_ne (by omega)).trans zput_at) zput_at RB_new VI_new VG_new VP_new VK_new VT_new (by decide)) my_L_isSo ks_L_139 rfl rfl (Nat.le_of_ble_eq_true rfl) (Nat.le_of_ble_eq_true rfl) (Nat.le_of_ble_eq_true rfl) (show 35 + 0 ≤ 600130 by omega) (show 724 + 0 ≤ 7301080 by omega) (st2 := [.int 1]) (k2 := 35) (g2 := 724) rfl rfl rfl ?_
  refine hV.if_eq_f (tgt := 218) dL_law_186 (by decide) (by decide) ?_
  refine hV.aload_n 1 dL_law_189 rfl ?_
  refine hV.aload_n 2 dL_law_190 rfl ?_
  refine hV.aload_n 3 dL_law_191 rfl ?_
  refine hV.aload 4 dL_law_192 rfl ?_
  refine hV.callS3 (rest := []) dL_law_194 (c_L_isBest G ((zput_ne (by omega)).trans ((zput_ne (by omega)).trans ((zput_ne (by omega)).trans zput_at))) ((zput_ne (by omega)).trans ((zput_ne (by omega)).trans zput_at)) ((zput_ne (by omega)).trans zput_at) zput_at RB_new VI_new VG_new VP_new VK_new VT_new (by decide) (Nat.le_refl _)) my_L_isBest ks_L_143 rfl rfl (Nat.le_of_ble_eq_true rfl) (Nat.le_of_ble_eq_true rfl) (Nat.le_of_ble_eq_true rfl) (show 35 + 1 ≤ 600130 by omega) (show 724 + 8 ≤ 7301080 by omega) (st2 := [.int 1]) (k2 := 36) (g2 := 732) rfl rfl rfl (fun h1 n1 hn1 hs1 => ?_)
  obtain ⟨Yh1, Yp1, rfl, Yl1, Yn1⟩ := hs1
  refine hV.if_eq_f (tgt := 218) dL_law_197 (by decide) (by decide) ?_
  refine hV.aload_n 1 dL_law_200 rfl ?_
  refine hV.callSH3 (rest := []) dL_law_201 (WL_undo_x1 (by omega) (by omega) (by omega) To_o (c_X4_undo_x G (u := 0) (v := 0) (by omega) (by omega) rfl)) my_L_undo ks_L_147 rfl rfl (Nat.le_of_ble_eq_true rfl) (Nat.le_of_ble_eq_true rfl) (Nat.le_of_ble_eq_true rfl) (show 36 + 11 ≤ 600130 by omega) (show 732 + 235 ≤ 7301080 by omega) (st2 := [.int (-33)]) (k2 := 47) (g2 := 967) rfl rfl rfl (fun h2 n2 hn2 hs2 => ?_)
  obtain ⟨rfl, Uq2⟩ := hs2
  refine hV.bipush (v := (-33)) dL_law_204 (by decide) ?_
  refine hV.icmp_ne_f (tgt := 218) dL_law_206 (by decide) (by decide) ?_
  refine hV.aload_n 1 dL_law_209 rfl ?_
  refine hV.callSH3 (rest := []) dL_law_210 (WL_restore_x1 (by omega) (by omega) (by omega) To_o (c_X4_restore_x G (sn := none))) my_L_restore ks_L_150 rfl rfl (Nat.le_of_ble_eq_true rfl) (Nat.le_of_ble_eq_true rfl) (Nat.le_of_ble_eq_true rfl) (show 47 + 11 ≤ 600130 by omega) (show 967 + 235 ≤ 7301080 by omega) (st2 := [.int (-33)]) (k2 := 58) (g2 := 1202) rfl rfl rfl (fun h3 n3 hn3 hs3 => ?_)
  obtain ⟨rfl, Uq3⟩ := hs3
  refine hV.bipush (v := (-33)) dL_law_213 (by decide) ?_
  refine hV.icmp_eq_t (tgt := 220) dL_law_215 (by decide) (by decide) ?_
  refine hV.iconst (v := 0) dL_law_220 (by decide) ?_
  refine hV.istore (ls2 := [(6, .int 0), (0, .ref b), (1, .ref a), (2, .ref (a + 31)), (3, .ref (a + 32)), (4, .ref (a + 33)), (5, .ref (a + 34))]) dL_law_221 (by decide) rfl ?_
  have hx : zExt a (a + 35) Yh1 (fun _ => none) none (fun _ => z0) z0 := ⟨Nat.le_refl _, fun j q _ h => (by cases h), fun i j q r _ _ _ h => (by cases h), fun q h => (by cases h)⟩
  exact law_loop hV G cel lrt 40 0 (B := 0) (by omega) (by omega) (by omega) (by omega) ⟨Yh1, bd0, bd0, 0, 0, (fun _ => none), (va_up (fun _ => 0) 0 0), z0, Yp1, none, (fun _ => z0), z0, gN0, pN0, kN0, tN0, rfl, by omega, by omega, hx.mono (by omega), ⟨(Yl1 _ (by omega)).trans ((zput_ne (by omega)).trans ((zput_ne (by omega)).trans ((zput_ne (by omega)).trans zput_at))), (Yl1 _ (by omega)).trans ((zput_ne (by omega)).trans ((zput_ne (by omega)).trans zput_at)), (Yl1 _ (by omega)).trans ((zput_ne (by omega)).trans zput_at), (Yl1 _ (by omega)).trans zput_at⟩, ⟨zM0, RB_new, VI_new, VG_new, VP_new, VK_new, VT_new⟩⟩
