/-! The law, case by case -/
def SLD (V : zVT) (b N : Nat) (xs : Nat → Int32) : Prop := ∀ {pc : Nat} {ls : List (Nat × Value)} {st : List Value} {h : zH} {n k g : Nat} {i : Int32} {j : Nat}, decode code pc = .ok (.iaload, 1) → zix i j → j < N → V (pc + 1) ls (.int (xs j) :: st) h n k g → V pc ls (.int i :: .ref b :: st) h n k g
theorem lg_cmp_self (x : Int64) : lg_cmp x x = 0 := by
  unfold lg_cmp
  simp
theorem law_0 {l : Launch} {D : va_G} {base : Nat} {Sx : Nat → (Nat → Int32) → Prop} {V : zVT} {X : zXT} {yy : MethodName} (hV : zLaws l D base code RL yy room_1 9 Sx V X) (G : l.stackTraces = false) {b N : Nat} {xs : Nat → Int32} (sld : SLD V b N xs) {B a n i k g : Nat} {H : zH} (hi : i + 4 ≤ N) (hN : N ≤ 2048) (hB : B + 2000 < 2 ^ 27) (hk : k + 11 ≤ 600000) (hg : g + 235 ≤ 7000000) (hst : ST B a n H)
    (kk : ∀ H2 n2 k2 g2, n ≤ n2 → ST (B + 2000) a n2 H2 → k2 ≤ k + 11 → g2 ≤ g + 235 → V 1599 [(4, .int (nI i)), (1, .ref a), (2, .ref (a + 31)), (3, .ref (a + 39)), (0, .ref b)] [] H2 n2 k2 g2) : V 164 [(4, .int (nI i)), (1, .ref a), (2, .ref (a + 31)), (3, .ref (a + 39)), (0, .ref b)] [] H n k g := by
  obtain ⟨h, β, τ, u, v, rf, φ, c, π, sn, ρ, κ, ψ, μ, L, y, rfl, hm, hy, hx, hr⟩ := hst
  refine hV.aload_n 1 dL_law_164 rfl ?_
  refine hV.aload_n 4 dL_law_165 rfl ?_
  refine hV.iload 0 dL_law_166 rfl ?_
  refine hV.iconst (v := 1) dL_law_168 (by decide) ?_
  refine hV.iaddN (a := i) (b := 1) dL_law_169 ?_
  refine sld dL_law_170 (zix_nI (by omega)) (show i + 1 < N by omega) ?_
  refine hV.aload_n 4 dL_law_171 rfl ?_
  refine hV.iload 0 dL_law_172 rfl ?_
  refine hV.iconst (v := 2) dL_law_174 (by decide) ?_
  refine hV.iaddN (a := i) (b := 2) dL_law_175 ?_
  refine sld dL_law_176 (zix_nI (by omega)) (show i + 2 < N by omega) ?_
  refine hV.aload_n 4 dL_law_177 rfl ?_
  refine hV.iload 0 dL_law_178 rfl ?_
  refine hV.iconst (v := 3) dL_law_180 (by decide) ?_
  refine hV.iaddN (a := i) (b := 3) dL_law_181 ?_
  refine sld dL_law_182 (zix_nI (by omega)) (show i + 3 < N by omega) ?_
  refine hV.aload_n 3 dL_law_183 rfl ?_
  obtain ⟨kx, r, S1, hW, hrest⟩ := op_bend G hB hm hy hx hr (p0 := xs (i + 1)) (p1 := xs (i + 2)) (p2 := xs (i + 3)) (D := D) (base := base)
  refine hV.callSH3 (rest := []) dL_law_184 hW my_L_bend ks_L_89 rfl rfl (Nat.le_of_ble_eq_true rfl) (Nat.le_of_ble_eq_true rfl) (Nat.le_of_ble_eq_true rfl) (show k + 11 ≤ 601024 by omega) (show g + 235 ≤ 7293034 by omega) (st2 := [.int kx]) rfl rfl rfl (fun H1 n1 hn hs => ?_)
  refine hV.istore (ls2 := [(5, .int kx), (4, .int (nI i)), (1, .ref a), (2, .ref (a + 31)), (3, .ref (a + 39)), (0, .ref b)]) dL_law_187 (by decide) rfl ?_
  refine hV.aload_n 3 dL_law_189 rfl ?_
  refine hV.aload_n 5 dL_law_190 rfl ?_
  refine hV.iload 1 dL_law_191 rfl ?_
  refine hV.iconst (v := 1) dL_law_193 (by decide) ?_
  refine hV.iaddN (a := i) (b := 1) dL_law_194 ?_
  refine sld dL_law_195 (zix_nI (by omega)) (show i + 1 < N by omega) ?_
  refine hV.aload_n 5 dL_law_196 rfl ?_
  refine hV.iload 1 dL_law_197 rfl ?_
  refine hV.iconst (v := 2) dL_law_199 (by decide) ?_
  refine hV.iaddN (a := i) (b := 2) dL_law_200 ?_
  refine sld dL_law_201 (zix_nI (by omega)) (show i + 2 < N by omega) ?_
  refine hV.aload_n 5 dL_law_202 rfl ?_
  refine hV.iload 1 dL_law_203 rfl ?_
  refine hV.iconst (v := 3) dL_law_205 (by decide) ?_
  refine hV.iaddN (a := i) (b := 3) dL_law_206 ?_
  refine sld dL_law_207 (zix_nI (by omega)) (show i + 3 < N by omega) ?_
  obtain ⟨⟨fs, hfs⟩, dd, S2, hd, hM, hfin⟩ := hrest H1 n1 hn hs
  refine hV.callV3 (rest := []) dL_law_208 hM my_X5_bend kv_L_94 hfs rfl rfl rfl (show dd + 1 ≤ 2048 by omega) (show 64 * (dd + 1) ≤ 84000 by omega) (Nat.le_of_ble_eq_true rfl) (show k + 11 + 0 ≤ 601024 by omega) (show g + 235 + 0 ≤ 7293034 by omega) (st2 := [.int r]) rfl rfl rfl (fun H2 n2 hn2 hs2 => ?_)
  refine hV.istore (ls2 := [(6, .int r), (5, .int kx), (4, .int (nI i)), (1, .ref a), (2, .ref (a + 31)), (3, .ref (a + 39)), (0, .ref b)]) dL_law_211 (by decide) rfl ?_
  refine hV.aload_n 4 dL_law_213 rfl ?_
  obtain ⟨⟨gg, ψ2, μ2, e2, e3⟩, ⟨y2, hy2, hk0⟩, hst2⟩ := hfin H2 n2 hn2 hs2
  subst e2
  refine hV.callV1 (rest := []) dL_law_214 (c_X5_thrown G) my_X5_thrown kv_L_95 M_o rfl rfl rfl (Nat.le_of_ble_eq_true rfl) (Nat.le_of_ble_eq_true rfl) (Nat.le_of_ble_eq_true rfl) (show k + 11 + 0 + 0 ≤ 601024 by omega) (show g + 235 + 0 + 0 ≤ 7293034 by omega) (st2 := [.int (ψ2 0)]) rfl rfl rfl ?_
  refine hV.iload 1 dL_law_217 rfl ?_
  refine hV.icmp_eq_t (tgt := 224) dL_law_219 (by decide) e3 ?_
  refine hV.iload 1 dL_law_224 rfl ?_
  have fin : V 241 [(6, .int r), (5, .int kx), (4, .int (nI i)), (1, .ref a), (2, .ref (a + 31)), (3, .ref (a + 39)), (0, .ref b)] [] (setM gg (a + 31) ψ2 μ2) n2 (k + 11 + 0 + 0) (g + 235 + 0 + 0) := by
    refine hV.goto (tgt := 1599) dL_law_241 (by decide) ?_
    refine hV.pick [2, 3, 4, 5, 6] (ls2 := [(4, .int (nI i)), (1, .ref a), (2, .ref (a + 31)), (3, .ref (a + 39)), (0, .ref b)]) rfl ?_
    exact kk _ _ _ _ (Nat.le_trans hn hn2) hst2 (show k + 11 + 0 + 0 ≤ k + 11 by omega) (show g + 235 + 0 + 0 ≤ g + 235 by omega)
  by_cases hkx : kx = 0
  · refine hV.if_ne_f (tgt := 241) dL_law_226 (by decide) (by first | exact hkx | (exact fun w => w hkx)) ?_
    refine hV.aload_n 5 dL_law_229 rfl ?_
    refine hV.iconst (v := 0) dL_law_230 (by decide) ?_
    refine hV.lald (j := 0) dL_law_231 hy2 ⟨by decide, by decide⟩ (by decide) ?_
    refine hV.iload 0 dL_law_232 rfl ?_
    refine hV.i2l dL_law_234 rfl ?_
    refine hV.lcmp dL_law_235 ?_
    rw [hk0 hkx]
    exact hV.if_eq_t (tgt := 241) dL_law_236 (by decide) (lg_cmp_self _) fin
  · exact hV.if_ne_t (tgt := 241) dL_law_226 (by decide) hkx fin
theorem law_1 {l : Launch} {D : va_G} {base : Nat} {Sx : Nat → (Nat → Int32) → Prop} {V : zVT} {X : zXT} {yy : MethodName} (hV : zLaws l D base code RL yy room_1 9 Sx V X) (G : l.stackTraces = false) {b N : Nat} {xs : Nat → Int32} (sld : SLD V b N xs) {B a n i k g : Nat} {H : zH} (hi : i + 4 ≤ N) (hN : N ≤ 2048) (hB : B + 2000 < 2 ^ 27) (hk : k + 11 ≤ 600000) (hg : g + 235 ≤ 7000000) (hst : ST B a n H)
    (kk : ∀ H2 n2 k2 g2, n ≤ n2 → ST (B + 2000) a n2 H2 → k2 ≤ k + 11 → g2 ≤ g + 235 → V 1599 [(4, .int (nI i)), (1, .ref a), (2, .ref (a + 31)), (3, .ref (a + 39)), (0, .ref b)] [] H2 n2 k2 g2) : V 244 [(4, .int (nI i)), (1, .ref a), (2, .ref (a + 31)), (3, .ref (a + 39)), (0, .ref b)] [] H n k g := by
  obtain ⟨h, β, τ, u, v, rf, φ, c, π, sn, ρ, κ, ψ, μ, L, y, rfl, hm, hy, hx, hr⟩ := hst
  refine hV.aload_n 1 dL_law_244 rfl ?_
  refine hV.aload_n 4 dL_law_245 rfl ?_
  refine hV.iload 0 dL_law_246 rfl ?_
  refine hV.iconst (v := 1) dL_law_248 (by decide) ?_
  refine hV.iaddN (a := i) (b := 1) dL_law_249 ?_
  refine sld dL_law_250 (zix_nI (by omega)) (show i + 1 < N by omega) ?_
  refine hV.aload_n 4 dL_law_251 rfl ?_
  refine hV.iload 0 dL_law_252 rfl ?_
  refine hV.iconst (v := 2) dL_law_254 (by decide) ?_
  refine hV.iaddN (a := i) (b := 2) dL_law_255 ?_
  refine sld dL_law_256 (zix_nI (by omega)) (show i + 2 < N by omega) ?_
  refine hV.aload_n 4 dL_law_257 rfl ?_
  refine hV.iload 0 dL_law_258 rfl ?_
  refine hV.iconst (v := 3) dL_law_260 (by decide) ?_
  refine hV.iaddN (a := i) (b := 3) dL_law_261 ?_
  refine sld dL_law_262 (zix_nI (by omega)) (show i + 3 < N by omega) ?_
  refine hV.aload_n 3 dL_law_263 rfl ?_
  obtain ⟨kx, r, S1, hW, hrest⟩ := op_pocket G hB hm hy hx hr (p0 := xs (i + 1)) (p1 := xs (i + 2)) (p2 := xs (i + 3)) (D := D) (base := base)
  refine hV.callSH3 (rest := []) dL_law_264 hW my_L_pocket ks_L_98 rfl rfl (Nat.le_of_ble_eq_true rfl) (Nat.le_of_ble_eq_true rfl) (Nat.le_of_ble_eq_true rfl) (show k + 11 ≤ 601024 by omega) (show g + 235 ≤ 7293034 by omega) (st2 := [.int kx]) rfl rfl rfl (fun H1 n1 hn hs => ?_)
  refine hV.istore (ls2 := [(5, .int kx), (4, .int (nI i)), (1, .ref a), (2, .ref (a + 31)), (3, .ref (a + 39)), (0, .ref b)]) dL_law_267 (by decide) rfl ?_
  refine hV.aload_n 3 dL_law_269 rfl ?_
  refine hV.aload_n 5 dL_law_270 rfl ?_
  refine hV.iload 1 dL_law_271 rfl ?_
  refine hV.iconst (v := 1) dL_law_273 (by decide) ?_
  refine hV.iaddN (a := i) (b := 1) dL_law_274 ?_
  refine sld dL_law_275 (zix_nI (by omega)) (show i + 1 < N by omega) ?_
  refine hV.aload_n 5 dL_law_276 rfl ?_
  refine hV.iload 1 dL_law_277 rfl ?_
  refine hV.iconst (v := 2) dL_law_279 (by decide) ?_
  refine hV.iaddN (a := i) (b := 2) dL_law_280 ?_
  refine sld dL_law_281 (zix_nI (by omega)) (show i + 2 < N by omega) ?_
  refine hV.aload_n 5 dL_law_282 rfl ?_
  refine hV.iload 1 dL_law_283 rfl ?_
  refine hV.iconst (v := 3) dL_law_285 (by decide) ?_
  refine hV.iaddN (a := i) (b := 3) dL_law_286 ?_
  refine sld dL_law_287 (zix_nI (by omega)) (show i + 3 < N by omega) ?_
  obtain ⟨⟨fs, hfs⟩, dd, S2, hd, hM, hfin⟩ := hrest H1 n1 hn hs
  refine hV.callV3 (rest := []) dL_law_288 hM my_X5_pocket kv_L_100 hfs rfl rfl rfl (show dd + 1 ≤ 2048 by omega) (show 64 * (dd + 1) ≤ 84000 by omega) (Nat.le_of_ble_eq_true rfl) (show k + 11 + 0 ≤ 601024 by omega) (show g + 235 + 0 ≤ 7293034 by omega) (st2 := [.int r]) rfl rfl rfl (fun H2 n2 hn2 hs2 => ?_)
  refine hV.istore (ls2 := [(6, .int r), (5, .int kx), (4, .int (nI i)), (1, .ref a), (2, .ref (a + 31)), (3, .ref (a + 39)), (0, .ref b)]) dL_law_291 (by decide) rfl ?_
  refine hV.aload_n 4 dL_law_293 rfl ?_
  obtain ⟨⟨gg, ψ2, μ2, e2, e3⟩, ⟨y2, hy2, hk0⟩, hst2⟩ := hfin H2 n2 hn2 hs2
  subst e2
  refine hV.callV1 (rest := []) dL_law_294 (c_X5_thrown G) my_X5_thrown kv_L_95 M_o rfl rfl rfl (Nat.le_of_ble_eq_true rfl) (Nat.le_of_ble_eq_true rfl) (Nat.le_of_ble_eq_true rfl) (show k + 11 + 0 + 0 ≤ 601024 by omega) (show g + 235 + 0 + 0 ≤ 7293034 by omega) (st2 := [.int (ψ2 0)]) rfl rfl rfl ?_
  refine hV.iload 1 dL_law_297 rfl ?_
  refine hV.icmp_eq_t (tgt := 304) dL_law_299 (by decide) e3 ?_
  refine hV.iload 1 dL_law_304 rfl ?_
  have fin : V 321 [(6, .int r), (5, .int kx), (4, .int (nI i)), (1, .ref a), (2, .ref (a + 31)), (3, .ref (a + 39)), (0, .ref b)] [] (setM gg (a + 31) ψ2 μ2) n2 (k + 11 + 0 + 0) (g + 235 + 0 + 0) := by
    refine hV.goto (tgt := 1599) dL_law_321 (by decide) ?_
    refine hV.pick [2, 3, 4, 5, 6] (ls2 := [(4, .int (nI i)), (1, .ref a), (2, .ref (a + 31)), (3, .ref (a + 39)), (0, .ref b)]) rfl ?_
    exact kk _ _ _ _ (Nat.le_trans hn hn2) hst2 (show k + 11 + 0 + 0 ≤ k + 11 by omega) (show g + 235 + 0 + 0 ≤ g + 235 by omega)
  by_cases hkx : kx = 0
  · refine hV.if_ne_f (tgt := 321) dL_law_306 (by decide) (by first | exact hkx | (exact fun w => w hkx)) ?_
    refine hV.aload_n 5 dL_law_309 rfl ?_
    refine hV.iconst (v := 0) dL_law_310 (by decide) ?_
    refine hV.lald (j := 0) dL_law_311 hy2 ⟨by decide, by decide⟩ (by decide) ?_
    refine hV.iload 0 dL_law_312 rfl ?_
    refine hV.i2l dL_law_314 rfl ?_
    refine hV.lcmp dL_law_315 ?_
    rw [hk0 hkx]
    exact hV.if_eq_t (tgt := 321) dL_law_316 (by decide) (lg_cmp_self _) fin
  · exact hV.if_ne_t (tgt := 321) dL_law_306 (by decide) hkx fin
theorem law_2 {l : Launch} {D : va_G} {base : Nat} {Sx : Nat → (Nat → Int32) → Prop} {V : zVT} {X : zXT} {yy : MethodName} (hV : zLaws l D base code RL yy room_1 9 Sx V X) (G : l.stackTraces = false) {b N : Nat} {xs : Nat → Int32} (sld : SLD V b N xs) {B a n i k g : Nat} {H : zH} (hi : i + 4 ≤ N) (hN : N ≤ 2048) (hB : B + 2000 < 2 ^ 27) (hk : k + 11 ≤ 600000) (hg : g + 235 ≤ 7000000) (hst : ST B a n H)
    (kk : ∀ H2 n2 k2 g2, n ≤ n2 → ST (B + 2000) a n2 H2 → k2 ≤ k + 11 → g2 ≤ g + 235 → V 1599 [(4, .int (nI i)), (1, .ref a), (2, .ref (a + 31)), (3, .ref (a + 39)), (0, .ref b)] [] H2 n2 k2 g2) : V 324 [(4, .int (nI i)), (1, .ref a), (2, .ref (a + 31)), (3, .ref (a + 39)), (0, .ref b)] [] H n k g := by
  obtain ⟨h, β, τ, u, v, rf, φ, c, π, sn, ρ, κ, ψ, μ, L, y, rfl, hm, hy, hx, hr⟩ := hst
  refine hV.aload_n 1 dL_law_324 rfl ?_
  refine hV.aload_n 4 dL_law_325 rfl ?_
  refine hV.iload 0 dL_law_326 rfl ?_
  refine hV.iconst (v := 1) dL_law_328 (by decide) ?_
  refine hV.iaddN (a := i) (b := 1) dL_law_329 ?_
  refine sld dL_law_330 (zix_nI (by omega)) (show i + 1 < N by omega) ?_
  refine hV.aload_n 3 dL_law_331 rfl ?_
  obtain ⟨kx, r, S1, hW, hrest⟩ := op_start G hB hm hy hx hr (p0 := xs (i + 1)) (D := D) (base := base)
  refine hV.callSH3 (rest := []) dL_law_332 hW my_L_start ks_L_101 rfl rfl (Nat.le_of_ble_eq_true rfl) (Nat.le_of_ble_eq_true rfl) (Nat.le_of_ble_eq_true rfl) (show k + 11 ≤ 601024 by omega) (show g + 235 ≤ 7293034 by omega) (st2 := [.int kx]) rfl rfl rfl (fun H1 n1 hn hs => ?_)
  refine hV.istore (ls2 := [(5, .int kx), (4, .int (nI i)), (1, .ref a), (2, .ref (a + 31)), (3, .ref (a + 39)), (0, .ref b)]) dL_law_335 (by decide) rfl ?_
  refine hV.aload_n 3 dL_law_337 rfl ?_
  refine hV.aload_n 5 dL_law_338 rfl ?_
  refine hV.iload 1 dL_law_339 rfl ?_
  refine hV.iconst (v := 1) dL_law_341 (by decide) ?_
  refine hV.iaddN (a := i) (b := 1) dL_law_342 ?_
  refine sld dL_law_343 (zix_nI (by omega)) (show i + 1 < N by omega) ?_
  obtain ⟨⟨fs, hfs⟩, dd, S2, hd, hM, hfin⟩ := hrest H1 n1 hn hs
  refine hV.callV3 (rest := []) dL_law_344 hM my_X5_start kv_L_104 hfs rfl rfl rfl (show dd + 1 ≤ 2048 by omega) (show 64 * (dd + 1) ≤ 84000 by omega) (Nat.le_of_ble_eq_true rfl) (show k + 11 + 0 ≤ 601024 by omega) (show g + 235 + 0 ≤ 7293034 by omega) (st2 := [.int r]) rfl rfl rfl (fun H2 n2 hn2 hs2 => ?_)
  refine hV.istore (ls2 := [(6, .int r), (5, .int kx), (4, .int (nI i)), (1, .ref a), (2, .ref (a + 31)), (3, .ref (a + 39)), (0, .ref b)]) dL_law_347 (by decide) rfl ?_
  refine hV.aload_n 4 dL_law_349 rfl ?_
  obtain ⟨⟨gg, ψ2, μ2, e2, e3⟩, ⟨y2, hy2, hk0⟩, hst2⟩ := hfin H2 n2 hn2 hs2
  subst e2
  refine hV.callV1 (rest := []) dL_law_350 (c_X5_thrown G) my_X5_thrown kv_L_95 M_o rfl rfl rfl (Nat.le_of_ble_eq_true rfl) (Nat.le_of_ble_eq_true rfl) (Nat.le_of_ble_eq_true rfl) (show k + 11 + 0 + 0 ≤ 601024 by omega) (show g + 235 + 0 + 0 ≤ 7293034 by omega) (st2 := [.int (ψ2 0)]) rfl rfl rfl ?_
  refine hV.iload 1 dL_law_353 rfl ?_
  refine hV.icmp_eq_t (tgt := 360) dL_law_355 (by decide) e3 ?_
  refine hV.iload 1 dL_law_360 rfl ?_
  have fin : V 377 [(6, .int r), (5, .int kx), (4, .int (nI i)), (1, .ref a), (2, .ref (a + 31)), (3, .ref (a + 39)), (0, .ref b)] [] (setM gg (a + 31) ψ2 μ2) n2 (k + 11 + 0 + 0) (g + 235 + 0 + 0) := by
    refine hV.goto (tgt := 1599) dL_law_377 (by decide) ?_
    refine hV.pick [2, 3, 4, 5, 6] (ls2 := [(4, .int (nI i)), (1, .ref a), (2, .ref (a + 31)), (3, .ref (a + 39)), (0, .ref b)]) rfl ?_
    exact kk _ _ _ _ (Nat.le_trans hn hn2) hst2 (show k + 11 + 0 + 0 ≤ k + 11 by omega) (show g + 235 + 0 + 0 ≤ g + 235 by omega)
  by_cases hkx : kx = 0
  · refine hV.if_ne_f (tgt := 377) dL_law_362 (by decide) (by first | exact hkx | (exact fun w => w hkx)) ?_
    refine hV.aload_n 5 dL_law_365 rfl ?_
    refine hV.iconst (v := 0) dL_law_366 (by decide) ?_
    refine hV.lald (j := 0) dL_law_367 hy2 ⟨by decide, by decide⟩ (by decide) ?_
    refine hV.iload 0 dL_law_368 rfl ?_
    refine hV.i2l dL_law_370 rfl ?_
    refine hV.lcmp dL_law_371 ?_
    rw [hk0 hkx]
    exact hV.if_eq_t (tgt := 377) dL_law_372 (by decide) (lg_cmp_self _) fin
  · exact hV.if_ne_t (tgt := 377) dL_law_362 (by decide) hkx fin
theorem law_3 {l : Launch} {D : va_G} {base : Nat} {Sx : Nat → (Nat → Int32) → Prop} {V : zVT} {X : zXT} {yy : MethodName} (hV : zLaws l D base code RL yy room_1 9 Sx V X) (G : l.stackTraces = false) {b N : Nat} {xs : Nat → Int32} (sld : SLD V b N xs) {B a n i k g : Nat} {H : zH} (hi : i + 4 ≤ N) (hN : N ≤ 2048) (hB : B + 2000 < 2 ^ 27) (hk : k + 11 ≤ 600000) (hg : g + 235 ≤ 7000000) (hst : ST B a n H)
    (kk : ∀ H2 n2 k2 g2, n ≤ n2 → ST (B + 2000) a n2 H2 → k2 ≤ k + 11 → g2 ≤ g + 235 → V 1599 [(4, .int (nI i)), (1, .ref a), (2, .ref (a + 31)), (3, .ref (a + 39)), (0, .ref b)] [] H2 n2 k2 g2) : V 380 [(4, .int (nI i)), (1, .ref a), (2, .ref (a + 31)), (3, .ref (a + 39)), (0, .ref b)] [] H n k g := by
  obtain ⟨h, β, τ, u, v, rf, φ, c, π, sn, ρ, κ, ψ, μ, L, y, rfl, hm, hy, hx, hr⟩ := hst
  refine hV.aload_n 1 dL_law_380 rfl ?_
  refine hV.aload_n 4 dL_law_381 rfl ?_
  refine hV.iload 0 dL_law_382 rfl ?_
  refine hV.iconst (v := 1) dL_law_384 (by decide) ?_
  refine hV.iaddN (a := i) (b := 1) dL_law_385 ?_
  refine sld dL_law_386 (zix_nI (by omega)) (show i + 1 < N by omega) ?_
  refine hV.aload_n 4 dL_law_387 rfl ?_
  refine hV.iload 0 dL_law_388 rfl ?_
  refine hV.iconst (v := 2) dL_law_390 (by decide) ?_
  refine hV.iaddN (a := i) (b := 2) dL_law_391 ?_
  refine sld dL_law_392 (zix_nI (by omega)) (show i + 2 < N by omega) ?_
  refine hV.aload_n 3 dL_law_393 rfl ?_
  obtain ⟨kx, r, S1, hW, hrest⟩ := op_set G hB hm hy hx hr (p0 := xs (i + 1)) (p1 := xs (i + 2)) (D := D) (base := base)
  refine hV.callSH3 (rest := []) dL_law_394 hW my_L_set ks_L_105 rfl rfl (Nat.le_of_ble_eq_true rfl) (Nat.le_of_ble_eq_true rfl) (Nat.le_of_ble_eq_true rfl) (show k + 11 ≤ 601024 by omega) (show g + 235 ≤ 7293034 by omega) (st2 := [.int kx]) rfl rfl rfl (fun H1 n1 hn hs => ?_)
  refine hV.istore (ls2 := [(5, .int kx), (4, .int (nI i)), (1, .ref a), (2, .ref (a + 31)), (3, .ref (a + 39)), (0, .ref b)]) dL_law_397 (by decide) rfl ?_
  refine hV.aload_n 3 dL_law_399 rfl ?_
  refine hV.aload_n 5 dL_law_400 rfl ?_
  refine hV.iload 1 dL_law_401 rfl ?_
  refine hV.iconst (v := 1) dL_law_403 (by decide) ?_
  refine hV.iaddN (a := i) (b := 1) dL_law_404 ?_
  refine sld dL_law_405 (zix_nI (by omega)) (show i + 1 < N by omega) ?_
  refine hV.aload_n 5 dL_law_406 rfl ?_
  refine hV.iload 1 dL_law_407 rfl ?_
  refine hV.iconst (v := 2) dL_law_409 (by decide) ?_
  refine hV.iaddN (a := i) (b := 2) dL_law_410 ?_
  refine sld dL_law_411 (zix_nI (by omega)) (show i + 2 < N by omega) ?_
  obtain ⟨⟨fs, hfs⟩, dd, S2, hd, hM, hfin⟩ := hrest H1 n1 hn hs
  refine hV.callV3 (rest := []) dL_law_412 hM my_X5_set kv_L_108 hfs rfl rfl rfl (show dd + 1 ≤ 2048 by omega) (show 64 * (dd + 1) ≤ 84000 by omega) (Nat.le_of_ble_eq_true rfl) (show k + 11 + 0 ≤ 601024 by omega) (show g + 235 + 0 ≤ 7293034 by omega) (st2 := [.int r]) rfl rfl rfl (fun H2 n2 hn2 hs2 => ?_)
  refine hV.istore (ls2 := [(6, .int r), (5, .int kx), (4, .int (nI i)), (1, .ref a), (2, .ref (a + 31)), (3, .ref (a + 39)), (0, .ref b)]) dL_law_415 (by decide) rfl ?_
  refine hV.aload_n 4 dL_law_417 rfl ?_
  obtain ⟨⟨gg, ψ2, μ2, e2, e3⟩, ⟨y2, hy2, hk0⟩, hst2⟩ := hfin H2 n2 hn2 hs2
  subst e2
  refine hV.callV1 (rest := []) dL_law_418 (c_X5_thrown G) my_X5_thrown kv_L_95 M_o rfl rfl rfl (Nat.le_of_ble_eq_true rfl) (Nat.le_of_ble_eq_true rfl) (Nat.le_of_ble_eq_true rfl) (show k + 11 + 0 + 0 ≤ 601024 by omega) (show g + 235 + 0 + 0 ≤ 7293034 by omega) (st2 := [.int (ψ2 0)]) rfl rfl rfl ?_
  refine hV.iload 1 dL_law_421 rfl ?_
  refine hV.icmp_eq_t (tgt := 428) dL_law_423 (by decide) e3 ?_
  refine hV.iload 1 dL_law_428 rfl ?_
  have fin : V 445 [(6, .int r), (5, .int kx), (4, .int (nI i)), (1, .ref a), (2, .ref (a + 31)), (3, .ref (a + 39)), (0, .ref b)] [] (setM gg (a + 31) ψ2 μ2) n2 (k + 11 + 0 + 0) (g + 235 + 0 + 0) := by
    refine hV.goto (tgt := 1599) dL_law_445 (by decide) ?_
    refine hV.pick [2, 3, 4, 5, 6] (ls2 := [(4, .int (nI i)), (1, .ref a), (2, .ref (a + 31)), (3, .ref (a + 39)), (0, .ref b)]) rfl ?_
    exact kk _ _ _ _ (Nat.le_trans hn hn2) hst2 (show k + 11 + 0 + 0 ≤ k + 11 by omega) (show g + 235 + 0 + 0 ≤ g + 235 by omega)
  by_cases hkx : kx = 0
  · refine hV.if_ne_f (tgt := 445) dL_law_430 (by decide) (by first | exact hkx | (exact fun w => w hkx)) ?_
    refine hV.aload_n 5 dL_law_433 rfl ?_
    refine hV.iconst (v := 0) dL_law_434 (by decide) ?_
    refine hV.lald (j := 0) dL_law_435 hy2 ⟨by decide, by decide⟩ (by decide) ?_
    refine hV.iload 0 dL_law_436 rfl ?_
    refine hV.i2l dL_law_438 rfl ?_
    refine hV.lcmp dL_law_439 ?_
    rw [hk0 hkx]
    exact hV.if_eq_t (tgt := 445) dL_law_440 (by decide) (lg_cmp_self _) fin
  · exact hV.if_ne_t (tgt := 445) dL_law_430 (by decide) hkx fin
theorem law_4 {l : Launch} {D : va_G} {base : Nat} {Sx : Nat → (Nat → Int32) → Prop} {V : zVT} {X : zXT} {yy : MethodName} (hV : zLaws l D base code RL yy room_1 9 Sx V X) (G : l.stackTraces = false) {b N : Nat} {xs : Nat → Int32} (sld : SLD V b N xs) {B a n i k g : Nat} {H : zH} (hi : i + 4 ≤ N) (hN : N ≤ 2048) (hB : B + 2000 < 2 ^ 27) (hk : k + 11 ≤ 600000) (hg : g + 235 ≤ 7000000) (hst : ST B a n H)
    (kk : ∀ H2 n2 k2 g2, n ≤ n2 → ST (B + 2000) a n2 H2 → k2 ≤ k + 11 → g2 ≤ g + 235 → V 1599 [(4, .int (nI i)), (1, .ref a), (2, .ref (a + 31)), (3, .ref (a + 39)), (0, .ref b)] [] H2 n2 k2 g2) : V 448 [(4, .int (nI i)), (1, .ref a), (2, .ref (a + 31)), (3, .ref (a + 39)), (0, .ref b)] [] H n k g := by
  obtain ⟨h, β, τ, u, v, rf, φ, c, π, sn, ρ, κ, ψ, μ, L, y, rfl, hm, hy, hx, hr⟩ := hst
  refine hV.aload_n 1 dL_law_448 rfl ?_
  refine hV.aload_n 4 dL_law_449 rfl ?_
  refine hV.iload 0 dL_law_450 rfl ?_
  refine hV.iconst (v := 1) dL_law_452 (by decide) ?_
  refine hV.iaddN (a := i) (b := 1) dL_law_453 ?_
  refine sld dL_law_454 (zix_nI (by omega)) (show i + 1 < N by omega) ?_
  refine hV.aload_n 3 dL_law_455 rfl ?_
  obtain ⟨kx, r, S1, hW, hrest⟩ := op_shuffle G hB hm hy hx hr (p0 := xs (i + 1)) (D := D) (base := base)
  refine hV.callSH3 (rest := []) dL_law_456 hW my_L_shuffle ks_L_109 rfl rfl (Nat.le_of_ble_eq_true rfl) (Nat.le_of_ble_eq_true rfl) (Nat.le_of_ble_eq_true rfl) (show k + 11 ≤ 601024 by omega) (show g + 235 ≤ 7293034 by omega) (st2 := [.int kx]) rfl rfl rfl (fun H1 n1 hn hs => ?_)
  refine hV.istore (ls2 := [(5, .int kx), (4, .int (nI i)), (1, .ref a), (2, .ref (a + 31)), (3, .ref (a + 39)), (0, .ref b)]) dL_law_459 (by decide) rfl ?_
  refine hV.aload_n 3 dL_law_461 rfl ?_
  refine hV.aload_n 5 dL_law_462 rfl ?_
  refine hV.iload 1 dL_law_463 rfl ?_
  refine hV.iconst (v := 1) dL_law_465 (by decide) ?_
  refine hV.iaddN (a := i) (b := 1) dL_law_466 ?_
  refine sld dL_law_467 (zix_nI (by omega)) (show i + 1 < N by omega) ?_
  obtain ⟨⟨fs, hfs⟩, dd, S2, hd, hM, hfin⟩ := hrest H1 n1 hn hs
  refine hV.callV3 (rest := []) dL_law_468 hM my_X5_shuffle kv_L_111 hfs rfl rfl rfl (show dd + 1 ≤ 2048 by omega) (show 64 * (dd + 1) ≤ 84000 by omega) (Nat.le_of_ble_eq_true rfl) (show k + 11 + 0 ≤ 601024 by omega) (show g + 235 + 0 ≤ 7293034 by omega) (st2 := [.int r]) rfl rfl rfl (fun H2 n2 hn2 hs2 => ?_)
  refine hV.istore (ls2 := [(6, .int r), (5, .int kx), (4, .int (nI i)), (1, .ref a), (2, .ref (a + 31)), (3, .ref (a + 39)), (0, .ref b)]) dL_law_471 (by decide) rfl ?_
  refine hV.aload_n 4 dL_law_473 rfl ?_
  obtain ⟨⟨gg, ψ2, μ2, e2, e3⟩, ⟨y2, hy2, hk0⟩, hst2⟩ := hfin H2 n2 hn2 hs2
  subst e2
  refine hV.callV1 (rest := []) dL_law_474 (c_X5_thrown G) my_X5_thrown kv_L_95 M_o rfl rfl rfl (Nat.le_of_ble_eq_true rfl) (Nat.le_of_ble_eq_true rfl) (Nat.le_of_ble_eq_true rfl) (show k + 11 + 0 + 0 ≤ 601024 by omega) (show g + 235 + 0 + 0 ≤ 7293034 by omega) (st2 := [.int (ψ2 0)]) rfl rfl rfl ?_
  refine hV.iload 1 dL_law_477 rfl ?_
  refine hV.icmp_eq_t (tgt := 484) dL_law_479 (by decide) e3 ?_
  refine hV.iload 1 dL_law_484 rfl ?_
  have fin : V 501 [(6, .int r), (5, .int kx), (4, .int (nI i)), (1, .ref a), (2, .ref (a + 31)), (3, .ref (a + 39)), (0, .ref b)] [] (setM gg (a + 31) ψ2 μ2) n2 (k + 11 + 0 + 0) (g + 235 + 0 + 0) := by
    refine hV.goto (tgt := 1599) dL_law_501 (by decide) ?_
    refine hV.pick [2, 3, 4, 5, 6] (ls2 := [(4, .int (nI i)), (1, .ref a), (2, .ref (a + 31)), (3, .ref (a + 39)), (0, .ref b)]) rfl ?_
    exact kk _ _ _ _ (Nat.le_trans hn hn2) hst2 (show k + 11 + 0 + 0 ≤ k + 11 by omega) (show g + 235 + 0 + 0 ≤ g + 235 by omega)
  by_cases hkx : kx = 0
  · refine hV.if_ne_f (tgt := 501) dL_law_486 (by decide) (by first | exact hkx | (exact fun w => w hkx)) ?_
    refine hV.aload_n 5 dL_law_489 rfl ?_
    refine hV.iconst (v := 0) dL_law_490 (by decide) ?_
    refine hV.lald (j := 0) dL_law_491 hy2 ⟨by decide, by decide⟩ (by decide) ?_
    refine hV.iload 0 dL_law_492 rfl ?_
    refine hV.i2l dL_law_494 rfl ?_
    refine hV.lcmp dL_law_495 ?_
    rw [hk0 hkx]
    exact hV.if_eq_t (tgt := 501) dL_law_496 (by decide) (lg_cmp_self _) fin
  · exact hV.if_ne_t (tgt := 501) dL_law_486 (by decide) hkx fin
theorem law_5 {l : Launch} {D : va_G} {base : Nat} {Sx : Nat → (Nat → Int32) → Prop} {V : zVT} {X : zXT} {yy : MethodName} (hV : zLaws l D base code RL yy room_1 9 Sx V X) (G : l.stackTraces = false) {b N : Nat} {xs : Nat → Int32} (sld : SLD V b N xs) {B a n i k g : Nat} {H : zH} (hi : i + 4 ≤ N) (hN : N ≤ 2048) (hB : B + 2000 < 2 ^ 27) (hk : k + 11 ≤ 600000) (hg : g + 235 ≤ 7000000) (hst : ST B a n H)
    (kk : ∀ H2 n2 k2 g2, n ≤ n2 → ST (B + 2000) a n2 H2 → k2 ≤ k + 11 → g2 ≤ g + 235 → V 1599 [(4, .int (nI i)), (1, .ref a), (2, .ref (a + 31)), (3, .ref (a + 39)), (0, .ref b)] [] H2 n2 k2 g2) : V 504 [(4, .int (nI i)), (1, .ref a), (2, .ref (a + 31)), (3, .ref (a + 39)), (0, .ref b)] [] H n k g := by
  obtain ⟨h, β, τ, u, v, rf, φ, c, π, sn, ρ, κ, ψ, μ, L, y, rfl, hm, hy, hx, hr⟩ := hst
  refine hV.aload_n 1 dL_law_504 rfl ?_
  refine hV.aload_n 4 dL_law_505 rfl ?_
  refine hV.iload 0 dL_law_506 rfl ?_
  refine hV.iconst (v := 1) dL_law_508 (by decide) ?_
  refine hV.iaddN (a := i) (b := 1) dL_law_509 ?_
  refine sld dL_law_510 (zix_nI (by omega)) (show i + 1 < N by omega) ?_
  refine hV.aload_n 3 dL_law_511 rfl ?_
  obtain ⟨kx, r, S1, hW, hrest⟩ := op_buy G hB hm hy hx hr (p0 := xs (i + 1)) (D := D) (base := base)
  refine hV.callSH3 (rest := []) dL_law_512 hW my_L_buy ks_L_112 rfl rfl (Nat.le_of_ble_eq_true rfl) (Nat.le_of_ble_eq_true rfl) (Nat.le_of_ble_eq_true rfl) (show k + 11 ≤ 601024 by omega) (show g + 235 ≤ 7293034 by omega) (st2 := [.int kx]) rfl rfl rfl (fun H1 n1 hn hs => ?_)
  refine hV.istore (ls2 := [(5, .int kx), (4, .int (nI i)), (1, .ref a), (2, .ref (a + 31)), (3, .ref (a + 39)), (0, .ref b)]) dL_law_515 (by decide) rfl ?_
  refine hV.aload_n 3 dL_law_517 rfl ?_
  refine hV.aload_n 5 dL_law_518 rfl ?_
  refine hV.iload 1 dL_law_519 rfl ?_
  refine hV.iconst (v := 1) dL_law_521 (by decide) ?_
  refine hV.iaddN (a := i) (b := 1) dL_law_522 ?_
  refine sld dL_law_523 (zix_nI (by omega)) (show i + 1 < N by omega) ?_
  obtain ⟨⟨fs, hfs⟩, dd, S2, hd, hM, hfin⟩ := hrest H1 n1 hn hs
  refine hV.callV3 (rest := []) dL_law_524 hM my_X5_buy kv_L_114 hfs rfl rfl rfl (show dd + 1 ≤ 2048 by omega) (show 64 * (dd + 1) ≤ 84000 by omega) (Nat.le_of_ble_eq_true rfl) (show k + 11 + 0 ≤ 601024 by omega) (show g + 235 + 0 ≤ 7293034 by omega) (st2 := [.int r]) rfl rfl rfl (fun H2 n2 hn2 hs2 => ?_)
  refine hV.istore (ls2 := [(6, .int r), (5, .int kx), (4, .int (nI i)), (1, .ref a), (2, .ref (a + 31)), (3, .ref (a + 39)), (0, .ref b)]) dL_law_527 (by decide) rfl ?_
  refine hV.aload_n 4 dL_law_529 rfl ?_
  obtain ⟨⟨gg, ψ2, μ2, e2, e3⟩, ⟨y2, hy2, hk0⟩, hst2⟩ := hfin H2 n2 hn2 hs2
  subst e2
  refine hV.callV1 (rest := []) dL_law_530 (c_X5_thrown G) my_X5_thrown kv_L_95 M_o rfl rfl rfl (Nat.le_of_ble_eq_true rfl) (Nat.le_of_ble_eq_true rfl) (Nat.le_of_ble_eq_true rfl) (show k + 11 + 0 + 0 ≤ 601024 by omega) (show g + 235 + 0 + 0 ≤ 7293034 by omega) (st2 := [.int (ψ2 0)]) rfl rfl rfl ?_
  refine hV.iload 1 dL_law_533 rfl ?_
  refine hV.icmp_eq_t (tgt := 540) dL_law_535 (by decide) e3 ?_
  refine hV.iload 1 dL_law_540 rfl ?_
  have fin : V 557 [(6, .int r), (5, .int kx), (4, .int (nI i)), (1, .ref a), (2, .ref (a + 31)), (3, .ref (a + 39)), (0, .ref b)] [] (setM gg (a + 31) ψ2 μ2) n2 (k + 11 + 0 + 0) (g + 235 + 0 + 0) := by
    refine hV.goto (tgt := 1599) dL_law_557 (by decide) ?_
    refine hV.pick [2, 3, 4, 5, 6] (ls2 := [(4, .int (nI i)), (1, .ref a), (2, .ref (a + 31)), (3, .ref (a + 39)), (0, .ref b)]) rfl ?_
    exact kk _ _ _ _ (Nat.le_trans hn hn2) hst2 (show k + 11 + 0 + 0 ≤ k + 11 by omega) (show g + 235 + 0 + 0 ≤ g + 235 by omega)
  by_cases hkx : kx = 0
  · refine hV.if_ne_f (tgt := 557) dL_law_542 (by decide) (by first | exact hkx | (exact fun w => w hkx)) ?_
    refine hV.aload_n 5 dL_law_545 rfl ?_
    refine hV.iconst (v := 0) dL_law_546 (by decide) ?_
    refine hV.lald (j := 0) dL_law_547 hy2 ⟨by decide, by decide⟩ (by decide) ?_
    refine hV.iload 0 dL_law_548 rfl ?_
    refine hV.i2l dL_law_550 rfl ?_
    refine hV.lcmp dL_law_551 ?_
    rw [hk0 hkx]
    exact hV.if_eq_t (tgt := 557) dL_law_552 (by decide) (lg_cmp_self _) fin
  · exact hV.if_ne_t (tgt := 557) dL_law_542 (by decide) hkx fin
theorem law_6 {l : Launch} {D : va_G} {base : Nat} {Sx : Nat → (Nat → Int32) → Prop} {V : zVT} {X : zXT} {yy : MethodName} (hV : zLaws l D base code RL yy room_1 9 Sx V X) (G : l.stackTraces = false) {b N : Nat} {xs : Nat → Int32} (sld : SLD V b N xs) {B a n i k g : Nat} {H : zH} (hi : i + 4 ≤ N) (hN : N ≤ 2048) (hB : B + 2000 < 2 ^ 27) (hk : k + 11 ≤ 600000) (hg : g + 235 ≤ 7000000) (hst : ST B a n H)
    (kk : ∀ H2 n2 k2 g2, n ≤ n2 → ST (B + 2000) a n2 H2 → k2 ≤ k + 11 → g2 ≤ g + 235 → V 1599 [(4, .int (nI i)), (1, .ref a), (2, .ref (a + 31)), (3, .ref (a + 39)), (0, .ref b)] [] H2 n2 k2 g2) : V 560 [(4, .int (nI i)), (1, .ref a), (2, .ref (a + 31)), (3, .ref (a + 39)), (0, .ref b)] [] H n k g := by
  obtain ⟨h, β, τ, u, v, rf, φ, c, π, sn, ρ, κ, ψ, μ, L, y, rfl, hm, hy, hx, hr⟩ := hst
  refine hV.aload_n 1 dL_law_560 rfl ?_
  refine hV.aload_n 4 dL_law_561 rfl ?_
  refine hV.iload 0 dL_law_562 rfl ?_
  refine hV.iconst (v := 1) dL_law_564 (by decide) ?_
  refine hV.iaddN (a := i) (b := 1) dL_law_565 ?_
  refine sld dL_law_566 (zix_nI (by omega)) (show i + 1 < N by omega) ?_
  refine hV.aload_n 3 dL_law_567 rfl ?_
  obtain ⟨kx, r, S1, hW, hrest⟩ := op_launch G hB hm hy hx hr (p0 := xs (i + 1)) (D := D) (base := base)
  refine hV.callSH3 (rest := []) dL_law_568 hW my_L_launch ks_L_115 rfl rfl (Nat.le_of_ble_eq_true rfl) (Nat.le_of_ble_eq_true rfl) (Nat.le_of_ble_eq_true rfl) (show k + 11 ≤ 601024 by omega) (show g + 235 ≤ 7293034 by omega) (st2 := [.int kx]) rfl rfl rfl (fun H1 n1 hn hs => ?_)
  refine hV.istore (ls2 := [(5, .int kx), (4, .int (nI i)), (1, .ref a), (2, .ref (a + 31)), (3, .ref (a + 39)), (0, .ref b)]) dL_law_571 (by decide) rfl ?_
  refine hV.aload_n 3 dL_law_573 rfl ?_
  refine hV.aload_n 5 dL_law_574 rfl ?_
  refine hV.iload 1 dL_law_575 rfl ?_
  refine hV.iconst (v := 1) dL_law_577 (by decide) ?_
  refine hV.iaddN (a := i) (b := 1) dL_law_578 ?_
  refine sld dL_law_579 (zix_nI (by omega)) (show i + 1 < N by omega) ?_
  obtain ⟨⟨fs, hfs⟩, dd, S2, hd, hM, hfin⟩ := hrest H1 n1 hn hs
  refine hV.callV3 (rest := []) dL_law_580 hM my_X5_launch kv_L_117 hfs rfl rfl rfl (show dd + 1 ≤ 2048 by omega) (show 64 * (dd + 1) ≤ 84000 by omega) (Nat.le_of_ble_eq_true rfl) (show k + 11 + 0 ≤ 601024 by omega) (show g + 235 + 0 ≤ 7293034 by omega) (st2 := [.int r]) rfl rfl rfl (fun H2 n2 hn2 hs2 => ?_)
  refine hV.istore (ls2 := [(6, .int r), (5, .int kx), (4, .int (nI i)), (1, .ref a), (2, .ref (a + 31)), (3, .ref (a + 39)), (0, .ref b)]) dL_law_583 (by decide) rfl ?_
  refine hV.aload_n 4 dL_law_585 rfl ?_
  obtain ⟨⟨gg, ψ2, μ2, e2, e3⟩, ⟨y2, hy2, hk0⟩, hst2⟩ := hfin H2 n2 hn2 hs2
  subst e2
  refine hV.callV1 (rest := []) dL_law_586 (c_X5_thrown G) my_X5_thrown kv_L_95 M_o rfl rfl rfl (Nat.le_of_ble_eq_true rfl) (Nat.le_of_ble_eq_true rfl) (Nat.le_of_ble_eq_true rfl) (show k + 11 + 0 + 0 ≤ 601024 by omega) (show g + 235 + 0 + 0 ≤ 7293034 by omega) (st2 := [.int (ψ2 0)]) rfl rfl rfl ?_
  refine hV.iload 1 dL_law_589 rfl ?_
  refine hV.icmp_eq_t (tgt := 596) dL_law_591 (by decide) e3 ?_
  refine hV.iload 1 dL_law_596 rfl ?_
  have fin : V 613 [(6, .int r), (5, .int kx), (4, .int (nI i)), (1, .ref a), (2, .ref (a + 31)), (3, .ref (a + 39)), (0, .ref b)] [] (setM gg (a + 31) ψ2 μ2) n2 (k + 11 + 0 + 0) (g + 235 + 0 + 0) := by
    refine hV.goto (tgt := 1599) dL_law_613 (by decide) ?_
    refine hV.pick [2, 3, 4, 5, 6] (ls2 := [(4, .int (nI i)), (1, .ref a), (2, .ref (a + 31)), (3, .ref (a + 39)), (0, .ref b)]) rfl ?_
    exact kk _ _ _ _ (Nat.le_trans hn hn2) hst2 (show k + 11 + 0 + 0 ≤ k + 11 by omega) (show g + 235 + 0 + 0 ≤ g + 235 by omega)
  by_cases hkx : kx = 0
  · refine hV.if_ne_f (tgt := 613) dL_law_598 (by decide) (by first | exact hkx | (exact fun w => w hkx)) ?_
    refine hV.aload_n 5 dL_law_601 rfl ?_
    refine hV.iconst (v := 0) dL_law_602 (by decide) ?_
    refine hV.lald (j := 0) dL_law_603 hy2 ⟨by decide, by decide⟩ (by decide) ?_
    refine hV.iload 0 dL_law_604 rfl ?_
    refine hV.i2l dL_law_606 rfl ?_
    refine hV.lcmp dL_law_607 ?_
    rw [hk0 hkx]
    exact hV.if_eq_t (tgt := 613) dL_law_608 (by decide) (lg_cmp_self _) fin
  · exact hV.if_ne_t (tgt := 613) dL_law_598 (by decide) hkx fin
theorem law_7 {l : Launch} {D : va_G} {base : Nat} {Sx : Nat → (Nat → Int32) → Prop} {V : zVT} {X : zXT} {yy : MethodName} (hV : zLaws l D base code RL yy room_1 9 Sx V X) (G : l.stackTraces = false) {b N : Nat} {xs : Nat → Int32} (sld : SLD V b N xs) {B a n i k g : Nat} {H : zH} (hi : i + 4 ≤ N) (hN : N ≤ 2048) (hB : B + 2000 < 2 ^ 27) (hk : k + 11 ≤ 600000) (hg : g + 235 ≤ 7000000) (hst : ST B a n H)
    (kk : ∀ H2 n2 k2 g2, n ≤ n2 → ST (B + 2000) a n2 H2 → k2 ≤ k + 11 → g2 ≤ g + 235 → V 1599 [(4, .int (nI i)), (1, .ref a), (2, .ref (a + 31)), (3, .ref (a + 39)), (0, .ref b)] [] H2 n2 k2 g2) : V 616 [(4, .int (nI i)), (1, .ref a), (2, .ref (a + 31)), (3, .ref (a + 39)), (0, .ref b)] [] H n k g := by
  obtain ⟨h, β, τ, u, v, rf, φ, c, π, sn, ρ, κ, ψ, μ, L, y, rfl, hm, hy, hx, hr⟩ := hst
  refine hV.aload_n 1 dL_law_616 rfl ?_
  refine hV.aload_n 4 dL_law_617 rfl ?_
  refine hV.iload 0 dL_law_618 rfl ?_
  refine hV.iconst (v := 1) dL_law_620 (by decide) ?_
  refine hV.iaddN (a := i) (b := 1) dL_law_621 ?_
  refine sld dL_law_622 (zix_nI (by omega)) (show i + 1 < N by omega) ?_
  refine hV.aload_n 4 dL_law_623 rfl ?_
  refine hV.iload 0 dL_law_624 rfl ?_
  refine hV.iconst (v := 2) dL_law_626 (by decide) ?_
  refine hV.iaddN (a := i) (b := 2) dL_law_627 ?_
  refine sld dL_law_628 (zix_nI (by omega)) (show i + 2 < N by omega) ?_
  refine hV.aload_n 3 dL_law_629 rfl ?_
  obtain ⟨kx, r, S1, hW, hrest⟩ := op_play G hB hm hy hx hr (p0 := xs (i + 1)) (p1 := xs (i + 2)) (D := D) (base := base)
  refine hV.callSH3 (rest := []) dL_law_630 hW my_L_play ks_L_118 rfl rfl (Nat.le_of_ble_eq_true rfl) (Nat.le_of_ble_eq_true rfl) (Nat.le_of_ble_eq_true rfl) (show k + 11 ≤ 601024 by omega) (show g + 235 ≤ 7293034 by omega) (st2 := [.int kx]) rfl rfl rfl (fun H1 n1 hn hs => ?_)
  refine hV.istore (ls2 := [(5, .int kx), (4, .int (nI i)), (1, .ref a), (2, .ref (a + 31)), (3, .ref (a + 39)), (0, .ref b)]) dL_law_633 (by decide) rfl ?_
  refine hV.aload_n 3 dL_law_635 rfl ?_
  refine hV.aload_n 5 dL_law_636 rfl ?_
  refine hV.iload 1 dL_law_637 rfl ?_
  refine hV.iconst (v := 1) dL_law_639 (by decide) ?_
  refine hV.iaddN (a := i) (b := 1) dL_law_640 ?_
  refine sld dL_law_641 (zix_nI (by omega)) (show i + 1 < N by omega) ?_
  refine hV.aload_n 5 dL_law_642 rfl ?_
  refine hV.iload 1 dL_law_643 rfl ?_
  refine hV.iconst (v := 2) dL_law_645 (by decide) ?_
  refine hV.iaddN (a := i) (b := 2) dL_law_646 ?_
  refine sld dL_law_647 (zix_nI (by omega)) (show i + 2 < N by omega) ?_
  obtain ⟨⟨fs, hfs⟩, dd, S2, hd, hM, hfin⟩ := hrest H1 n1 hn hs
  refine hV.callV3 (rest := []) dL_law_648 hM my_X5_play kv_L_120 hfs rfl rfl rfl (show dd + 1 ≤ 2048 by omega) (show 64 * (dd + 1) ≤ 84000 by omega) (Nat.le_of_ble_eq_true rfl) (show k + 11 + 0 ≤ 601024 by omega) (show g + 235 + 0 ≤ 7293034 by omega) (st2 := [.int r]) rfl rfl rfl (fun H2 n2 hn2 hs2 => ?_)
  refine hV.istore (ls2 := [(6, .int r), (5, .int kx), (4, .int (nI i)), (1, .ref a), (2, .ref (a + 31)), (3, .ref (a + 39)), (0, .ref b)]) dL_law_651 (by decide) rfl ?_
  refine hV.aload_n 4 dL_law_653 rfl ?_
  obtain ⟨⟨gg, ψ2, μ2, e2, e3⟩, ⟨y2, hy2, hk0⟩, hst2⟩ := hfin H2 n2 hn2 hs2
  subst e2
  refine hV.callV1 (rest := []) dL_law_654 (c_X5_thrown G) my_X5_thrown kv_L_95 M_o rfl rfl rfl (Nat.le_of_ble_eq_true rfl) (Nat.le_of_ble_eq_true rfl) (Nat.le_of_ble_eq_true rfl) (show k + 11 + 0 + 0 ≤ 601024 by omega) (show g + 235 + 0 + 0 ≤ 7293034 by omega) (st2 := [.int (ψ2 0)]) rfl rfl rfl ?_
  refine hV.iload 1 dL_law_657 rfl ?_
  refine hV.icmp_eq_t (tgt := 664) dL_law_659 (by decide) e3 ?_
  refine hV.iload 1 dL_law_664 rfl ?_
  have fin : V 681 [(6, .int r), (5, .int kx), (4, .int (nI i)), (1, .ref a), (2, .ref (a + 31)), (3, .ref (a + 39)), (0, .ref b)] [] (setM gg (a + 31) ψ2 μ2) n2 (k + 11 + 0 + 0) (g + 235 + 0 + 0) := by
    refine hV.goto (tgt := 1599) dL_law_681 (by decide) ?_
    refine hV.pick [2, 3, 4, 5, 6] (ls2 := [(4, .int (nI i)), (1, .ref a), (2, .ref (a + 31)), (3, .ref (a + 39)), (0, .ref b)]) rfl ?_
    exact kk _ _ _ _ (Nat.le_trans hn hn2) hst2 (show k + 11 + 0 + 0 ≤ k + 11 by omega) (show g + 235 + 0 + 0 ≤ g + 235 by omega)
  by_cases hkx : kx = 0
  · refine hV.if_ne_f (tgt := 681) dL_law_666 (by decide) (by first | exact hkx | (exact fun w => w hkx)) ?_
    refine hV.aload_n 5 dL_law_669 rfl ?_
    refine hV.iconst (v := 0) dL_law_670 (by decide) ?_
    refine hV.lald (j := 0) dL_law_671 hy2 ⟨by decide, by decide⟩ (by decide) ?_
    refine hV.iload 0 dL_law_672 rfl ?_
    refine hV.i2l dL_law_674 rfl ?_
    refine hV.lcmp dL_law_675 ?_
    rw [hk0 hkx]
    exact hV.if_eq_t (tgt := 681) dL_law_676 (by decide) (lg_cmp_self _) fin
  · exact hV.if_ne_t (tgt := 681) dL_law_666 (by decide) hkx fin
theorem law_8 {l : Launch} {D : va_G} {base : Nat} {Sx : Nat → (Nat → Int32) → Prop} {V : zVT} {X : zXT} {yy : MethodName} (hV : zLaws l D base code RL yy room_1 9 Sx V X) (G : l.stackTraces = false) {b N : Nat} {xs : Nat → Int32} (sld : SLD V b N xs) {B a n i k g : Nat} {H : zH} (hi : i + 4 ≤ N) (hN : N ≤ 2048) (hB : B + 2000 < 2 ^ 27) (hk : k + 11 ≤ 600000) (hg : g + 235 ≤ 7000000) (hst : ST B a n H)
    (kk : ∀ H2 n2 k2 g2, n ≤ n2 → ST (B + 2000) a n2 H2 → k2 ≤ k + 11 → g2 ≤ g + 235 → V 1599 [(4, .int (nI i)), (1, .ref a), (2, .ref (a + 31)), (3, .ref (a + 39)), (0, .ref b)] [] H2 n2 k2 g2) : V 684 [(4, .int (nI i)), (1, .ref a), (2, .ref (a + 31)), (3, .ref (a + 39)), (0, .ref b)] [] H n k g := by
  obtain ⟨h, β, τ, u, v, rf, φ, c, π, sn, ρ, κ, ψ, μ, L, y, rfl, hm, hy, hx, hr⟩ := hst
  refine hV.aload_n 1 dL_law_684 rfl ?_
  refine hV.aload_n 4 dL_law_685 rfl ?_
  refine hV.iload 0 dL_law_686 rfl ?_
  refine hV.iconst (v := 1) dL_law_688 (by decide) ?_
  refine hV.iaddN (a := i) (b := 1) dL_law_689 ?_
  refine sld dL_law_690 (zix_nI (by omega)) (show i + 1 < N by omega) ?_
  refine hV.aload_n 3 dL_law_691 rfl ?_
  obtain ⟨kx, r, S1, hW, hrest⟩ := op_append G hB hm hy hx hr (p0 := xs (i + 1)) (D := D) (base := base)
  refine hV.callSH3 (rest := []) dL_law_692 hW my_L_append ks_L_121 rfl rfl (Nat.le_of_ble_eq_true rfl) (Nat.le_of_ble_eq_true rfl) (Nat.le_of_ble_eq_true rfl) (show k + 11 ≤ 601024 by omega) (show g + 235 ≤ 7293034 by omega) (st2 := [.int kx]) rfl rfl rfl (fun H1 n1 hn hs => ?_)
  refine hV.istore (ls2 := [(5, .int kx), (4, .int (nI i)), (1, .ref a), (2, .ref (a + 31)), (3, .ref (a + 39)), (0, .ref b)]) dL_law_695 (by decide) rfl ?_
  refine hV.aload_n 3 dL_law_697 rfl ?_
  refine hV.aload_n 5 dL_law_698 rfl ?_
  refine hV.iload 1 dL_law_699 rfl ?_
  refine hV.iconst (v := 1) dL_law_701 (by decide) ?_
  refine hV.iaddN (a := i) (b := 1) dL_law_702 ?_
  refine sld dL_law_703 (zix_nI (by omega)) (show i + 1 < N by omega) ?_
  obtain ⟨⟨fs, hfs⟩, dd, S2, hd, hM, hfin⟩ := hrest H1 n1 hn hs
  refine hV.callV3 (rest := []) dL_law_704 hM my_X5_append kv_L_123 hfs rfl rfl rfl (show dd + 1 ≤ 2048 by omega) (show 64 * (dd + 1) ≤ 84000 by omega) (Nat.le_of_ble_eq_true rfl) (show k + 11 + 0 ≤ 601024 by omega) (show g + 235 + 0 ≤ 7293034 by omega) (st2 := [.int r]) rfl rfl rfl (fun H2 n2 hn2 hs2 => ?_)
  refine hV.istore (ls2 := [(6, .int r), (5, .int kx), (4, .int (nI i)), (1, .ref a), (2, .ref (a + 31)), (3, .ref (a + 39)), (0, .ref b)]) dL_law_707 (by decide) rfl ?_
  refine hV.aload_n 4 dL_law_709 rfl ?_
  obtain ⟨⟨gg, ψ2, μ2, e2, e3⟩, ⟨y2, hy2, hk0⟩, hst2⟩ := hfin H2 n2 hn2 hs2
  subst e2
  refine hV.callV1 (rest := []) dL_law_710 (c_X5_thrown G) my_X5_thrown kv_L_95 M_o rfl rfl rfl (Nat.le_of_ble_eq_true rfl) (Nat.le_of_ble_eq_true rfl) (Nat.le_of_ble_eq_true rfl) (show k + 11 + 0 + 0 ≤ 601024 by omega) (show g + 235 + 0 + 0 ≤ 7293034 by omega) (st2 := [.int (ψ2 0)]) rfl rfl rfl ?_
  refine hV.iload 1 dL_law_713 rfl ?_
  refine hV.icmp_eq_t (tgt := 720) dL_law_715 (by decide) e3 ?_
  refine hV.iload 1 dL_law_720 rfl ?_
  have fin : V 737 [(6, .int r), (5, .int kx), (4, .int (nI i)), (1, .ref a), (2, .ref (a + 31)), (3, .ref (a + 39)), (0, .ref b)] [] (setM gg (a + 31) ψ2 μ2) n2 (k + 11 + 0 + 0) (g + 235 + 0 + 0) := by
    refine hV.goto (tgt := 1599) dL_law_737 (by decide) ?_
    refine hV.pick [2, 3, 4, 5, 6] (ls2 := [(4, .int (nI i)), (1, .ref a), (2, .ref (a + 31)), (3, .ref (a + 39)), (0, .ref b)]) rfl ?_
    exact kk _ _ _ _ (Nat.le_trans hn hn2) hst2 (show k + 11 + 0 + 0 ≤ k + 11 by omega) (show g + 235 + 0 + 0 ≤ g + 235 by omega)
  by_cases hkx : kx = 0
  · refine hV.if_ne_f (tgt := 737) dL_law_722 (by decide) (by first | exact hkx | (exact fun w => w hkx)) ?_
    refine hV.aload_n 5 dL_law_725 rfl ?_
    refine hV.iconst (v := 0) dL_law_726 (by decide) ?_
    refine hV.lald (j := 0) dL_law_727 hy2 ⟨by decide, by decide⟩ (by decide) ?_
    refine hV.iload 0 dL_law_728 rfl ?_
    refine hV.i2l dL_law_730 rfl ?_
    refine hV.lcmp dL_law_731 ?_
    rw [hk0 hkx]
    exact hV.if_eq_t (tgt := 737) dL_law_732 (by decide) (lg_cmp_self _) fin
  · exact hV.if_ne_t (tgt := 737) dL_law_722 (by decide) hkx fin
theorem law_9 {l : Launch} {D : va_G} {base : Nat} {Sx : Nat → (Nat → Int32) → Prop} {V : zVT} {X : zXT} {yy : MethodName} (hV : zLaws l D base code RL yy room_1 9 Sx V X) (G : l.stackTraces = false) {b N : Nat} {xs : Nat → Int32} (sld : SLD V b N xs) {B a n i k g : Nat} {H : zH} (hi : i + 4 ≤ N) (hN : N ≤ 2048) (hB : B + 2000 < 2 ^ 27) (hk : k + 11 ≤ 600000) (hg : g + 235 ≤ 7000000) (hst : ST B a n H)
    (kk : ∀ H2 n2 k2 g2, n ≤ n2 → ST (B + 2000) a n2 H2 → k2 ≤ k + 11 → g2 ≤ g + 235 → V 1599 [(4, .int (nI i)), (1, .ref a), (2, .ref (a + 31)), (3, .ref (a + 39)), (0, .ref b)] [] H2 n2 k2 g2) : V 740 [(4, .int (nI i)), (1, .ref a), (2, .ref (a + 31)), (3, .ref (a + 39)), (0, .ref b)] [] H n k g := by
  obtain ⟨h, β, τ, u, v, rf, φ, c, π, sn, ρ, κ, ψ, μ, L, y, rfl, hm, hy, hx, hr⟩ := hst
  refine hV.aload_n 1 dL_law_740 rfl ?_
  obtain ⟨r, dd, mc, ms, S1, c1, c2, c3, hW, hrest⟩ := op_clearBuffer G hB hm hy hx hr (D := D) (base := base)
  refine hV.callV3 (rest := []) dL_law_741 hW my_X4_clearBuffer kv_L_124 To_o rfl rfl rfl (show dd + 1 ≤ 2048 by omega) (show 64 * (dd + 1) ≤ 84000 by omega) (Nat.le_of_ble_eq_true rfl) (show k + mc ≤ 601024 by omega) (show g + ms ≤ 7293034 by omega) (st2 := [.int r]) rfl rfl rfl (fun H1 n1 hn hs => ?_)
  refine hV.aload_n 2 dL_law_744 rfl ?_
  obtain ⟨⟨fs, hfs⟩, dd2, S2, hd, hM, hfin⟩ := hrest H1 n1 hn hs
  refine hV.callV3 (rest := [.int r]) dL_law_745 hM my_X5_clearBuffer kv_L_127 hfs rfl rfl rfl (show dd2 + 1 ≤ 2048 by omega) (show 64 * (dd2 + 1) ≤ 84000 by omega) (Nat.le_of_ble_eq_true rfl) (show k + mc + 0 ≤ 601024 by omega) (show g + ms + 0 ≤ 7293034 by omega) (st2 := [.int r, .int r]) rfl rfl rfl (fun H2 n2 hn2 hs2 => ?_)
  have hst2 := hfin H2 n2 hn2 hs2
  refine hV.icmp_eq_t (tgt := 1599) dL_law_748 (by decide) rfl ?_
  exact kk _ _ _ _ (Nat.le_trans hn hn2) hst2 (show k + mc + 0 ≤ k + 11 by omega) (show g + ms + 0 ≤ g + 235 by omega)
theorem law_10 {l : Launch} {D : va_G} {base : Nat} {Sx : Nat → (Nat → Int32) → Prop} {V : zVT} {X : zXT} {yy : MethodName} (hV : zLaws l D base code RL yy room_1 9 Sx V X) (G : l.stackTraces = false) {b N : Nat} {xs : Nat → Int32} (sld : SLD V b N xs) {B a n i k g : Nat} {H : zH} (hi : i + 4 ≤ N) (hN : N ≤ 2048) (hB : B + 2000 < 2 ^ 27) (hk : k + 11 ≤ 600000) (hg : g + 235 ≤ 7000000) (hst : ST B a n H)
    (kk : ∀ H2 n2 k2 g2, n ≤ n2 → ST (B + 2000) a n2 H2 → k2 ≤ k + 11 → g2 ≤ g + 235 → V 1599 [(4, .int (nI i)), (1, .ref a), (2, .ref (a + 31)), (3, .ref (a + 39)), (0, .ref b)] [] H2 n2 k2 g2) : V 753 [(4, .int (nI i)), (1, .ref a), (2, .ref (a + 31)), (3, .ref (a + 39)), (0, .ref b)] [] H n k g := by
  obtain ⟨h, β, τ, u, v, rf, φ, c, π, sn, ρ, κ, ψ, μ, L, y, rfl, hm, hy, hx, hr⟩ := hst
  refine hV.aload_n 1 dL_law_753 rfl ?_
  obtain ⟨r, dd, mc, ms, S1, c1, c2, c3, hW, hrest⟩ := op_firstError G hB hm hy hx hr (D := D) (base := base)
  refine hV.callV3 (rest := []) dL_law_754 hW my_X4_firstError kv_L_128 To_o rfl rfl rfl (show dd + 1 ≤ 2048 by omega) (show 64 * (dd + 1) ≤ 84000 by omega) (Nat.le_of_ble_eq_true rfl) (show k + mc ≤ 601024 by omega) (show g + ms ≤ 7293034 by omega) (st2 := [.int r]) rfl rfl rfl (fun H1 n1 hn hs => ?_)
  refine hV.aload_n 2 dL_law_757 rfl ?_
  obtain ⟨⟨fs, hfs⟩, dd2, S2, hd, hM, hfin⟩ := hrest H1 n1 hn hs
  refine hV.callV3 (rest := [.int r]) dL_law_758 hM my_X5_firstError kv_L_131 hfs rfl rfl rfl (show dd2 + 1 ≤ 2048 by omega) (show 64 * (dd2 + 1) ≤ 84000 by omega) (Nat.le_of_ble_eq_true rfl) (show k + mc + 0 ≤ 601024 by omega) (show g + ms + 0 ≤ 7293034 by omega) (st2 := [.int r, .int r]) rfl rfl rfl (fun H2 n2 hn2 hs2 => ?_)
  have hst2 := hfin H2 n2 hn2 hs2
  refine hV.icmp_eq_t (tgt := 1599) dL_law_761 (by decide) rfl ?_
  exact kk _ _ _ _ (Nat.le_trans hn hn2) hst2 (show k + mc + 0 ≤ k + 11 by omega) (show g + ms + 0 ≤ g + 235 by omega)
theorem law_11 {l : Launch} {D : va_G} {base : Nat} {Sx : Nat → (Nat → Int32) → Prop} {V : zVT} {X : zXT} {yy : MethodName} (hV : zLaws l D base code RL yy room_1 9 Sx V X) (G : l.stackTraces = false) {b N : Nat} {xs : Nat → Int32} (sld : SLD V b N xs) {B a n i k g : Nat} {H : zH} (hi : i + 4 ≤ N) (hN : N ≤ 2048) (hB : B + 2000 < 2 ^ 27) (hk : k + 11 ≤ 600000) (hg : g + 235 ≤ 7000000) (hst : ST B a n H)
    (kk : ∀ H2 n2 k2 g2, n ≤ n2 → ST (B + 2000) a n2 H2 → k2 ≤ k + 11 → g2 ≤ g + 235 → V 1599 [(4, .int (nI i)), (1, .ref a), (2, .ref (a + 31)), (3, .ref (a + 39)), (0, .ref b)] [] H2 n2 k2 g2) : V 766 [(4, .int (nI i)), (1, .ref a), (2, .ref (a + 31)), (3, .ref (a + 39)), (0, .ref b)] [] H n k g := by
  obtain ⟨h, β, τ, u, v, rf, φ, c, π, sn, ρ, κ, ψ, μ, L, y, rfl, hm, hy, hx, hr⟩ := hst
  refine hV.aload_n 1 dL_law_766 rfl ?_
  refine hV.aload_n 3 dL_law_767 rfl ?_
  obtain ⟨kx, r, S1, hW, hrest⟩ := op_work G hB hm hy hx hr  (D := D) (base := base)
  refine hV.callSH3 (rest := []) dL_law_768 hW my_L_work ks_L_132 rfl rfl (Nat.le_of_ble_eq_true rfl) (Nat.le_of_ble_eq_true rfl) (Nat.le_of_ble_eq_true rfl) (show k + 11 ≤ 601024 by omega) (show g + 235 ≤ 7293034 by omega) (st2 := [.int kx]) rfl rfl rfl (fun H1 n1 hn hs => ?_)
  refine hV.istore (ls2 := [(5, .int kx), (4, .int (nI i)), (1, .ref a), (2, .ref (a + 31)), (3, .ref (a + 39)), (0, .ref b)]) dL_law_771 (by decide) rfl ?_
  refine hV.aload_n 3 dL_law_773 rfl ?_
  obtain ⟨⟨fs, hfs⟩, dd, S2, hd, hM, hfin⟩ := hrest H1 n1 hn hs
  refine hV.callV3 (rest := []) dL_law_774 hM my_X5_work kv_L_135 hfs rfl rfl rfl (show dd + 1 ≤ 2048 by omega) (show 64 * (dd + 1) ≤ 84000 by omega) (Nat.le_of_ble_eq_true rfl) (show k + 11 + 0 ≤ 601024 by omega) (show g + 235 + 0 ≤ 7293034 by omega) (st2 := [.int r]) rfl rfl rfl (fun H2 n2 hn2 hs2 => ?_)
  refine hV.istore (ls2 := [(6, .int r), (5, .int kx), (4, .int (nI i)), (1, .ref a), (2, .ref (a + 31)), (3, .ref (a + 39)), (0, .ref b)]) dL_law_777 (by decide) rfl ?_
  refine hV.aload_n 4 dL_law_779 rfl ?_
  obtain ⟨⟨gg, ψ2, μ2, e2, e3⟩, ⟨y2, hy2, hk0⟩, hst2⟩ := hfin H2 n2 hn2 hs2
  subst e2
  refine hV.callV1 (rest := []) dL_law_780 (c_X5_thrown G) my_X5_thrown kv_L_95 M_o rfl rfl rfl (Nat.le_of_ble_eq_true rfl) (Nat.le_of_ble_eq_true rfl) (Nat.le_of_ble_eq_true rfl) (show k + 11 + 0 + 0 ≤ 601024 by omega) (show g + 235 + 0 + 0 ≤ 7293034 by omega) (st2 := [.int (ψ2 0)]) rfl rfl rfl ?_
  refine hV.iload 1 dL_law_783 rfl ?_
  refine hV.icmp_eq_t (tgt := 790) dL_law_785 (by decide) e3 ?_
  refine hV.iload 1 dL_law_790 rfl ?_
  have fin : V 807 [(6, .int r), (5, .int kx), (4, .int (nI i)), (1, .ref a), (2, .ref (a + 31)), (3, .ref (a + 39)), (0, .ref b)] [] (setM gg (a + 31) ψ2 μ2) n2 (k + 11 + 0 + 0) (g + 235 + 0 + 0) := by
    refine hV.goto (tgt := 1599) dL_law_807 (by decide) ?_
    refine hV.pick [2, 3, 4, 5, 6] (ls2 := [(4, .int (nI i)), (1, .ref a), (2, .ref (a + 31)), (3, .ref (a + 39)), (0, .ref b)]) rfl ?_
    exact kk _ _ _ _ (Nat.le_trans hn hn2) hst2 (show k + 11 + 0 + 0 ≤ k + 11 by omega) (show g + 235 + 0 + 0 ≤ g + 235 by omega)
  by_cases hkx : kx = 0
  · refine hV.if_ne_f (tgt := 807) dL_law_792 (by decide) (by first | exact hkx | (exact fun w => w hkx)) ?_
    refine hV.aload_n 5 dL_law_795 rfl ?_
    refine hV.iconst (v := 0) dL_law_796 (by decide) ?_
    refine hV.lald (j := 0) dL_law_797 hy2 ⟨by decide, by decide⟩ (by decide) ?_
    refine hV.iload 0 dL_law_798 rfl ?_
    refine hV.i2l dL_law_800 rfl ?_
    refine hV.lcmp dL_law_801 ?_
    rw [hk0 hkx]
    exact hV.if_eq_t (tgt := 807) dL_law_802 (by decide) (lg_cmp_self _) fin
  · exact hV.if_ne_t (tgt := 807) dL_law_792 (by decide) hkx fin
theorem law_12 {l : Launch} {D : va_G} {base : Nat} {Sx : Nat → (Nat → Int32) → Prop} {V : zVT} {X : zXT} {yy : MethodName} (hV : zLaws l D base code RL yy room_1 9 Sx V X) (G : l.stackTraces = false) {b N : Nat} {xs : Nat → Int32} (sld : SLD V b N xs) {B a n i k g : Nat} {H : zH} (hi : i + 4 ≤ N) (hN : N ≤ 2048) (hB : B + 2000 < 2 ^ 27) (hk : k + 11 ≤ 600000) (hg : g + 235 ≤ 7000000) (hst : ST B a n H)
    (kk : ∀ H2 n2 k2 g2, n ≤ n2 → ST (B + 2000) a n2 H2 → k2 ≤ k + 11 → g2 ≤ g + 235 → V 1599 [(4, .int (nI i)), (1, .ref a), (2, .ref (a + 31)), (3, .ref (a + 39)), (0, .ref b)] [] H2 n2 k2 g2) : V 810 [(4, .int (nI i)), (1, .ref a), (2, .ref (a + 31)), (3, .ref (a + 39)), (0, .ref b)] [] H n k g := by
  obtain ⟨h, β, τ, u, v, rf, φ, c, π, sn, ρ, κ, ψ, μ, L, y, rfl, hm, hy, hx, hr⟩ := hst
  refine hV.aload_n 1 dL_law_810 rfl ?_
  refine hV.aload_n 3 dL_law_811 rfl ?_
  obtain ⟨kx, r, S1, hW, hrest⟩ := op_undo G hB hm hy hx hr  (D := D) (base := base)
  refine hV.callSH3 (rest := []) dL_law_812 hW my_L_undo ks_L_136 rfl rfl (Nat.le_of_ble_eq_true rfl) (Nat.le_of_ble_eq_true rfl) (Nat.le_of_ble_eq_true rfl) (show k + 11 ≤ 601024 by omega) (show g + 235 ≤ 7293034 by omega) (st2 := [.int kx]) rfl rfl rfl (fun H1 n1 hn hs => ?_)
  refine hV.istore (ls2 := [(5, .int kx), (4, .int (nI i)), (1, .ref a), (2, .ref (a + 31)), (3, .ref (a + 39)), (0, .ref b)]) dL_law_815 (by decide) rfl ?_
  refine hV.aload_n 3 dL_law_817 rfl ?_
  obtain ⟨⟨fs, hfs⟩, dd, S2, hd, hM, hfin⟩ := hrest H1 n1 hn hs
  refine hV.callV3 (rest := []) dL_law_818 hM my_X5_undo kv_L_138 hfs rfl rfl rfl (show dd + 1 ≤ 2048 by omega) (show 64 * (dd + 1) ≤ 84000 by omega) (Nat.le_of_ble_eq_true rfl) (show k + 11 + 0 ≤ 601024 by omega) (show g + 235 + 0 ≤ 7293034 by omega) (st2 := [.int r]) rfl rfl rfl (fun H2 n2 hn2 hs2 => ?_)
  refine hV.istore (ls2 := [(6, .int r), (5, .int kx), (4, .int (nI i)), (1, .ref a), (2, .ref (a + 31)), (3, .ref (a + 39)), (0, .ref b)]) dL_law_821 (by decide) rfl ?_
  refine hV.aload_n 4 dL_law_823 rfl ?_
  obtain ⟨⟨gg, ψ2, μ2, e2, e3⟩, ⟨y2, hy2, hk0⟩, hst2⟩ := hfin H2 n2 hn2 hs2
  subst e2
  refine hV.callV1 (rest := []) dL_law_824 (c_X5_thrown G) my_X5_thrown kv_L_95 M_o rfl rfl rfl (Nat.le_of_ble_eq_true rfl) (Nat.le_of_ble_eq_true rfl) (Nat.le_of_ble_eq_true rfl) (show k + 11 + 0 + 0 ≤ 601024 by omega) (show g + 235 + 0 + 0 ≤ 7293034 by omega) (st2 := [.int (ψ2 0)]) rfl rfl rfl ?_
  refine hV.iload 1 dL_law_827 rfl ?_
  refine hV.icmp_eq_t (tgt := 834) dL_law_829 (by decide) e3 ?_
  refine hV.iload 1 dL_law_834 rfl ?_
  have fin : V 851 [(6, .int r), (5, .int kx), (4, .int (nI i)), (1, .ref a), (2, .ref (a + 31)), (3, .ref (a + 39)), (0, .ref b)] [] (setM gg (a + 31) ψ2 μ2) n2 (k + 11 + 0 + 0) (g + 235 + 0 + 0) := by
    refine hV.goto (tgt := 1599) dL_law_851 (by decide) ?_
    refine hV.pick [2, 3, 4, 5, 6] (ls2 := [(4, .int (nI i)), (1, .ref a), (2, .ref (a + 31)), (3, .ref (a + 39)), (0, .ref b)]) rfl ?_
    exact kk _ _ _ _ (Nat.le_trans hn hn2) hst2 (show k + 11 + 0 + 0 ≤ k + 11 by omega) (show g + 235 + 0 + 0 ≤ g + 235 by omega)
  by_cases hkx : kx = 0
  · refine hV.if_ne_f (tgt := 851) dL_law_836 (by decide) (by first | exact hkx | (exact fun w => w hkx)) ?_
    refine hV.aload_n 5 dL_law_839 rfl ?_
    refine hV.iconst (v := 0) dL_law_840 (by decide) ?_
    refine hV.lald (j := 0) dL_law_841 hy2 ⟨by decide, by decide⟩ (by decide) ?_
    refine hV.iload 0 dL_law_842 rfl ?_
    refine hV.i2l dL_law_844 rfl ?_
    refine hV.lcmp dL_law_845 ?_
    rw [hk0 hkx]
    exact hV.if_eq_t (tgt := 851) dL_law_846 (by decide) (lg_cmp_self _) fin
  · exact hV.if_ne_t (tgt := 851) dL_law_836 (by decide) hkx fin
theorem law_13 {l : Launch} {D : va_G} {base : Nat} {Sx : Nat → (Nat → Int32) → Prop} {V : zVT} {X : zXT} {yy : MethodName} (hV : zLaws l D base code RL yy room_1 9 Sx V X) (G : l.stackTraces = false) {b N : Nat} {xs : Nat → Int32} (sld : SLD V b N xs) {B a n i k g : Nat} {H : zH} (hi : i + 4 ≤ N) (hN : N ≤ 2048) (hB : B + 2000 < 2 ^ 27) (hk : k + 11 ≤ 600000) (hg : g + 235 ≤ 7000000) (hst : ST B a n H)
    (kk : ∀ H2 n2 k2 g2, n ≤ n2 → ST (B + 2000) a n2 H2 → k2 ≤ k + 11 → g2 ≤ g + 235 → V 1599 [(4, .int (nI i)), (1, .ref a), (2, .ref (a + 31)), (3, .ref (a + 39)), (0, .ref b)] [] H2 n2 k2 g2) : V 854 [(4, .int (nI i)), (1, .ref a), (2, .ref (a + 31)), (3, .ref (a + 39)), (0, .ref b)] [] H n k g := by
  obtain ⟨h, β, τ, u, v, rf, φ, c, π, sn, ρ, κ, ψ, μ, L, y, rfl, hm, hy, hx, hr⟩ := hst
  refine hV.aload_n 1 dL_law_854 rfl ?_
  obtain ⟨r, dd, mc, ms, S1, c1, c2, c3, hW, hrest⟩ := op_keep G hB hm hy hx hr (D := D) (base := base)
  refine hV.callV3 (rest := []) dL_law_855 hW my_X4_keep kv_L_139 To_o rfl rfl rfl (show dd + 1 ≤ 2048 by omega) (show 64 * (dd + 1) ≤ 84000 by omega) (Nat.le_of_ble_eq_true rfl) (show k + mc ≤ 601024 by omega) (show g + ms ≤ 7293034 by omega) (st2 := [.int r]) rfl rfl rfl (fun H1 n1 hn hs => ?_)
  refine hV.aload_n 2 dL_law_858 rfl ?_
  obtain ⟨⟨fs, hfs⟩, dd2, S2, hd, hM, hfin⟩ := hrest H1 n1 hn hs
  refine hV.callV3 (rest := [.int r]) dL_law_859 hM my_X5_keep kv_L_142 hfs rfl rfl rfl (show dd2 + 1 ≤ 2048 by omega) (show 64 * (dd2 + 1) ≤ 84000 by omega) (Nat.le_of_ble_eq_true rfl) (show k + mc + 0 ≤ 601024 by omega) (show g + ms + 0 ≤ 7293034 by omega) (st2 := [.int r, .int r]) rfl rfl rfl (fun H2 n2 hn2 hs2 => ?_)
  have hst2 := hfin H2 n2 hn2 hs2
  refine hV.icmp_eq_t (tgt := 1599) dL_law_862 (by decide) rfl ?_
  exact kk _ _ _ _ (Nat.le_trans hn hn2) hst2 (show k + mc + 0 ≤ k + 11 by omega) (show g + ms + 0 ≤ g + 235 by omega)
theorem law_14 {l : Launch} {D : va_G} {base : Nat} {Sx : Nat → (Nat → Int32) → Prop} {V : zVT} {X : zXT} {yy : MethodName} (hV : zLaws l D base code RL yy room_1 9 Sx V X) (G : l.stackTraces = false) {b N : Nat} {xs : Nat → Int32} (sld : SLD V b N xs) {B a n i k g : Nat} {H : zH} (hi : i + 4 ≤ N) (hN : N ≤ 2048) (hB : B + 2000 < 2 ^ 27) (hk : k + 11 ≤ 600000) (hg : g + 235 ≤ 7000000) (hst : ST B a n H)
    (kk : ∀ H2 n2 k2 g2, n ≤ n2 → ST (B + 2000) a n2 H2 → k2 ≤ k + 11 → g2 ≤ g + 235 → V 1599 [(4, .int (nI i)), (1, .ref a), (2, .ref (a + 31)), (3, .ref (a + 39)), (0, .ref b)] [] H2 n2 k2 g2) : V 867 [(4, .int (nI i)), (1, .ref a), (2, .ref (a + 31)), (3, .ref (a + 39)), (0, .ref b)] [] H n k g := by
  obtain ⟨h, β, τ, u, v, rf, φ, c, π, sn, ρ, κ, ψ, μ, L, y, rfl, hm, hy, hx, hr⟩ := hst
  refine hV.aload_n 1 dL_law_867 rfl ?_
  refine hV.aload_n 3 dL_law_868 rfl ?_
  obtain ⟨kx, r, S1, hW, hrest⟩ := op_restore G hB hm hy hx hr  (D := D) (base := base)
  refine hV.callSH3 (rest := []) dL_law_869 hW my_L_restore ks_L_143 rfl rfl (Nat.le_of_ble_eq_true rfl) (Nat.le_of_ble_eq_true rfl) (Nat.le_of_ble_eq_true rfl) (show k + 11 ≤ 601024 by omega) (show g + 235 ≤ 7293034 by omega) (st2 := [.int kx]) rfl rfl rfl (fun H1 n1 hn hs => ?_)
  refine hV.istore (ls2 := [(5, .int kx), (4, .int (nI i)), (1, .ref a), (2, .ref (a + 31)), (3, .ref (a + 39)), (0, .ref b)]) dL_law_872 (by decide) rfl ?_
  refine hV.aload_n 3 dL_law_874 rfl ?_
  obtain ⟨⟨fs, hfs⟩, dd, S2, hd, hM, hfin⟩ := hrest H1 n1 hn hs
  refine hV.callV3 (rest := []) dL_law_875 hM my_X5_restore kv_L_145 hfs rfl rfl rfl (show dd + 1 ≤ 2048 by omega) (show 64 * (dd + 1) ≤ 84000 by omega) (Nat.le_of_ble_eq_true rfl) (show k + 11 + 0 ≤ 601024 by omega) (show g + 235 + 0 ≤ 7293034 by omega) (st2 := [.int r]) rfl rfl rfl (fun H2 n2 hn2 hs2 => ?_)
  refine hV.istore (ls2 := [(6, .int r), (5, .int kx), (4, .int (nI i)), (1, .ref a), (2, .ref (a + 31)), (3, .ref (a + 39)), (0, .ref b)]) dL_law_878 (by decide) rfl ?_
  refine hV.aload_n 4 dL_law_880 rfl ?_
  obtain ⟨⟨gg, ψ2, μ2, e2, e3⟩, ⟨y2, hy2, hk0⟩, hst2⟩ := hfin H2 n2 hn2 hs2
  subst e2
  refine hV.callV1 (rest := []) dL_law_881 (c_X5_thrown G) my_X5_thrown kv_L_95 M_o rfl rfl rfl (Nat.le_of_ble_eq_true rfl) (Nat.le_of_ble_eq_true rfl) (Nat.le_of_ble_eq_true rfl) (show k + 11 + 0 + 0 ≤ 601024 by omega) (show g + 235 + 0 + 0 ≤ 7293034 by omega) (st2 := [.int (ψ2 0)]) rfl rfl rfl ?_
  refine hV.iload 1 dL_law_884 rfl ?_
  refine hV.icmp_eq_t (tgt := 891) dL_law_886 (by decide) e3 ?_
  refine hV.iload 1 dL_law_891 rfl ?_
  have fin : V 908 [(6, .int r), (5, .int kx), (4, .int (nI i)), (1, .ref a), (2, .ref (a + 31)), (3, .ref (a + 39)), (0, .ref b)] [] (setM gg (a + 31) ψ2 μ2) n2 (k + 11 + 0 + 0) (g + 235 + 0 + 0) := by
    refine hV.goto (tgt := 1599) dL_law_908 (by decide) ?_
    refine hV.pick [2, 3, 4, 5, 6] (ls2 := [(4, .int (nI i)), (1, .ref a), (2, .ref (a + 31)), (3, .ref (a + 39)), (0, .ref b)]) rfl ?_
    exact kk _ _ _ _ (Nat.le_trans hn hn2) hst2 (show k + 11 + 0 + 0 ≤ k + 11 by omega) (show g + 235 + 0 + 0 ≤ g + 235 by omega)
  by_cases hkx : kx = 0
  · refine hV.if_ne_f (tgt := 908) dL_law_893 (by decide) (by first | exact hkx | (exact fun w => w hkx)) ?_
    refine hV.aload_n 5 dL_law_896 rfl ?_
    refine hV.iconst (v := 0) dL_law_897 (by decide) ?_
    refine hV.lald (j := 0) dL_law_898 hy2 ⟨by decide, by decide⟩ (by decide) ?_
    refine hV.iload 0 dL_law_899 rfl ?_
    refine hV.i2l dL_law_901 rfl ?_
    refine hV.lcmp dL_law_902 ?_
    rw [hk0 hkx]
    exact hV.if_eq_t (tgt := 908) dL_law_903 (by decide) (lg_cmp_self _) fin
  · exact hV.if_ne_t (tgt := 908) dL_law_893 (by decide) hkx fin
theorem law_15 {l : Launch} {D : va_G} {base : Nat} {Sx : Nat → (Nat → Int32) → Prop} {V : zVT} {X : zXT} {yy : MethodName} (hV : zLaws l D base code RL yy room_1 9 Sx V X) (G : l.stackTraces = false) {b N : Nat} {xs : Nat → Int32} (sld : SLD V b N xs) {B a n i k g : Nat} {H : zH} (hi : i + 4 ≤ N) (hN : N ≤ 2048) (hB : B + 2000 < 2 ^ 27) (hk : k + 11 ≤ 600000) (hg : g + 235 ≤ 7000000) (hst : ST B a n H)
    (kk : ∀ H2 n2 k2 g2, n ≤ n2 → ST (B + 2000) a n2 H2 → k2 ≤ k + 11 → g2 ≤ g + 235 → V 1599 [(4, .int (nI i)), (1, .ref a), (2, .ref (a + 31)), (3, .ref (a + 39)), (0, .ref b)] [] H2 n2 k2 g2) : V 911 [(4, .int (nI i)), (1, .ref a), (2, .ref (a + 31)), (3, .ref (a + 39)), (0, .ref b)] [] H n k g := by
  obtain ⟨h, β, τ, u, v, rf, φ, c, π, sn, ρ, κ, ψ, μ, L, y, rfl, hm, hy, hx, hr⟩ := hst
  refine hV.aload_n 1 dL_law_911 rfl ?_
  refine hV.aload_n 4 dL_law_912 rfl ?_
  refine hV.iload 0 dL_law_913 rfl ?_
  refine hV.iconst (v := 1) dL_law_915 (by decide) ?_
  refine hV.iaddN (a := i) (b := 1) dL_law_916 ?_
  refine sld dL_law_917 (zix_nI (by omega)) (show i + 1 < N by omega) ?_
  refine hV.aload_n 4 dL_law_918 rfl ?_
  refine hV.iload 0 dL_law_919 rfl ?_
  refine hV.iconst (v := 2) dL_law_921 (by decide) ?_
  refine hV.iaddN (a := i) (b := 2) dL_law_922 ?_
  refine sld dL_law_923 (zix_nI (by omega)) (show i + 2 < N by omega) ?_
  refine hV.aload_n 3 dL_law_924 rfl ?_
  obtain ⟨kx, r, S1, hW, hrest⟩ := op_pin G hB hm hy hx hr (p0 := xs (i + 1)) (p1 := xs (i + 2)) (D := D) (base := base)
  refine hV.callSH3 (rest := []) dL_law_925 hW my_L_pin ks_L_146 rfl rfl (Nat.le_of_ble_eq_true rfl) (Nat.le_of_ble_eq_true rfl) (Nat.le_of_ble_eq_true rfl) (show k + 11 ≤ 601024 by omega) (show g + 235 ≤ 7293034 by omega) (st2 := [.int kx]) rfl rfl rfl (fun H1 n1 hn hs => ?_)
  refine hV.istore (ls2 := [(5, .int kx), (4, .int (nI i)), (1, .ref a), (2, .ref (a + 31)), (3, .ref (a + 39)), (0, .ref b)]) dL_law_928 (by decide) rfl ?_
  refine hV.aload_n 3 dL_law_930 rfl ?_
  refine hV.aload_n 5 dL_law_931 rfl ?_
  refine hV.iload 1 dL_law_932 rfl ?_
  refine hV.iconst (v := 1) dL_law_934 (by decide) ?_
  refine hV.iaddN (a := i) (b := 1) dL_law_935 ?_
  refine sld dL_law_936 (zix_nI (by omega)) (show i + 1 < N by omega) ?_
  refine hV.aload_n 5 dL_law_937 rfl ?_
  refine hV.iload 1 dL_law_938 rfl ?_
  refine hV.iconst (v := 2) dL_law_940 (by decide) ?_
  refine hV.iaddN (a := i) (b := 2) dL_law_941 ?_
  refine sld dL_law_942 (zix_nI (by omega)) (show i + 2 < N by omega) ?_
  obtain ⟨⟨fs, hfs⟩, dd, S2, hd, hM, hfin⟩ := hrest H1 n1 hn hs
  refine hV.callV3 (rest := []) dL_law_943 hM my_X5_pin kv_L_148 hfs rfl rfl rfl (show dd + 1 ≤ 2048 by omega) (show 64 * (dd + 1) ≤ 84000 by omega) (Nat.le_of_ble_eq_true rfl) (show k + 11 + 0 ≤ 601024 by omega) (show g + 235 + 0 ≤ 7293034 by omega) (st2 := [.int r]) rfl rfl rfl (fun H2 n2 hn2 hs2 => ?_)
  refine hV.istore (ls2 := [(6, .int r), (5, .int kx), (4, .int (nI i)), (1, .ref a), (2, .ref (a + 31)), (3, .ref (a + 39)), (0, .ref b)]) dL_law_946 (by decide) rfl ?_
  refine hV.aload_n 4 dL_law_948 rfl ?_
  obtain ⟨⟨gg, ψ2, μ2, e2, e3⟩, ⟨y2, hy2, hk0⟩, hst2⟩ := hfin H2 n2 hn2 hs2
  subst e2
  refine hV.callV1 (rest := []) dL_law_949 (c_X5_thrown G) my_X5_thrown kv_L_95 M_o rfl rfl rfl (Nat.le_of_ble_eq_true rfl) (Nat.le_of_ble_eq_true rfl) (Nat.le_of_ble_eq_true rfl) (show k + 11 + 0 + 0 ≤ 601024 by omega) (show g + 235 + 0 + 0 ≤ 7293034 by omega) (st2 := [.int (ψ2 0)]) rfl rfl rfl ?_
  refine hV.iload 1 dL_law_952 rfl ?_
  refine hV.icmp_eq_t (tgt := 959) dL_law_954 (by decide) e3 ?_
  refine hV.iload 1 dL_law_959 rfl ?_
  have fin : V 976 [(6, .int r), (5, .int kx), (4, .int (nI i)), (1, .ref a), (2, .ref (a + 31)), (3, .ref (a + 39)), (0, .ref b)] [] (setM gg (a + 31) ψ2 μ2) n2 (k + 11 + 0 + 0) (g + 235 + 0 + 0) := by
    refine hV.goto (tgt := 1599) dL_law_976 (by decide) ?_
    refine hV.pick [2, 3, 4, 5, 6] (ls2 := [(4, .int (nI i)), (1, .ref a), (2, .ref (a + 31)), (3, .ref (a + 39)), (0, .ref b)]) rfl ?_
    exact kk _ _ _ _ (Nat.le_trans hn hn2) hst2 (show k + 11 + 0 + 0 ≤ k + 11 by omega) (show g + 235 + 0 + 0 ≤ g + 235 by omega)
  by_cases hkx : kx = 0
  · refine hV.if_ne_f (tgt := 976) dL_law_961 (by decide) (by first | exact hkx | (exact fun w => w hkx)) ?_
    refine hV.aload_n 5 dL_law_964 rfl ?_
    refine hV.iconst (v := 0) dL_law_965 (by decide) ?_
    refine hV.lald (j := 0) dL_law_966 hy2 ⟨by decide, by decide⟩ (by decide) ?_
    refine hV.iload 0 dL_law_967 rfl ?_
    refine hV.i2l dL_law_969 rfl ?_
    refine hV.lcmp dL_law_970 ?_
    rw [hk0 hkx]
    exact hV.if_eq_t (tgt := 976) dL_law_971 (by decide) (lg_cmp_self _) fin
  · exact hV.if_ne_t (tgt := 976) dL_law_961 (by decide) hkx fin
theorem law_16 {l : Launch} {D : va_G} {base : Nat} {Sx : Nat → (Nat → Int32) → Prop} {V : zVT} {X : zXT} {yy : MethodName} (hV : zLaws l D base code RL yy room_1 9 Sx V X) (G : l.stackTraces = false) {b N : Nat} {xs : Nat → Int32} (sld : SLD V b N xs) {B a n i k g : Nat} {H : zH} (hi : i + 4 ≤ N) (hN : N ≤ 2048) (hB : B + 2000 < 2 ^ 27) (hk : k + 11 ≤ 600000) (hg : g + 235 ≤ 7000000) (hst : ST B a n H)
    (kk : ∀ H2 n2 k2 g2, n ≤ n2 → ST (B + 2000) a n2 H2 → k2 ≤ k + 11 → g2 ≤ g + 235 → V 1599 [(4, .int (nI i)), (1, .ref a), (2, .ref (a + 31)), (3, .ref (a + 39)), (0, .ref b)] [] H2 n2 k2 g2) : V 979 [(4, .int (nI i)), (1, .ref a), (2, .ref (a + 31)), (3, .ref (a + 39)), (0, .ref b)] [] H n k g := by
  obtain ⟨h, β, τ, u, v, rf, φ, c, π, sn, ρ, κ, ψ, μ, L, y, rfl, hm, hy, hx, hr⟩ := hst
  refine hV.aload_n 1 dL_law_979 rfl ?_
  refine hV.aload_n 4 dL_law_980 rfl ?_
  refine hV.iload 0 dL_law_981 rfl ?_
  refine hV.iconst (v := 1) dL_law_983 (by decide) ?_
  refine hV.iaddN (a := i) (b := 1) dL_law_984 ?_
  refine sld dL_law_985 (zix_nI (by omega)) (show i + 1 < N by omega) ?_
  refine hV.aload_n 3 dL_law_986 rfl ?_
  obtain ⟨kx, r, S1, hW, hrest⟩ := op_bent G hB hm hy hx hr (p0 := xs (i + 1)) (D := D) (base := base)
  refine hV.callSH3 (rest := []) dL_law_987 hW my_L_bent ks_L_149 rfl rfl (Nat.le_of_ble_eq_true rfl) (Nat.le_of_ble_eq_true rfl) (Nat.le_of_ble_eq_true rfl) (show k + 11 ≤ 601024 by omega) (show g + 235 ≤ 7293034 by omega) (st2 := [.int kx]) rfl rfl rfl (fun H1 n1 hn hs => ?_)
  refine hV.istore (ls2 := [(5, .int kx), (4, .int (nI i)), (1, .ref a), (2, .ref (a + 31)), (3, .ref (a + 39)), (0, .ref b)]) dL_law_990 (by decide) rfl ?_
  refine hV.aload_n 3 dL_law_992 rfl ?_
  refine hV.aload_n 5 dL_law_993 rfl ?_
  refine hV.iload 1 dL_law_994 rfl ?_
  refine hV.iconst (v := 1) dL_law_996 (by decide) ?_
  refine hV.iaddN (a := i) (b := 1) dL_law_997 ?_
  refine sld dL_law_998 (zix_nI (by omega)) (show i + 1 < N by omega) ?_
  obtain ⟨⟨fs, hfs⟩, dd, S2, hd, hM, hfin⟩ := hrest H1 n1 hn hs
  refine hV.callV3 (rest := []) dL_law_999 hM my_X5_bent kv_L_151 hfs rfl rfl rfl (show dd + 1 ≤ 2048 by omega) (show 64 * (dd + 1) ≤ 84000 by omega) (Nat.le_of_ble_eq_true rfl) (show k + 11 + 0 ≤ 601024 by omega) (show g + 235 + 0 ≤ 7293034 by omega) (st2 := [.int r]) rfl rfl rfl (fun H2 n2 hn2 hs2 => ?_)
  refine hV.istore (ls2 := [(6, .int r), (5, .int kx), (4, .int (nI i)), (1, .ref a), (2, .ref (a + 31)), (3, .ref (a + 39)), (0, .ref b)]) dL_law_1002 (by decide) rfl ?_
  refine hV.aload_n 4 dL_law_1004 rfl ?_
  obtain ⟨⟨gg, ψ2, μ2, e2, e3⟩, ⟨y2, hy2, hk0⟩, hst2⟩ := hfin H2 n2 hn2 hs2
  subst e2
  refine hV.callV1 (rest := []) dL_law_1005 (c_X5_thrown G) my_X5_thrown kv_L_95 M_o rfl rfl rfl (Nat.le_of_ble_eq_true rfl) (Nat.le_of_ble_eq_true rfl) (Nat.le_of_ble_eq_true rfl) (show k + 11 + 0 + 0 ≤ 601024 by omega) (show g + 235 + 0 + 0 ≤ 7293034 by omega) (st2 := [.int (ψ2 0)]) rfl rfl rfl ?_
  refine hV.iload 1 dL_law_1008 rfl ?_
  refine hV.icmp_eq_t (tgt := 1015) dL_law_1010 (by decide) e3 ?_
  refine hV.iload 1 dL_law_1015 rfl ?_
  have fin : V 1032 [(6, .int r), (5, .int kx), (4, .int (nI i)), (1, .ref a), (2, .ref (a + 31)), (3, .ref (a + 39)), (0, .ref b)] [] (setM gg (a + 31) ψ2 μ2) n2 (k + 11 + 0 + 0) (g + 235 + 0 + 0) := by
    refine hV.goto (tgt := 1599) dL_law_1032 (by decide) ?_
    refine hV.pick [2, 3, 4, 5, 6] (ls2 := [(4, .int (nI i)), (1, .ref a), (2, .ref (a + 31)), (3, .ref (a + 39)), (0, .ref b)]) rfl ?_
    exact kk _ _ _ _ (Nat.le_trans hn hn2) hst2 (show k + 11 + 0 + 0 ≤ k + 11 by omega) (show g + 235 + 0 + 0 ≤ g + 235 by omega)
  by_cases hkx : kx = 0
  · refine hV.if_ne_f (tgt := 1032) dL_law_1017 (by decide) (by first | exact hkx | (exact fun w => w hkx)) ?_
    refine hV.aload_n 5 dL_law_1020 rfl ?_
    refine hV.iconst (v := 0) dL_law_1021 (by decide) ?_
    refine hV.lald (j := 0) dL_law_1022 hy2 ⟨by decide, by decide⟩ (by decide) ?_
    refine hV.iload 0 dL_law_1023 rfl ?_
    refine hV.i2l dL_law_1025 rfl ?_
    refine hV.lcmp dL_law_1026 ?_
    rw [hk0 hkx]
    exact hV.if_eq_t (tgt := 1032) dL_law_1027 (by decide) (lg_cmp_self _) fin
  · exact hV.if_ne_t (tgt := 1032) dL_law_1017 (by decide) hkx fin
theorem law_17 {l : Launch} {D : va_G} {base : Nat} {Sx : Nat → (Nat → Int32) → Prop} {V : zVT} {X : zXT} {yy : MethodName} (hV : zLaws l D base code RL yy room_1 9 Sx V X) (G : l.stackTraces = false) {b N : Nat} {xs : Nat → Int32} (sld : SLD V b N xs) {B a n i k g : Nat} {H : zH} (hi : i + 4 ≤ N) (hN : N ≤ 2048) (hB : B + 2000 < 2 ^ 27) (hk : k + 11 ≤ 600000) (hg : g + 235 ≤ 7000000) (hst : ST B a n H)
    (kk : ∀ H2 n2 k2 g2, n ≤ n2 → ST (B + 2000) a n2 H2 → k2 ≤ k + 11 → g2 ≤ g + 235 → V 1599 [(4, .int (nI i)), (1, .ref a), (2, .ref (a + 31)), (3, .ref (a + 39)), (0, .ref b)] [] H2 n2 k2 g2) : V 1035 [(4, .int (nI i)), (1, .ref a), (2, .ref (a + 31)), (3, .ref (a + 39)), (0, .ref b)] [] H n k g := by
  obtain ⟨h, β, τ, u, v, rf, φ, c, π, sn, ρ, κ, ψ, μ, L, y, rfl, hm, hy, hx, hr⟩ := hst
  refine hV.aload_n 1 dL_law_1035 rfl ?_
  refine hV.aload_n 4 dL_law_1036 rfl ?_
  refine hV.iload 0 dL_law_1037 rfl ?_
  refine hV.iconst (v := 1) dL_law_1039 (by decide) ?_
  refine hV.iaddN (a := i) (b := 1) dL_law_1040 ?_
  refine sld dL_law_1041 (zix_nI (by omega)) (show i + 1 < N by omega) ?_
  refine hV.aload_n 3 dL_law_1042 rfl ?_
  obtain ⟨kx, r, S1, hW, hrest⟩ := op_touched G hB hm hy hx hr (p0 := xs (i + 1)) (D := D) (base := base)
  refine hV.callSH3 (rest := []) dL_law_1043 hW my_L_touched ks_L_152 rfl rfl (Nat.le_of_ble_eq_true rfl) (Nat.le_of_ble_eq_true rfl) (Nat.le_of_ble_eq_true rfl) (show k + 11 ≤ 601024 by omega) (show g + 235 ≤ 7293034 by omega) (st2 := [.int kx]) rfl rfl rfl (fun H1 n1 hn hs => ?_)
  refine hV.istore (ls2 := [(5, .int kx), (4, .int (nI i)), (1, .ref a), (2, .ref (a + 31)), (3, .ref (a + 39)), (0, .ref b)]) dL_law_1046 (by decide) rfl ?_
  refine hV.aload_n 3 dL_law_1048 rfl ?_
  refine hV.aload_n 5 dL_law_1049 rfl ?_
  refine hV.iload 1 dL_law_1050 rfl ?_
  refine hV.iconst (v := 1) dL_law_1052 (by decide) ?_
  refine hV.iaddN (a := i) (b := 1) dL_law_1053 ?_
  refine sld dL_law_1054 (zix_nI (by omega)) (show i + 1 < N by omega) ?_
  obtain ⟨⟨fs, hfs⟩, dd, S2, hd, hM, hfin⟩ := hrest H1 n1 hn hs
  refine hV.callV3 (rest := []) dL_law_1055 hM my_X5_touched kv_L_154 hfs rfl rfl rfl (show dd + 1 ≤ 2048 by omega) (show 64 * (dd + 1) ≤ 84000 by omega) (Nat.le_of_ble_eq_true rfl) (show k + 11 + 0 ≤ 601024 by omega) (show g + 235 + 0 ≤ 7293034 by omega) (st2 := [.int r]) rfl rfl rfl (fun H2 n2 hn2 hs2 => ?_)
  refine hV.istore (ls2 := [(6, .int r), (5, .int kx), (4, .int (nI i)), (1, .ref a), (2, .ref (a + 31)), (3, .ref (a + 39)), (0, .ref b)]) dL_law_1058 (by decide) rfl ?_
  refine hV.aload_n 4 dL_law_1060 rfl ?_
  obtain ⟨⟨gg, ψ2, μ2, e2, e3⟩, ⟨y2, hy2, hk0⟩, hst2⟩ := hfin H2 n2 hn2 hs2
  subst e2
  refine hV.callV1 (rest := []) dL_law_1061 (c_X5_thrown G) my_X5_thrown kv_L_95 M_o rfl rfl rfl (Nat.le_of_ble_eq_true rfl) (Nat.le_of_ble_eq_true rfl) (Nat.le_of_ble_eq_true rfl) (show k + 11 + 0 + 0 ≤ 601024 by omega) (show g + 235 + 0 + 0 ≤ 7293034 by omega) (st2 := [.int (ψ2 0)]) rfl rfl rfl ?_
  refine hV.iload 1 dL_law_1064 rfl ?_
  refine hV.icmp_eq_t (tgt := 1071) dL_law_1066 (by decide) e3 ?_
  refine hV.iload 1 dL_law_1071 rfl ?_
  have fin : V 1088 [(6, .int r), (5, .int kx), (4, .int (nI i)), (1, .ref a), (2, .ref (a + 31)), (3, .ref (a + 39)), (0, .ref b)] [] (setM gg (a + 31) ψ2 μ2) n2 (k + 11 + 0 + 0) (g + 235 + 0 + 0) := by
    refine hV.goto (tgt := 1599) dL_law_1088 (by decide) ?_
    refine hV.pick [2, 3, 4, 5, 6] (ls2 := [(4, .int (nI i)), (1, .ref a), (2, .ref (a + 31)), (3, .ref (a + 39)), (0, .ref b)]) rfl ?_
    exact kk _ _ _ _ (Nat.le_trans hn hn2) hst2 (show k + 11 + 0 + 0 ≤ k + 11 by omega) (show g + 235 + 0 + 0 ≤ g + 235 by omega)
  by_cases hkx : kx = 0
  · refine hV.if_ne_f (tgt := 1088) dL_law_1073 (by decide) (by first | exact hkx | (exact fun w => w hkx)) ?_
    refine hV.aload_n 5 dL_law_1076 rfl ?_
    refine hV.iconst (v := 0) dL_law_1077 (by decide) ?_
    refine hV.lald (j := 0) dL_law_1078 hy2 ⟨by decide, by decide⟩ (by decide) ?_
    refine hV.iload 0 dL_law_1079 rfl ?_
    refine hV.i2l dL_law_1081 rfl ?_
    refine hV.lcmp dL_law_1082 ?_
    rw [hk0 hkx]
    exact hV.if_eq_t (tgt := 1088) dL_law_1083 (by decide) (lg_cmp_self _) fin
  · exact hV.if_ne_t (tgt := 1088) dL_law_1073 (by decide) hkx fin
theorem law_18 {l : Launch} {D : va_G} {base : Nat} {Sx : Nat → (Nat → Int32) → Prop} {V : zVT} {X : zXT} {yy : MethodName} (hV : zLaws l D base code RL yy room_1 9 Sx V X) (G : l.stackTraces = false) {b N : Nat} {xs : Nat → Int32} (sld : SLD V b N xs) {B a n i k g : Nat} {H : zH} (hi : i + 4 ≤ N) (hN : N ≤ 2048) (hB : B + 2000 < 2 ^ 27) (hk : k + 11 ≤ 600000) (hg : g + 235 ≤ 7000000) (hst : ST B a n H)
    (kk : ∀ H2 n2 k2 g2, n ≤ n2 → ST (B + 2000) a n2 H2 → k2 ≤ k + 11 → g2 ≤ g + 235 → V 1599 [(4, .int (nI i)), (1, .ref a), (2, .ref (a + 31)), (3, .ref (a + 39)), (0, .ref b)] [] H2 n2 k2 g2) : V 1091 [(4, .int (nI i)), (1, .ref a), (2, .ref (a + 31)), (3, .ref (a + 39)), (0, .ref b)] [] H n k g := by
  obtain ⟨h, β, τ, u, v, rf, φ, c, π, sn, ρ, κ, ψ, μ, L, y, rfl, hm, hy, hx, hr⟩ := hst
  refine hV.aload_n 1 dL_law_1091 rfl ?_
  refine hV.aload_n 4 dL_law_1092 rfl ?_
  refine hV.iload 0 dL_law_1093 rfl ?_
  refine hV.iconst (v := 1) dL_law_1095 (by decide) ?_
  refine hV.iaddN (a := i) (b := 1) dL_law_1096 ?_
  refine sld dL_law_1097 (zix_nI (by omega)) (show i + 1 < N by omega) ?_
  refine hV.aload_n 4 dL_law_1098 rfl ?_
  refine hV.iload 0 dL_law_1099 rfl ?_
  refine hV.iconst (v := 2) dL_law_1101 (by decide) ?_
  refine hV.iaddN (a := i) (b := 2) dL_law_1102 ?_
  refine sld dL_law_1103 (zix_nI (by omega)) (show i + 2 < N by omega) ?_
  refine hV.aload_n 3 dL_law_1104 rfl ?_
  obtain ⟨kx, r, S1, hW, hrest⟩ := op_pocketOf G hB hm hy hx hr (p0 := xs (i + 1)) (p1 := xs (i + 2)) (D := D) (base := base)
  refine hV.callSH3 (rest := []) dL_law_1105 hW my_L_pocketOf ks_L_155 rfl rfl (Nat.le_of_ble_eq_true rfl) (Nat.le_of_ble_eq_true rfl) (Nat.le_of_ble_eq_true rfl) (show k + 11 ≤ 601024 by omega) (show g + 235 ≤ 7293034 by omega) (st2 := [.int kx]) rfl rfl rfl (fun H1 n1 hn hs => ?_)
  refine hV.istore (ls2 := [(5, .int kx), (4, .int (nI i)), (1, .ref a), (2, .ref (a + 31)), (3, .ref (a + 39)), (0, .ref b)]) dL_law_1108 (by decide) rfl ?_
  refine hV.aload_n 3 dL_law_1110 rfl ?_
  refine hV.aload_n 5 dL_law_1111 rfl ?_
  refine hV.iload 1 dL_law_1112 rfl ?_
  refine hV.iconst (v := 1) dL_law_1114 (by decide) ?_
  refine hV.iaddN (a := i) (b := 1) dL_law_1115 ?_
  refine sld dL_law_1116 (zix_nI (by omega)) (show i + 1 < N by omega) ?_
  refine hV.aload_n 5 dL_law_1117 rfl ?_
  refine hV.iload 1 dL_law_1118 rfl ?_
  refine hV.iconst (v := 2) dL_law_1120 (by decide) ?_
  refine hV.iaddN (a := i) (b := 2) dL_law_1121 ?_
  refine sld dL_law_1122 (zix_nI (by omega)) (show i + 2 < N by omega) ?_
  obtain ⟨⟨fs, hfs⟩, dd, S2, hd, hM, hfin⟩ := hrest H1 n1 hn hs
  refine hV.callV3 (rest := []) dL_law_1123 hM my_X5_pocketOf kv_L_157 hfs rfl rfl rfl (show dd + 1 ≤ 2048 by omega) (show 64 * (dd + 1) ≤ 84000 by omega) (Nat.le_of_ble_eq_true rfl) (show k + 11 + 0 ≤ 601024 by omega) (show g + 235 + 0 ≤ 7293034 by omega) (st2 := [.int r]) rfl rfl rfl (fun H2 n2 hn2 hs2 => ?_)
  refine hV.istore (ls2 := [(6, .int r), (5, .int kx), (4, .int (nI i)), (1, .ref a), (2, .ref (a + 31)), (3, .ref (a + 39)), (0, .ref b)]) dL_law_1126 (by decide) rfl ?_
  refine hV.aload_n 4 dL_law_1128 rfl ?_
  obtain ⟨⟨gg, ψ2, μ2, e2, e3⟩, ⟨y2, hy2, hk0⟩, hst2⟩ := hfin H2 n2 hn2 hs2
  subst e2
  refine hV.callV1 (rest := []) dL_law_1129 (c_X5_thrown G) my_X5_thrown kv_L_95 M_o rfl rfl rfl (Nat.le_of_ble_eq_true rfl) (Nat.le_of_ble_eq_true rfl) (Nat.le_of_ble_eq_true rfl) (show k + 11 + 0 + 0 ≤ 601024 by omega) (show g + 235 + 0 + 0 ≤ 7293034 by omega) (st2 := [.int (ψ2 0)]) rfl rfl rfl ?_
  refine hV.iload 1 dL_law_1132 rfl ?_
  refine hV.icmp_eq_t (tgt := 1139) dL_law_1134 (by decide) e3 ?_
  refine hV.iload 1 dL_law_1139 rfl ?_
  have fin : V 1156 [(6, .int r), (5, .int kx), (4, .int (nI i)), (1, .ref a), (2, .ref (a + 31)), (3, .ref (a + 39)), (0, .ref b)] [] (setM gg (a + 31) ψ2 μ2) n2 (k + 11 + 0 + 0) (g + 235 + 0 + 0) := by
    refine hV.goto (tgt := 1599) dL_law_1156 (by decide) ?_
    refine hV.pick [2, 3, 4, 5, 6] (ls2 := [(4, .int (nI i)), (1, .ref a), (2, .ref (a + 31)), (3, .ref (a + 39)), (0, .ref b)]) rfl ?_
    exact kk _ _ _ _ (Nat.le_trans hn hn2) hst2 (show k + 11 + 0 + 0 ≤ k + 11 by omega) (show g + 235 + 0 + 0 ≤ g + 235 by omega)
  by_cases hkx : kx = 0
  · refine hV.if_ne_f (tgt := 1156) dL_law_1141 (by decide) (by first | exact hkx | (exact fun w => w hkx)) ?_
    refine hV.aload_n 5 dL_law_1144 rfl ?_
    refine hV.iconst (v := 0) dL_law_1145 (by decide) ?_
    refine hV.lald (j := 0) dL_law_1146 hy2 ⟨by decide, by decide⟩ (by decide) ?_
    refine hV.iload 0 dL_law_1147 rfl ?_
    refine hV.i2l dL_law_1149 rfl ?_
    refine hV.lcmp dL_law_1150 ?_
    rw [hk0 hkx]
    exact hV.if_eq_t (tgt := 1156) dL_law_1151 (by decide) (lg_cmp_self _) fin
  · exact hV.if_ne_t (tgt := 1156) dL_law_1141 (by decide) hkx fin
theorem law_19 {l : Launch} {D : va_G} {base : Nat} {Sx : Nat → (Nat → Int32) → Prop} {V : zVT} {X : zXT} {yy : MethodName} (hV : zLaws l D base code RL yy room_1 9 Sx V X) (G : l.stackTraces = false) {b N : Nat} {xs : Nat → Int32} (sld : SLD V b N xs) {B a n i k g : Nat} {H : zH} (hi : i + 4 ≤ N) (hN : N ≤ 2048) (hB : B + 2000 < 2 ^ 27) (hk : k + 11 ≤ 600000) (hg : g + 235 ≤ 7000000) (hst : ST B a n H)
    (kk : ∀ H2 n2 k2 g2, n ≤ n2 → ST (B + 2000) a n2 H2 → k2 ≤ k + 11 → g2 ≤ g + 235 → V 1599 [(4, .int (nI i)), (1, .ref a), (2, .ref (a + 31)), (3, .ref (a + 39)), (0, .ref b)] [] H2 n2 k2 g2) : V 1159 [(4, .int (nI i)), (1, .ref a), (2, .ref (a + 31)), (3, .ref (a + 39)), (0, .ref b)] [] H n k g := by
  obtain ⟨h, β, τ, u, v, rf, φ, c, π, sn, ρ, κ, ψ, μ, L, y, rfl, hm, hy, hx, hr⟩ := hst
  refine hV.aload_n 1 dL_law_1159 rfl ?_
  refine hV.aload_n 4 dL_law_1160 rfl ?_
  refine hV.iload 0 dL_law_1161 rfl ?_
  refine hV.iconst (v := 1) dL_law_1163 (by decide) ?_
  refine hV.iaddN (a := i) (b := 1) dL_law_1164 ?_
  refine sld dL_law_1165 (zix_nI (by omega)) (show i + 1 < N by omega) ?_
  refine hV.aload_n 3 dL_law_1166 rfl ?_
  obtain ⟨kx, r, S1, hW, hrest⟩ := op_reel G hB hm hy hx hr (p0 := xs (i + 1)) (D := D) (base := base)
  refine hV.callSH3 (rest := []) dL_law_1167 hW my_L_reel ks_L_158 rfl rfl (Nat.le_of_ble_eq_true rfl) (Nat.le_of_ble_eq_true rfl) (Nat.le_of_ble_eq_true rfl) (show k + 11 ≤ 601024 by omega) (show g + 235 ≤ 7293034 by omega) (st2 := [.int kx]) rfl rfl rfl (fun H1 n1 hn hs => ?_)
  refine hV.istore (ls2 := [(5, .int kx), (4, .int (nI i)), (1, .ref a), (2, .ref (a + 31)), (3, .ref (a + 39)), (0, .ref b)]) dL_law_1170 (by decide) rfl ?_
  refine hV.aload_n 3 dL_law_1172 rfl ?_
  refine hV.aload_n 5 dL_law_1173 rfl ?_
  refine hV.iload 1 dL_law_1174 rfl ?_
  refine hV.iconst (v := 1) dL_law_1176 (by decide) ?_
  refine hV.iaddN (a := i) (b := 1) dL_law_1177 ?_
  refine sld dL_law_1178 (zix_nI (by omega)) (show i + 1 < N by omega) ?_
  obtain ⟨⟨fs, hfs⟩, dd, S2, hd, hM, hfin⟩ := hrest H1 n1 hn hs
  refine hV.callV3 (rest := []) dL_law_1179 hM my_X5_reel kv_L_160 hfs rfl rfl rfl (show dd + 1 ≤ 2048 by omega) (show 64 * (dd + 1) ≤ 84000 by omega) (Nat.le_of_ble_eq_true rfl) (show k + 11 + 0 ≤ 601024 by omega) (show g + 235 + 0 ≤ 7293034 by omega) (st2 := [.int r]) rfl rfl rfl (fun H2 n2 hn2 hs2 => ?_)
  refine hV.istore (ls2 := [(6, .int r), (5, .int kx), (4, .int (nI i)), (1, .ref a), (2, .ref (a + 31)), (3, .ref (a + 39)), (0, .ref b)]) dL_law_1182 (by decide) rfl ?_
  refine hV.aload_n 4 dL_law_1184 rfl ?_
  obtain ⟨⟨gg, ψ2, μ2, e2, e3⟩, ⟨y2, hy2, hk0⟩, hst2⟩ := hfin H2 n2 hn2 hs2
  subst e2
  refine hV.callV1 (rest := []) dL_law_1185 (c_X5_thrown G) my_X5_thrown kv_L_95 M_o rfl rfl rfl (Nat.le_of_ble_eq_true rfl) (Nat.le_of_ble_eq_true rfl) (Nat.le_of_ble_eq_true rfl) (show k + 11 + 0 + 0 ≤ 601024 by omega) (show g + 235 + 0 + 0 ≤ 7293034 by omega) (st2 := [.int (ψ2 0)]) rfl rfl rfl ?_
  refine hV.iload 1 dL_law_1188 rfl ?_
  refine hV.icmp_eq_t (tgt := 1195) dL_law_1190 (by decide) e3 ?_
  refine hV.iload 1 dL_law_1195 rfl ?_
  have fin : V 1212 [(6, .int r), (5, .int kx), (4, .int (nI i)), (1, .ref a), (2, .ref (a + 31)), (3, .ref (a + 39)), (0, .ref b)] [] (setM gg (a + 31) ψ2 μ2) n2 (k + 11 + 0 + 0) (g + 235 + 0 + 0) := by
    refine hV.goto (tgt := 1599) dL_law_1212 (by decide) ?_
    refine hV.pick [2, 3, 4, 5, 6] (ls2 := [(4, .int (nI i)), (1, .ref a), (2, .ref (a + 31)), (3, .ref (a + 39)), (0, .ref b)]) rfl ?_
    exact kk _ _ _ _ (Nat.le_trans hn hn2) hst2 (show k + 11 + 0 + 0 ≤ k + 11 by omega) (show g + 235 + 0 + 0 ≤ g + 235 by omega)
  by_cases hkx : kx = 0
  · refine hV.if_ne_f (tgt := 1212) dL_law_1197 (by decide) (by first | exact hkx | (exact fun w => w hkx)) ?_
    refine hV.aload_n 5 dL_law_1200 rfl ?_
    refine hV.iconst (v := 0) dL_law_1201 (by decide) ?_
    refine hV.lald (j := 0) dL_law_1202 hy2 ⟨by decide, by decide⟩ (by decide) ?_
    refine hV.iload 0 dL_law_1203 rfl ?_
    refine hV.i2l dL_law_1205 rfl ?_
    refine hV.lcmp dL_law_1206 ?_
    rw [hk0 hkx]
    exact hV.if_eq_t (tgt := 1212) dL_law_1207 (by decide) (lg_cmp_self _) fin
  · exact hV.if_ne_t (tgt := 1212) dL_law_1197 (by decide) hkx fin
theorem law_20 {l : Launch} {D : va_G} {base : Nat} {Sx : Nat → (Nat → Int32) → Prop} {V : zVT} {X : zXT} {yy : MethodName} (hV : zLaws l D base code RL yy room_1 9 Sx V X) (G : l.stackTraces = false) {b N : Nat} {xs : Nat → Int32} (sld : SLD V b N xs) {B a n i k g : Nat} {H : zH} (hi : i + 4 ≤ N) (hN : N ≤ 2048) (hB : B + 2000 < 2 ^ 27) (hk : k + 11 ≤ 600000) (hg : g + 235 ≤ 7000000) (hst : ST B a n H)
    (kk : ∀ H2 n2 k2 g2, n ≤ n2 → ST (B + 2000) a n2 H2 → k2 ≤ k + 11 → g2 ≤ g + 235 → V 1599 [(4, .int (nI i)), (1, .ref a), (2, .ref (a + 31)), (3, .ref (a + 39)), (0, .ref b)] [] H2 n2 k2 g2) : V 1215 [(4, .int (nI i)), (1, .ref a), (2, .ref (a + 31)), (3, .ref (a + 39)), (0, .ref b)] [] H n k g := by
  obtain ⟨h, β, τ, u, v, rf, φ, c, π, sn, ρ, κ, ψ, μ, L, y, rfl, hm, hy, hx, hr⟩ := hst
  refine hV.aload_n 1 dL_law_1215 rfl ?_
  refine hV.aload_n 4 dL_law_1216 rfl ?_
  refine hV.iload 0 dL_law_1217 rfl ?_
  refine hV.iconst (v := 1) dL_law_1219 (by decide) ?_
  refine hV.iaddN (a := i) (b := 1) dL_law_1220 ?_
  refine sld dL_law_1221 (zix_nI (by omega)) (show i + 1 < N by omega) ?_
  refine hV.aload_n 3 dL_law_1222 rfl ?_
  obtain ⟨kx, r, S1, hW, hrest⟩ := op_count G hB hm hy hx hr (p0 := xs (i + 1)) (D := D) (base := base)
  refine hV.callSH3 (rest := []) dL_law_1223 hW my_L_count ks_L_161 rfl rfl (Nat.le_of_ble_eq_true rfl) (Nat.le_of_ble_eq_true rfl) (Nat.le_of_ble_eq_true rfl) (show k + 11 ≤ 601024 by omega) (show g + 235 ≤ 7293034 by omega) (st2 := [.int kx]) rfl rfl rfl (fun H1 n1 hn hs => ?_)
  refine hV.istore (ls2 := [(5, .int kx), (4, .int (nI i)), (1, .ref a), (2, .ref (a + 31)), (3, .ref (a + 39)), (0, .ref b)]) dL_law_1226 (by decide) rfl ?_
  refine hV.aload_n 3 dL_law_1228 rfl ?_
  refine hV.aload_n 5 dL_law_1229 rfl ?_
  refine hV.iload 1 dL_law_1230 rfl ?_
  refine hV.iconst (v := 1) dL_law_1232 (by decide) ?_
  refine hV.iaddN (a := i) (b := 1) dL_law_1233 ?_
  refine sld dL_law_1234 (zix_nI (by omega)) (show i + 1 < N by omega) ?_
  obtain ⟨⟨fs, hfs⟩, dd, S2, hd, hM, hfin⟩ := hrest H1 n1 hn hs
  refine hV.callV3 (rest := []) dL_law_1235 hM my_X5_count kv_L_163 hfs rfl rfl rfl (show dd + 1 ≤ 2048 by omega) (show 64 * (dd + 1) ≤ 84000 by omega) (Nat.le_of_ble_eq_true rfl) (show k + 11 + 0 ≤ 601024 by omega) (show g + 235 + 0 ≤ 7293034 by omega) (st2 := [.int r]) rfl rfl rfl (fun H2 n2 hn2 hs2 => ?_)
  refine hV.istore (ls2 := [(6, .int r), (5, .int kx), (4, .int (nI i)), (1, .ref a), (2, .ref (a + 31)), (3, .ref (a + 39)), (0, .ref b)]) dL_law_1238 (by decide) rfl ?_
  refine hV.aload_n 4 dL_law_1240 rfl ?_
  obtain ⟨⟨gg, ψ2, μ2, e2, e3⟩, ⟨y2, hy2, hk0⟩, hst2⟩ := hfin H2 n2 hn2 hs2
  subst e2
  refine hV.callV1 (rest := []) dL_law_1241 (c_X5_thrown G) my_X5_thrown kv_L_95 M_o rfl rfl rfl (Nat.le_of_ble_eq_true rfl) (Nat.le_of_ble_eq_true rfl) (Nat.le_of_ble_eq_true rfl) (show k + 11 + 0 + 0 ≤ 601024 by omega) (show g + 235 + 0 + 0 ≤ 7293034 by omega) (st2 := [.int (ψ2 0)]) rfl rfl rfl ?_
  refine hV.iload 1 dL_law_1244 rfl ?_
  refine hV.icmp_eq_t (tgt := 1251) dL_law_1246 (by decide) e3 ?_
  refine hV.iload 1 dL_law_1251 rfl ?_
  have fin : V 1268 [(6, .int r), (5, .int kx), (4, .int (nI i)), (1, .ref a), (2, .ref (a + 31)), (3, .ref (a + 39)), (0, .ref b)] [] (setM gg (a + 31) ψ2 μ2) n2 (k + 11 + 0 + 0) (g + 235 + 0 + 0) := by
    refine hV.goto (tgt := 1599) dL_law_1268 (by decide) ?_
    refine hV.pick [2, 3, 4, 5, 6] (ls2 := [(4, .int (nI i)), (1, .ref a), (2, .ref (a + 31)), (3, .ref (a + 39)), (0, .ref b)]) rfl ?_
    exact kk _ _ _ _ (Nat.le_trans hn hn2) hst2 (show k + 11 + 0 + 0 ≤ k + 11 by omega) (show g + 235 + 0 + 0 ≤ g + 235 by omega)
  by_cases hkx : kx = 0
  · refine hV.if_ne_f (tgt := 1268) dL_law_1253 (by decide) (by first | exact hkx | (exact fun w => w hkx)) ?_
    refine hV.aload_n 5 dL_law_1256 rfl ?_
    refine hV.iconst (v := 0) dL_law_1257 (by decide) ?_
    refine hV.lald (j := 0) dL_law_1258 hy2 ⟨by decide, by decide⟩ (by decide) ?_
    refine hV.iload 0 dL_law_1259 rfl ?_
    refine hV.i2l dL_law_1261 rfl ?_
    refine hV.lcmp dL_law_1262 ?_
    rw [hk0 hkx]
    exact hV.if_eq_t (tgt := 1268) dL_law_1263 (by decide) (lg_cmp_self _) fin
  · exact hV.if_ne_t (tgt := 1268) dL_law_1253 (by decide) hkx fin
theorem law_21 {l : Launch} {D : va_G} {base : Nat} {Sx : Nat → (Nat → Int32) → Prop} {V : zVT} {X : zXT} {yy : MethodName} (hV : zLaws l D base code RL yy room_1 9 Sx V X) (G : l.stackTraces = false) {b N : Nat} {xs : Nat → Int32} (sld : SLD V b N xs) {B a n i k g : Nat} {H : zH} (hi : i + 4 ≤ N) (hN : N ≤ 2048) (hB : B + 2000 < 2 ^ 27) (hk : k + 11 ≤ 600000) (hg : g + 235 ≤ 7000000) (hst : ST B a n H)
    (kk : ∀ H2 n2 k2 g2, n ≤ n2 → ST (B + 2000) a n2 H2 → k2 ≤ k + 11 → g2 ≤ g + 235 → V 1599 [(4, .int (nI i)), (1, .ref a), (2, .ref (a + 31)), (3, .ref (a + 39)), (0, .ref b)] [] H2 n2 k2 g2) : V 1271 [(4, .int (nI i)), (1, .ref a), (2, .ref (a + 31)), (3, .ref (a + 39)), (0, .ref b)] [] H n k g := by
  obtain ⟨h, β, τ, u, v, rf, φ, c, π, sn, ρ, κ, ψ, μ, L, y, rfl, hm, hy, hx, hr⟩ := hst
  refine hV.aload_n 1 dL_law_1271 rfl ?_
  refine hV.aload_n 4 dL_law_1272 rfl ?_
  refine hV.iload 0 dL_law_1273 rfl ?_
  refine hV.iconst (v := 1) dL_law_1275 (by decide) ?_
  refine hV.iaddN (a := i) (b := 1) dL_law_1276 ?_
  refine sld dL_law_1277 (zix_nI (by omega)) (show i + 1 < N by omega) ?_
  refine hV.aload_n 4 dL_law_1278 rfl ?_
  refine hV.iload 0 dL_law_1279 rfl ?_
  refine hV.iconst (v := 2) dL_law_1281 (by decide) ?_
  refine hV.iaddN (a := i) (b := 2) dL_law_1282 ?_
  refine sld dL_law_1283 (zix_nI (by omega)) (show i + 2 < N by omega) ?_
  refine hV.aload_n 3 dL_law_1284 rfl ?_
  obtain ⟨kx, r, S1, hW, hrest⟩ := op_ways G hB hm hy hx hr (p0 := xs (i + 1)) (p1 := xs (i + 2)) (D := D) (base := base)
  refine hV.callSH3 (rest := []) dL_law_1285 hW my_L_ways ks_L_164 rfl rfl (Nat.le_of_ble_eq_true rfl) (Nat.le_of_ble_eq_true rfl) (Nat.le_of_ble_eq_true rfl) (show k + 11 ≤ 601024 by omega) (show g + 235 ≤ 7293034 by omega) (st2 := [.int kx]) rfl rfl rfl (fun H1 n1 hn hs => ?_)
  refine hV.istore (ls2 := [(5, .int kx), (4, .int (nI i)), (1, .ref a), (2, .ref (a + 31)), (3, .ref (a + 39)), (0, .ref b)]) dL_law_1288 (by decide) rfl ?_
  refine hV.aload_n 3 dL_law_1290 rfl ?_
  refine hV.aload_n 5 dL_law_1291 rfl ?_
  refine hV.iload 1 dL_law_1292 rfl ?_
  refine hV.iconst (v := 1) dL_law_1294 (by decide) ?_
  refine hV.iaddN (a := i) (b := 1) dL_law_1295 ?_
  refine sld dL_law_1296 (zix_nI (by omega)) (show i + 1 < N by omega) ?_
  refine hV.aload_n 5 dL_law_1297 rfl ?_
  refine hV.iload 1 dL_law_1298 rfl ?_
  refine hV.iconst (v := 2) dL_law_1300 (by decide) ?_
  refine hV.iaddN (a := i) (b := 2) dL_law_1301 ?_
  refine sld dL_law_1302 (zix_nI (by omega)) (show i + 2 < N by omega) ?_
  obtain ⟨⟨fs, hfs⟩, dd, S2, hd, hM, hfin⟩ := hrest H1 n1 hn hs
  refine hV.callV3 (rest := []) dL_law_1303 hM my_X5_ways kv_L_166 hfs rfl rfl rfl (show dd + 1 ≤ 2048 by omega) (show 64 * (dd + 1) ≤ 84000 by omega) (Nat.le_of_ble_eq_true rfl) (show k + 11 + 0 ≤ 601024 by omega) (show g + 235 + 0 ≤ 7293034 by omega) (st2 := [.int r]) rfl rfl rfl (fun H2 n2 hn2 hs2 => ?_)
  refine hV.istore (ls2 := [(6, .int r), (5, .int kx), (4, .int (nI i)), (1, .ref a), (2, .ref (a + 31)), (3, .ref (a + 39)), (0, .ref b)]) dL_law_1306 (by decide) rfl ?_
  refine hV.aload_n 4 dL_law_1308 rfl ?_
  obtain ⟨⟨gg, ψ2, μ2, e2, e3⟩, ⟨y2, hy2, hk0⟩, hst2⟩ := hfin H2 n2 hn2 hs2
  subst e2
  refine hV.callV1 (rest := []) dL_law_1309 (c_X5_thrown G) my_X5_thrown kv_L_95 M_o rfl rfl rfl (Nat.le_of_ble_eq_true rfl) (Nat.le_of_ble_eq_true rfl) (Nat.le_of_ble_eq_true rfl) (show k + 11 + 0 + 0 ≤ 601024 by omega) (show g + 235 + 0 + 0 ≤ 7293034 by omega) (st2 := [.int (ψ2 0)]) rfl rfl rfl ?_
  refine hV.iload 1 dL_law_1312 rfl ?_
  refine hV.icmp_eq_t (tgt := 1319) dL_law_1314 (by decide) e3 ?_
  refine hV.iload 1 dL_law_1319 rfl ?_
  have fin : V 1336 [(6, .int r), (5, .int kx), (4, .int (nI i)), (1, .ref a), (2, .ref (a + 31)), (3, .ref (a + 39)), (0, .ref b)] [] (setM gg (a + 31) ψ2 μ2) n2 (k + 11 + 0 + 0) (g + 235 + 0 + 0) := by
    refine hV.goto (tgt := 1599) dL_law_1336 (by decide) ?_
    refine hV.pick [2, 3, 4, 5, 6] (ls2 := [(4, .int (nI i)), (1, .ref a), (2, .ref (a + 31)), (3, .ref (a + 39)), (0, .ref b)]) rfl ?_
    exact kk _ _ _ _ (Nat.le_trans hn hn2) hst2 (show k + 11 + 0 + 0 ≤ k + 11 by omega) (show g + 235 + 0 + 0 ≤ g + 235 by omega)
  by_cases hkx : kx = 0
  · refine hV.if_ne_f (tgt := 1336) dL_law_1321 (by decide) (by first | exact hkx | (exact fun w => w hkx)) ?_
    refine hV.aload_n 5 dL_law_1324 rfl ?_
    refine hV.iconst (v := 0) dL_law_1325 (by decide) ?_
    refine hV.lald (j := 0) dL_law_1326 hy2 ⟨by decide, by decide⟩ (by decide) ?_
    refine hV.iload 0 dL_law_1327 rfl ?_
    refine hV.i2l dL_law_1329 rfl ?_
    refine hV.lcmp dL_law_1330 ?_
    rw [hk0 hkx]
    exact hV.if_eq_t (tgt := 1336) dL_law_1331 (by decide) (lg_cmp_self _) fin
  · exact hV.if_ne_t (tgt := 1336) dL_law_1321 (by decide) hkx fin
theorem law_22 {l : Launch} {D : va_G} {base : Nat} {Sx : Nat → (Nat → Int32) → Prop} {V : zVT} {X : zXT} {yy : MethodName} (hV : zLaws l D base code RL yy room_1 9 Sx V X) (G : l.stackTraces = false) {b N : Nat} {xs : Nat → Int32} (sld : SLD V b N xs) {B a n i k g : Nat} {H : zH} (hi : i + 4 ≤ N) (hN : N ≤ 2048) (hB : B + 2000 < 2 ^ 27) (hk : k + 11 ≤ 600000) (hg : g + 235 ≤ 7000000) (hst : ST B a n H)
    (kk : ∀ H2 n2 k2 g2, n ≤ n2 → ST (B + 2000) a n2 H2 → k2 ≤ k + 11 → g2 ≤ g + 235 → V 1599 [(4, .int (nI i)), (1, .ref a), (2, .ref (a + 31)), (3, .ref (a + 39)), (0, .ref b)] [] H2 n2 k2 g2) : V 1339 [(4, .int (nI i)), (1, .ref a), (2, .ref (a + 31)), (3, .ref (a + 39)), (0, .ref b)] [] H n k g := by
  obtain ⟨h, β, τ, u, v, rf, φ, c, π, sn, ρ, κ, ψ, μ, L, y, rfl, hm, hy, hx, hr⟩ := hst
  refine hV.aload_n 1 dL_law_1339 rfl ?_
  refine hV.aload_n 4 dL_law_1340 rfl ?_
  refine hV.iload 0 dL_law_1341 rfl ?_
  refine hV.iconst (v := 1) dL_law_1343 (by decide) ?_
  refine hV.iaddN (a := i) (b := 1) dL_law_1344 ?_
  refine sld dL_law_1345 (zix_nI (by omega)) (show i + 1 < N by omega) ?_
  refine hV.aload_n 4 dL_law_1346 rfl ?_
  refine hV.iload 0 dL_law_1347 rfl ?_
  refine hV.iconst (v := 2) dL_law_1349 (by decide) ?_
  refine hV.iaddN (a := i) (b := 2) dL_law_1350 ?_
  refine sld dL_law_1351 (zix_nI (by omega)) (show i + 2 < N by omega) ?_
  refine hV.aload_n 3 dL_law_1352 rfl ?_
  obtain ⟨kx, r, S1, hW, hrest⟩ := op_walked G hB hm hy hx hr (p0 := xs (i + 1)) (p1 := xs (i + 2)) (D := D) (base := base)
  refine hV.callSH3 (rest := []) dL_law_1353 hW my_L_walked ks_L_167 rfl rfl (Nat.le_of_ble_eq_true rfl) (Nat.le_of_ble_eq_true rfl) (Nat.le_of_ble_eq_true rfl) (show k + 11 ≤ 601024 by omega) (show g + 235 ≤ 7293034 by omega) (st2 := [.int kx]) rfl rfl rfl (fun H1 n1 hn hs => ?_)
  refine hV.istore (ls2 := [(5, .int kx), (4, .int (nI i)), (1, .ref a), (2, .ref (a + 31)), (3, .ref (a + 39)), (0, .ref b)]) dL_law_1356 (by decide) rfl ?_
  refine hV.aload_n 3 dL_law_1358 rfl ?_
  refine hV.aload_n 5 dL_law_1359 rfl ?_
  refine hV.iload 1 dL_law_1360 rfl ?_
  refine hV.iconst (v := 1) dL_law_1362 (by decide) ?_
  refine hV.iaddN (a := i) (b := 1) dL_law_1363 ?_
  refine sld dL_law_1364 (zix_nI (by omega)) (show i + 1 < N by omega) ?_
  refine hV.aload_n 5 dL_law_1365 rfl ?_
  refine hV.iload 1 dL_law_1366 rfl ?_
  refine hV.iconst (v := 2) dL_law_1368 (by decide) ?_
  refine hV.iaddN (a := i) (b := 2) dL_law_1369 ?_
  refine sld dL_law_1370 (zix_nI (by omega)) (show i + 2 < N by omega) ?_
  obtain ⟨⟨fs, hfs⟩, dd, S2, hd, hM, hfin⟩ := hrest H1 n1 hn hs
  refine hV.callV3 (rest := []) dL_law_1371 hM my_X5_walked kv_L_169 hfs rfl rfl rfl (show dd + 1 ≤ 2048 by omega) (show 64 * (dd + 1) ≤ 84000 by omega) (Nat.le_of_ble_eq_true rfl) (show k + 11 + 0 ≤ 601024 by omega) (show g + 235 + 0 ≤ 7293034 by omega) (st2 := [.int r]) rfl rfl rfl (fun H2 n2 hn2 hs2 => ?_)
  refine hV.istore (ls2 := [(6, .int r), (5, .int kx), (4, .int (nI i)), (1, .ref a), (2, .ref (a + 31)), (3, .ref (a + 39)), (0, .ref b)]) dL_law_1374 (by decide) rfl ?_
  refine hV.aload_n 4 dL_law_1376 rfl ?_
  obtain ⟨⟨gg, ψ2, μ2, e2, e3⟩, ⟨y2, hy2, hk0⟩, hst2⟩ := hfin H2 n2 hn2 hs2
  subst e2
  refine hV.callV1 (rest := []) dL_law_1377 (c_X5_thrown G) my_X5_thrown kv_L_95 M_o rfl rfl rfl (Nat.le_of_ble_eq_true rfl) (Nat.le_of_ble_eq_true rfl) (Nat.le_of_ble_eq_true rfl) (show k + 11 + 0 + 0 ≤ 601024 by omega) (show g + 235 + 0 + 0 ≤ 7293034 by omega) (st2 := [.int (ψ2 0)]) rfl rfl rfl ?_
  refine hV.iload 1 dL_law_1380 rfl ?_
  refine hV.icmp_eq_t (tgt := 1387) dL_law_1382 (by decide) e3 ?_
  refine hV.iload 1 dL_law_1387 rfl ?_
  have fin : V 1404 [(6, .int r), (5, .int kx), (4, .int (nI i)), (1, .ref a), (2, .ref (a + 31)), (3, .ref (a + 39)), (0, .ref b)] [] (setM gg (a + 31) ψ2 μ2) n2 (k + 11 + 0 + 0) (g + 235 + 0 + 0) := by
    refine hV.goto (tgt := 1599) dL_law_1404 (by decide) ?_
    refine hV.pick [2, 3, 4, 5, 6] (ls2 := [(4, .int (nI i)), (1, .ref a), (2, .ref (a + 31)), (3, .ref (a + 39)), (0, .ref b)]) rfl ?_
    exact kk _ _ _ _ (Nat.le_trans hn hn2) hst2 (show k + 11 + 0 + 0 ≤ k + 11 by omega) (show g + 235 + 0 + 0 ≤ g + 235 by omega)
  by_cases hkx : kx = 0
  · refine hV.if_ne_f (tgt := 1404) dL_law_1389 (by decide) (by first | exact hkx | (exact fun w => w hkx)) ?_
    refine hV.aload_n 5 dL_law_1392 rfl ?_
    refine hV.iconst (v := 0) dL_law_1393 (by decide) ?_
    refine hV.lald (j := 0) dL_law_1394 hy2 ⟨by decide, by decide⟩ (by decide) ?_
    refine hV.iload 0 dL_law_1395 rfl ?_
    refine hV.i2l dL_law_1397 rfl ?_
    refine hV.lcmp dL_law_1398 ?_
    rw [hk0 hkx]
    exact hV.if_eq_t (tgt := 1404) dL_law_1399 (by decide) (lg_cmp_self _) fin
  · exact hV.if_ne_t (tgt := 1404) dL_law_1389 (by decide) hkx fin
theorem law_23 {l : Launch} {D : va_G} {base : Nat} {Sx : Nat → (Nat → Int32) → Prop} {V : zVT} {X : zXT} {yy : MethodName} (hV : zLaws l D base code RL yy room_1 9 Sx V X) (G : l.stackTraces = false) {b N : Nat} {xs : Nat → Int32} (sld : SLD V b N xs) {B a n i k g : Nat} {H : zH} (hi : i + 4 ≤ N) (hN : N ≤ 2048) (hB : B + 2000 < 2 ^ 27) (hk : k + 11 ≤ 600000) (hg : g + 235 ≤ 7000000) (hst : ST B a n H)
    (kk : ∀ H2 n2 k2 g2, n ≤ n2 → ST (B + 2000) a n2 H2 → k2 ≤ k + 11 → g2 ≤ g + 235 → V 1599 [(4, .int (nI i)), (1, .ref a), (2, .ref (a + 31)), (3, .ref (a + 39)), (0, .ref b)] [] H2 n2 k2 g2) : V 1407 [(4, .int (nI i)), (1, .ref a), (2, .ref (a + 31)), (3, .ref (a + 39)), (0, .ref b)] [] H n k g := by
  obtain ⟨h, β, τ, u, v, rf, φ, c, π, sn, ρ, κ, ψ, μ, L, y, rfl, hm, hy, hx, hr⟩ := hst
  refine hV.aload_n 1 dL_law_1407 rfl ?_
  refine hV.aload_n 4 dL_law_1408 rfl ?_
  refine hV.iload 0 dL_law_1409 rfl ?_
  refine hV.iconst (v := 1) dL_law_1411 (by decide) ?_
  refine hV.iaddN (a := i) (b := 1) dL_law_1412 ?_
  refine sld dL_law_1413 (zix_nI (by omega)) (show i + 1 < N by omega) ?_
  refine hV.aload_n 4 dL_law_1414 rfl ?_
  refine hV.iload 0 dL_law_1415 rfl ?_
  refine hV.iconst (v := 2) dL_law_1417 (by decide) ?_
  refine hV.iaddN (a := i) (b := 2) dL_law_1418 ?_
  refine sld dL_law_1419 (zix_nI (by omega)) (show i + 2 < N by omega) ?_
  refine hV.aload_n 3 dL_law_1420 rfl ?_
  obtain ⟨kx, r, S1, hW, hrest⟩ := op_ifLaunched G hB hm hy hx hr (p0 := xs (i + 1)) (p1 := xs (i + 2)) (D := D) (base := base)
  refine hV.callSH3 (rest := []) dL_law_1421 hW my_L_ifLaunched ks_L_170 rfl rfl (Nat.le_of_ble_eq_true rfl) (Nat.le_of_ble_eq_true rfl) (Nat.le_of_ble_eq_true rfl) (show k + 11 ≤ 601024 by omega) (show g + 235 ≤ 7293034 by omega) (st2 := [.int kx]) rfl rfl rfl (fun H1 n1 hn hs => ?_)
  refine hV.istore (ls2 := [(5, .int kx), (4, .int (nI i)), (1, .ref a), (2, .ref (a + 31)), (3, .ref (a + 39)), (0, .ref b)]) dL_law_1424 (by decide) rfl ?_
  refine hV.aload_n 3 dL_law_1426 rfl ?_
  refine hV.aload_n 5 dL_law_1427 rfl ?_
  refine hV.iload 1 dL_law_1428 rfl ?_
  refine hV.iconst (v := 1) dL_law_1430 (by decide) ?_
  refine hV.iaddN (a := i) (b := 1) dL_law_1431 ?_
  refine sld dL_law_1432 (zix_nI (by omega)) (show i + 1 < N by omega) ?_
  refine hV.aload_n 5 dL_law_1433 rfl ?_
  refine hV.iload 1 dL_law_1434 rfl ?_
  refine hV.iconst (v := 2) dL_law_1436 (by decide) ?_
  refine hV.iaddN (a := i) (b := 2) dL_law_1437 ?_
  refine sld dL_law_1438 (zix_nI (by omega)) (show i + 2 < N by omega) ?_
  obtain ⟨⟨fs, hfs⟩, dd, S2, hd, hM, hfin⟩ := hrest H1 n1 hn hs
  refine hV.callV3 (rest := []) dL_law_1439 hM my_X5_ifLaunched kv_L_172 hfs rfl rfl rfl (show dd + 1 ≤ 2048 by omega) (show 64 * (dd + 1) ≤ 84000 by omega) (Nat.le_of_ble_eq_true rfl) (show k + 11 + 0 ≤ 601024 by omega) (show g + 235 + 0 ≤ 7293034 by omega) (st2 := [.int r]) rfl rfl rfl (fun H2 n2 hn2 hs2 => ?_)
  refine hV.istore (ls2 := [(6, .int r), (5, .int kx), (4, .int (nI i)), (1, .ref a), (2, .ref (a + 31)), (3, .ref (a + 39)), (0, .ref b)]) dL_law_1442 (by decide) rfl ?_
  refine hV.aload_n 4 dL_law_1444 rfl ?_
  obtain ⟨⟨gg, ψ2, μ2, e2, e3⟩, ⟨y2, hy2, hk0⟩, hst2⟩ := hfin H2 n2 hn2 hs2
  subst e2
  refine hV.callV1 (rest := []) dL_law_1445 (c_X5_thrown G) my_X5_thrown kv_L_95 M_o rfl rfl rfl (Nat.le_of_ble_eq_true rfl) (Nat.le_of_ble_eq_true rfl) (Nat.le_of_ble_eq_true rfl) (show k + 11 + 0 + 0 ≤ 601024 by omega) (show g + 235 + 0 + 0 ≤ 7293034 by omega) (st2 := [.int (ψ2 0)]) rfl rfl rfl ?_
  refine hV.iload 1 dL_law_1448 rfl ?_
  refine hV.icmp_eq_t (tgt := 1455) dL_law_1450 (by decide) e3 ?_
  refine hV.iload 1 dL_law_1455 rfl ?_
  have fin : V 1472 [(6, .int r), (5, .int kx), (4, .int (nI i)), (1, .ref a), (2, .ref (a + 31)), (3, .ref (a + 39)), (0, .ref b)] [] (setM gg (a + 31) ψ2 μ2) n2 (k + 11 + 0 + 0) (g + 235 + 0 + 0) := by
    refine hV.goto (tgt := 1599) dL_law_1472 (by decide) ?_
    refine hV.pick [2, 3, 4, 5, 6] (ls2 := [(4, .int (nI i)), (1, .ref a), (2, .ref (a + 31)), (3, .ref (a + 39)), (0, .ref b)]) rfl ?_
    exact kk _ _ _ _ (Nat.le_trans hn hn2) hst2 (show k + 11 + 0 + 0 ≤ k + 11 by omega) (show g + 235 + 0 + 0 ≤ g + 235 by omega)
  by_cases hkx : kx = 0
  · refine hV.if_ne_f (tgt := 1472) dL_law_1457 (by decide) (by first | exact hkx | (exact fun w => w hkx)) ?_
    refine hV.aload_n 5 dL_law_1460 rfl ?_
    refine hV.iconst (v := 0) dL_law_1461 (by decide) ?_
    refine hV.lald (j := 0) dL_law_1462 hy2 ⟨by decide, by decide⟩ (by decide) ?_
    refine hV.iload 0 dL_law_1463 rfl ?_
    refine hV.i2l dL_law_1465 rfl ?_
    refine hV.lcmp dL_law_1466 ?_
    rw [hk0 hkx]
    exact hV.if_eq_t (tgt := 1472) dL_law_1467 (by decide) (lg_cmp_self _) fin
  · exact hV.if_ne_t (tgt := 1472) dL_law_1457 (by decide) hkx fin
theorem law_24 {l : Launch} {D : va_G} {base : Nat} {Sx : Nat → (Nat → Int32) → Prop} {V : zVT} {X : zXT} {yy : MethodName} (hV : zLaws l D base code RL yy room_1 9 Sx V X) (G : l.stackTraces = false) {b N : Nat} {xs : Nat → Int32} (sld : SLD V b N xs) {B a n i k g : Nat} {H : zH} (hi : i + 4 ≤ N) (hN : N ≤ 2048) (hB : B + 2000 < 2 ^ 27) (hk : k + 11 ≤ 600000) (hg : g + 235 ≤ 7000000) (hst : ST B a n H)
    (kk : ∀ H2 n2 k2 g2, n ≤ n2 → ST (B + 2000) a n2 H2 → k2 ≤ k + 11 → g2 ≤ g + 235 → V 1599 [(4, .int (nI i)), (1, .ref a), (2, .ref (a + 31)), (3, .ref (a + 39)), (0, .ref b)] [] H2 n2 k2 g2) : V 1475 [(4, .int (nI i)), (1, .ref a), (2, .ref (a + 31)), (3, .ref (a + 39)), (0, .ref b)] [] H n k g := by
  obtain ⟨h, β, τ, u, v, rf, φ, c, π, sn, ρ, κ, ψ, μ, L, y, rfl, hm, hy, hx, hr⟩ := hst
  refine hV.aload_n 1 dL_law_1475 rfl ?_
  obtain ⟨r, dd, mc, ms, S1, c1, c2, c3, hW, hrest⟩ := op_bestColumn G hB hm hy hx hr (D := D) (base := base)
  refine hV.callV3 (rest := []) dL_law_1476 hW my_X4_bestColumn kv_L_173 To_o rfl rfl rfl (show dd + 1 ≤ 2048 by omega) (show 64 * (dd + 1) ≤ 84000 by omega) (Nat.le_of_ble_eq_true rfl) (show k + mc ≤ 601024 by omega) (show g + ms ≤ 7293034 by omega) (st2 := [.int r]) rfl rfl rfl (fun H1 n1 hn hs => ?_)
  refine hV.aload_n 2 dL_law_1479 rfl ?_
  obtain ⟨⟨fs, hfs⟩, dd2, S2, hd, hM, hfin⟩ := hrest H1 n1 hn hs
  refine hV.callV3 (rest := [.int r]) dL_law_1480 hM my_X5_bestColumn kv_L_176 hfs rfl rfl rfl (show dd2 + 1 ≤ 2048 by omega) (show 64 * (dd2 + 1) ≤ 84000 by omega) (Nat.le_of_ble_eq_true rfl) (show k + mc + 0 ≤ 601024 by omega) (show g + ms + 0 ≤ 7293034 by omega) (st2 := [.int r, .int r]) rfl rfl rfl (fun H2 n2 hn2 hs2 => ?_)
  have hst2 := hfin H2 n2 hn2 hs2
  refine hV.icmp_eq_t (tgt := 1599) dL_law_1483 (by decide) rfl ?_
  exact kk _ _ _ _ (Nat.le_trans hn hn2) hst2 (show k + mc + 0 ≤ k + 11 by omega) (show g + ms + 0 ≤ g + 235 by omega)
theorem law_25 {l : Launch} {D : va_G} {base : Nat} {Sx : Nat → (Nat → Int32) → Prop} {V : zVT} {X : zXT} {yy : MethodName} (hV : zLaws l D base code RL yy room_1 9 Sx V X) (G : l.stackTraces = false) {b N : Nat} {xs : Nat → Int32} (sld : SLD V b N xs) {B a n i k g : Nat} {H : zH} (hi : i + 4 ≤ N) (hN : N ≤ 2048) (hB : B + 2000 < 2 ^ 27) (hk : k + 11 ≤ 600000) (hg : g + 235 ≤ 7000000) (hst : ST B a n H)
    (kk : ∀ H2 n2 k2 g2, n ≤ n2 → ST (B + 2000) a n2 H2 → k2 ≤ k + 11 → g2 ≤ g + 235 → V 1599 [(4, .int (nI i)), (1, .ref a), (2, .ref (a + 31)), (3, .ref (a + 39)), (0, .ref b)] [] H2 n2 k2 g2) : V 1488 [(4, .int (nI i)), (1, .ref a), (2, .ref (a + 31)), (3, .ref (a + 39)), (0, .ref b)] [] H n k g := by
  obtain ⟨h, β, τ, u, v, rf, φ, c, π, sn, ρ, κ, ψ, μ, L, y, rfl, hm, hy, hx, hr⟩ := hst
  refine hV.aload_n 1 dL_law_1488 rfl ?_
  refine hV.aload_n 4 dL_law_1489 rfl ?_
  refine hV.iload 0 dL_law_1490 rfl ?_
  refine hV.iconst (v := 1) dL_law_1492 (by decide) ?_
  refine hV.iaddN (a := i) (b := 1) dL_law_1493 ?_
  refine sld dL_law_1494 (zix_nI (by omega)) (show i + 1 < N by omega) ?_
  refine hV.aload_n 3 dL_law_1495 rfl ?_
  obtain ⟨kx, r, S1, hW, hrest⟩ := op_untilOpen G hB hm hy hx hr (p0 := xs (i + 1)) (D := D) (base := base)
  refine hV.callSH3 (rest := []) dL_law_1496 hW my_L_untilOpen ks_L_177 rfl rfl (Nat.le_of_ble_eq_true rfl) (Nat.le_of_ble_eq_true rfl) (Nat.le_of_ble_eq_true rfl) (show k + 11 ≤ 601024 by omega) (show g + 235 ≤ 7293034 by omega) (st2 := [.int kx]) rfl rfl rfl (fun H1 n1 hn hs => ?_)
  refine hV.istore (ls2 := [(5, .int kx), (4, .int (nI i)), (1, .ref a), (2, .ref (a + 31)), (3, .ref (a + 39)), (0, .ref b)]) dL_law_1499 (by decide) rfl ?_
  refine hV.aload_n 3 dL_law_1501 rfl ?_
  refine hV.aload_n 5 dL_law_1502 rfl ?_
  refine hV.iload 1 dL_law_1503 rfl ?_
  refine hV.iconst (v := 1) dL_law_1505 (by decide) ?_
  refine hV.iaddN (a := i) (b := 1) dL_law_1506 ?_
  refine sld dL_law_1507 (zix_nI (by omega)) (show i + 1 < N by omega) ?_
  obtain ⟨⟨fs, hfs⟩, dd, S2, hd, hM, hfin⟩ := hrest H1 n1 hn hs
  refine hV.callV3 (rest := []) dL_law_1508 hM my_X5_untilOpen kv_L_179 hfs rfl rfl rfl (show dd + 1 ≤ 2048 by omega) (show 64 * (dd + 1) ≤ 84000 by omega) (Nat.le_of_ble_eq_true rfl) (show k + 11 + 0 ≤ 601024 by omega) (show g + 235 + 0 ≤ 7293034 by omega) (st2 := [.int r]) rfl rfl rfl (fun H2 n2 hn2 hs2 => ?_)
  refine hV.istore (ls2 := [(6, .int r), (5, .int kx), (4, .int (nI i)), (1, .ref a), (2, .ref (a + 31)), (3, .ref (a + 39)), (0, .ref b)]) dL_law_1511 (by decide) rfl ?_
  refine hV.aload_n 4 dL_law_1513 rfl ?_
  obtain ⟨⟨gg, ψ2, μ2, e2, e3⟩, ⟨y2, hy2, hk0⟩, hst2⟩ := hfin H2 n2 hn2 hs2
  subst e2
  refine hV.callV1 (rest := []) dL_law_1514 (c_X5_thrown G) my_X5_thrown kv_L_95 M_o rfl rfl rfl (Nat.le_of_ble_eq_true rfl) (Nat.le_of_ble_eq_true rfl) (Nat.le_of_ble_eq_true rfl) (show k + 11 + 0 + 0 ≤ 601024 by omega) (show g + 235 + 0 + 0 ≤ 7293034 by omega) (st2 := [.int (ψ2 0)]) rfl rfl rfl ?_
  refine hV.iload 1 dL_law_1517 rfl ?_
  refine hV.icmp_eq_t (tgt := 1524) dL_law_1519 (by decide) e3 ?_
  refine hV.iload 1 dL_law_1524 rfl ?_
  have fin : V 1541 [(6, .int r), (5, .int kx), (4, .int (nI i)), (1, .ref a), (2, .ref (a + 31)), (3, .ref (a + 39)), (0, .ref b)] [] (setM gg (a + 31) ψ2 μ2) n2 (k + 11 + 0 + 0) (g + 235 + 0 + 0) := by
    refine hV.goto (tgt := 1599) dL_law_1541 (by decide) ?_
    refine hV.pick [2, 3, 4, 5, 6] (ls2 := [(4, .int (nI i)), (1, .ref a), (2, .ref (a + 31)), (3, .ref (a + 39)), (0, .ref b)]) rfl ?_
    exact kk _ _ _ _ (Nat.le_trans hn hn2) hst2 (show k + 11 + 0 + 0 ≤ k + 11 by omega) (show g + 235 + 0 + 0 ≤ g + 235 by omega)
  by_cases hkx : kx = 0
  · refine hV.if_ne_f (tgt := 1541) dL_law_1526 (by decide) (by first | exact hkx | (exact fun w => w hkx)) ?_
    refine hV.aload_n 5 dL_law_1529 rfl ?_
    refine hV.iconst (v := 0) dL_law_1530 (by decide) ?_
    refine hV.lald (j := 0) dL_law_1531 hy2 ⟨by decide, by decide⟩ (by decide) ?_
    refine hV.iload 0 dL_law_1532 rfl ?_
    refine hV.i2l dL_law_1534 rfl ?_
    refine hV.lcmp dL_law_1535 ?_
    rw [hk0 hkx]
    exact hV.if_eq_t (tgt := 1541) dL_law_1536 (by decide) (lg_cmp_self _) fin
  · exact hV.if_ne_t (tgt := 1541) dL_law_1526 (by decide) hkx fin
theorem law_26 {l : Launch} {D : va_G} {base : Nat} {Sx : Nat → (Nat → Int32) → Prop} {V : zVT} {X : zXT} {yy : MethodName} (hV : zLaws l D base code RL yy room_1 9 Sx V X) (G : l.stackTraces = false) {b N : Nat} {xs : Nat → Int32} (sld : SLD V b N xs) {B a n i k g : Nat} {H : zH} (hi : i + 4 ≤ N) (hN : N ≤ 2048) (hB : B + 2000 < 2 ^ 27) (hk : k + 11 ≤ 600000) (hg : g + 235 ≤ 7000000) (hst : ST B a n H)
    (kk : ∀ H2 n2 k2 g2, n ≤ n2 → ST (B + 2000) a n2 H2 → k2 ≤ k + 11 → g2 ≤ g + 235 → V 1599 [(4, .int (nI i)), (1, .ref a), (2, .ref (a + 31)), (3, .ref (a + 39)), (0, .ref b)] [] H2 n2 k2 g2) : V 1544 [(4, .int (nI i)), (1, .ref a), (2, .ref (a + 31)), (3, .ref (a + 39)), (0, .ref b)] [] H n k g := by
  obtain ⟨h, β, τ, u, v, rf, φ, c, π, sn, ρ, κ, ψ, μ, L, y, rfl, hm, hy, hx, hr⟩ := hst
  refine hV.aload_n 1 dL_law_1544 rfl ?_
  obtain ⟨r, ⟨dd, mc, ms, S1, c1, c2, c3, hW, hrest⟩, hcmp⟩ := op_payback G hB hm hy hx hr (D := D) (base := base)
  refine hV.callV3 (rest := []) dL_law_1545 hW my_X4_payback kv_L_180 To_o rfl rfl rfl (show dd + 1 ≤ 2048 by omega) (show 64 * (dd + 1) ≤ 84000 by omega) (Nat.le_of_ble_eq_true rfl) (show k + mc ≤ 601024 by omega) (show g + ms ≤ 7293034 by omega) (st2 := [.double r]) rfl rfl rfl (fun H1 n1 hn hs => ?_)
  refine hV.dstore (ls2 := [(5, .double r), (4, .int (nI i)), (1, .ref a), (2, .ref (a + 31)), (3, .ref (a + 39)), (0, .ref b)]) dL_law_1548 (by decide) rfl ?_
  refine hV.aload_n 3 dL_law_1550 rfl ?_
  obtain ⟨⟨fs, hfs⟩, dd2, S2, hd, hM, hfin⟩ := hrest H1 n1 hn hs
  refine hV.callV3 (rest := []) dL_law_1551 hM my_X5_payback kv_L_184 hfs rfl rfl rfl (show dd2 + 1 ≤ 2048 by omega) (show 64 * (dd2 + 1) ≤ 84000 by omega) (Nat.le_of_ble_eq_true rfl) (show k + mc + 0 ≤ 601024 by omega) (show g + ms + 0 ≤ 7293034 by omega) (st2 := [.double r]) rfl rfl rfl (fun H2 n2 hn2 hs2 => ?_)
  have hst2 := hfin H2 n2 hn2 hs2
  refine hV.dstore (ls2 := [(7, .double r), (5, .double r), (4, .int (nI i)), (1, .ref a), (2, .ref (a + 31)), (3, .ref (a + 39)), (0, .ref b)]) dL_law_1554 (by decide) rfl ?_
  refine hV.dload 1 dL_law_1556 rfl ?_
  refine hV.dload 0 dL_law_1558 rfl ?_
  refine hV.dcmp dL_law_1560 ?_
  refine hV.if_eq_t (tgt := 1582) dL_law_1561 (by decide) (by rw [hcmp]; rfl) ?_
  refine hV.goto (tgt := 1599) dL_law_1582 (by decide) ?_
  refine hV.pick [2, 3, 4, 5, 6] (ls2 := [(4, .int (nI i)), (1, .ref a), (2, .ref (a + 31)), (3, .ref (a + 39)), (0, .ref b)]) rfl ?_
  exact kk _ _ _ _ (Nat.le_trans hn hn2) hst2 (show k + mc + 0 ≤ k + 11 by omega) (show g + ms + 0 ≤ g + 235 by omega)
theorem law_27 {l : Launch} {D : va_G} {base : Nat} {Sx : Nat → (Nat → Int32) → Prop} {V : zVT} {X : zXT} {yy : MethodName} (hV : zLaws l D base code RL yy room_1 9 Sx V X) (G : l.stackTraces = false) {b N : Nat} {xs : Nat → Int32} (sld : SLD V b N xs) {B a n i k g : Nat} {H : zH} (hi : i + 4 ≤ N) (hN : N ≤ 2048) (hB : B + 2000 < 2 ^ 27) (hk : k + 11 ≤ 600000) (hg : g + 235 ≤ 7000000) (hst : ST B a n H)
    (kk : ∀ H2 n2 k2 g2, n ≤ n2 → ST (B + 2000) a n2 H2 → k2 ≤ k + 11 → g2 ≤ g + 235 → V 1599 [(4, .int (nI i)), (1, .ref a), (2, .ref (a + 31)), (3, .ref (a + 39)), (0, .ref b)] [] H2 n2 k2 g2) : V 1585 [(4, .int (nI i)), (1, .ref a), (2, .ref (a + 31)), (3, .ref (a + 39)), (0, .ref b)] [] H n k g := by
  obtain ⟨h, β, τ, u, v, rf, φ, c, π, sn, ρ, κ, ψ, μ, L, y, rfl, hm, hy, hx, hr⟩ := hst
  refine hV.aload_n 1 dL_law_1585 rfl ?_
  obtain ⟨r, dd, mc, ms, S1, c1, c2, c3, hW, hrest⟩ := op_digest G hB hm hy hx hr (D := D) (base := base)
  refine hV.callV3 (rest := []) dL_law_1586 hW my_X4_digest kv_L_185 To_o rfl rfl rfl (show dd + 1 ≤ 2048 by omega) (show 64 * (dd + 1) ≤ 84000 by omega) (Nat.le_of_ble_eq_true rfl) (show k + mc ≤ 601024 by omega) (show g + ms ≤ 7293034 by omega) (st2 := [.long r]) rfl rfl rfl (fun H1 n1 hn hs => ?_)
  refine hV.aload_n 2 dL_law_1589 rfl ?_
  obtain ⟨⟨fs, hfs⟩, dd2, S2, hd, hM, hfin⟩ := hrest H1 n1 hn hs
  refine hV.callV3 (rest := [.long r]) dL_law_1590 hM my_X5_digest kv_L_189 hfs rfl rfl rfl (show dd2 + 1 ≤ 2048 by omega) (show 64 * (dd2 + 1) ≤ 84000 by omega) (Nat.le_of_ble_eq_true rfl) (show k + mc + 0 ≤ 601024 by omega) (show g + ms + 0 ≤ 7293034 by omega) (st2 := [.long r, .long r]) rfl rfl rfl (fun H2 n2 hn2 hs2 => ?_)
  have hst2 := hfin H2 n2 hn2 hs2
  refine hV.lcmp dL_law_1593 ?_
  refine hV.if_eq_t (tgt := 1599) dL_law_1594 (by decide) (lg_cmp_self _) ?_
  exact kk _ _ _ _ (Nat.le_trans hn hn2) hst2 (show k + mc + 0 ≤ k + 11 by omega) (show g + ms + 0 ≤ g + 235 by omega)
