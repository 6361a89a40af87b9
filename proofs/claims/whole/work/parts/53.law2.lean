/-! The law: its loop, its beginning -/
def SLN (V : zVT) (b N : Nat) : Prop := ∀ {pc : Nat} {ls : List (Nat × Value)} {st : List Value} {h : zH} {n k g : Nat}, decode code pc = .ok (.arraylength, 1) → V (pc + 1) ls (.int (nI N) :: st) h n k g → V pc ls (.ref b :: st) h n k g
def LRT (V : zVT) : Prop := ∀ {ls : List (Nat × Value)} {h : zH} {n k g : Nat}, k ≤ 601024 → g ≤ 7293034 → V 1606 ls [.int 1] h n k g
theorem ST.mono {B C a n : Nat} {H : zH} (h : ST B a n H) (hBC : B ≤ C) : ST C a n H := by
  obtain ⟨h, β, τ, u, v, rf, φ, c, π, sn, ρ, κ, ψ, μ, L, y, e, hm, hy, hx, hr⟩ := h
  exact ⟨h, β, τ, u, v, rf, φ, c, π, sn, ρ, κ, ψ, μ, L, y, e, hm, hy, hx, hr.mono hBC⟩
theorem law_head {l : Launch} {D : va_G} {base : Nat} {Sx : Nat → (Nat → Int32) → Prop} {V : zVT} {X : zXT} {yy : MethodName} (hV : zLaws l D base code RL yy room_1 9 Sx V X) {b N a n i k g : Nat} {H : zH} (sln : SLN V b N) (hN : N ≤ 2048) (hi : i ≤ 3000) (k1 : ¬ i + 4 ≤ N → V 1605 [(4, .int (nI i)), (1, .ref a), (2, .ref (a + 31)), (3, .ref (a + 39)), (0, .ref b)] [] H n k g) (k2 : i + 4 ≤ N → V 32 [(4, .int (nI i)), (1, .ref a), (2, .ref (a + 31)), (3, .ref (a + 39)), (0, .ref b)] [] H n k g) : V 23 [(4, .int (nI i)), (1, .ref a), (2, .ref (a + 31)), (3, .ref (a + 39)), (0, .ref b)] [] H n k g := by
  refine hV.iload 0 dL_law_23 rfl ?_
  refine hV.aload_n 4 dL_law_25 rfl ?_
  refine sln dL_law_26 ?_
  refine hV.iconst (v := 4) dL_law_27 (by decide) ?_
  refine hV.isub dL_law_28 ?_
  by_cases c : i + 4 ≤ N
  · refine hV.icmp_gt_f (tgt := 1605) dL_law_29 (by decide) ?_ (k2 c)
    rw [show (4 : Int32) = nI 4 from rfl, zI_sub (by omega), nI_ltI (by omega) (by omega)]
    omega
  · refine hV.icmp_gt_t (tgt := 1605) dL_law_29 (by decide) ?_ (k1 c)
    rw [show (4 : Int32) = nI 4 from rfl]
    by_cases c4 : 4 ≤ N
    · rw [zI_sub c4, nI_ltI (by omega) (by omega)]
      omega
    · exact Int32.lt_of_lt_of_le (pk_sneg (by omega) (by omega)) (nI_pos' (by omega))
theorem law_sw {l : Launch} {D : va_G} {base : Nat} {Sx : Nat → (Nat → Int32) → Prop} {V : zVT} {X : zXT} {yy : MethodName} (hV : zLaws l D base code RL yy room_1 9 Sx V X) (G : l.stackTraces = false) {b N : Nat} {xs : Nat → Int32} (sld : SLD V b N xs) {B a n i k g j : Nat} {H : zH} (hi : i + 4 ≤ N) (hN : N ≤ 2048) (hB : B + 2000 < 2 ^ 27) (hk : k + 11 ≤ 600000) (hg : g + 235 ≤ 7000000) (hst : ST B a n H)
    (back : ∀ H2 n2 k2 g2, n ≤ n2 → ST (B + 2000) a n2 H2 → k2 ≤ k + 11 → g2 ≤ g + 235 → V 1599 [(4, .int (nI i)), (1, .ref a), (2, .ref (a + 31)), (3, .ref (a + 39)), (0, .ref b)] [] H2 n2 k2 g2) (hj : j < 32) : V 39 [(4, .int (nI i)), (1, .ref a), (2, .ref (a + 31)), (3, .ref (a + 39)), (0, .ref b)] [.int (nI j)] H n k g := by
  match j, hj with
  | 0, _ => exact hV.tblin (off := 125) (tgt := 164) dL_law_39 (by decide) (by decide) (by decide) (by decide) (law_0 hV G sld hi hN hB hk hg hst back)
  | 1, _ => exact hV.tblin (off := 205) (tgt := 244) dL_law_39 (by decide) (by decide) (by decide) (by decide) (law_1 hV G sld hi hN hB hk hg hst back)
  | 2, _ => exact hV.tblin (off := 285) (tgt := 324) dL_law_39 (by decide) (by decide) (by decide) (by decide) (law_2 hV G sld hi hN hB hk hg hst back)
  | 3, _ => exact hV.tblin (off := 341) (tgt := 380) dL_law_39 (by decide) (by decide) (by decide) (by decide) (law_3 hV G sld hi hN hB hk hg hst back)
  | 4, _ => exact hV.tblin (off := 409) (tgt := 448) dL_law_39 (by decide) (by decide) (by decide) (by decide) (law_4 hV G sld hi hN hB hk hg hst back)
  | 5, _ => exact hV.tblin (off := 465) (tgt := 504) dL_law_39 (by decide) (by decide) (by decide) (by decide) (law_5 hV G sld hi hN hB hk hg hst back)
  | 6, _ => exact hV.tblin (off := 521) (tgt := 560) dL_law_39 (by decide) (by decide) (by decide) (by decide) (law_6 hV G sld hi hN hB hk hg hst back)
  | 7, _ => exact hV.tblin (off := 577) (tgt := 616) dL_law_39 (by decide) (by decide) (by decide) (by decide) (law_7 hV G sld hi hN hB hk hg hst back)
  | 8, _ => exact hV.tblin (off := 645) (tgt := 684) dL_law_39 (by decide) (by decide) (by decide) (by decide) (law_8 hV G sld hi hN hB hk hg hst back)
  | 9, _ => exact hV.tblin (off := 701) (tgt := 740) dL_law_39 (by decide) (by decide) (by decide) (by decide) (law_9 hV G sld hi hN hB hk hg hst back)
  | 10, _ => exact hV.tblin (off := 714) (tgt := 753) dL_law_39 (by decide) (by decide) (by decide) (by decide) (law_10 hV G sld hi hN hB hk hg hst back)
  | 11, _ => exact hV.tblin (off := 727) (tgt := 766) dL_law_39 (by decide) (by decide) (by decide) (by decide) (law_11 hV G sld hi hN hB hk hg hst back)
  | 12, _ => exact hV.tblin (off := 771) (tgt := 810) dL_law_39 (by decide) (by decide) (by decide) (by decide) (law_12 hV G sld hi hN hB hk hg hst back)
  | 13, _ => exact hV.tblin (off := 815) (tgt := 854) dL_law_39 (by decide) (by decide) (by decide) (by decide) (law_13 hV G sld hi hN hB hk hg hst back)
  | 14, _ => exact hV.tblin (off := 828) (tgt := 867) dL_law_39 (by decide) (by decide) (by decide) (by decide) (law_14 hV G sld hi hN hB hk hg hst back)
  | 15, _ => exact hV.tblin (off := 872) (tgt := 911) dL_law_39 (by decide) (by decide) (by decide) (by decide) (law_15 hV G sld hi hN hB hk hg hst back)
  | 16, _ => exact hV.tblin (off := 940) (tgt := 979) dL_law_39 (by decide) (by decide) (by decide) (by decide) (law_16 hV G sld hi hN hB hk hg hst back)
  | 17, _ => exact hV.tblin (off := 996) (tgt := 1035) dL_law_39 (by decide) (by decide) (by decide) (by decide) (law_17 hV G sld hi hN hB hk hg hst back)
  | 18, _ => exact hV.tblin (off := 1052) (tgt := 1091) dL_law_39 (by decide) (by decide) (by decide) (by decide) (law_18 hV G sld hi hN hB hk hg hst back)
  | 19, _ => exact hV.tblin (off := 1120) (tgt := 1159) dL_law_39 (by decide) (by decide) (by decide) (by decide) (law_19 hV G sld hi hN hB hk hg hst back)
  | 20, _ => exact hV.tblin (off := 1176) (tgt := 1215) dL_law_39 (by decide) (by decide) (by decide) (by decide) (law_20 hV G sld hi hN hB hk hg hst back)
  | 21, _ => exact hV.tblin (off := 1232) (tgt := 1271) dL_law_39 (by decide) (by decide) (by decide) (by decide) (law_21 hV G sld hi hN hB hk hg hst back)
  | 22, _ => exact hV.tblin (off := 1300) (tgt := 1339) dL_law_39 (by decide) (by decide) (by decide) (by decide) (law_22 hV G sld hi hN hB hk hg hst back)
  | 23, _ => exact hV.tblin (off := 1368) (tgt := 1407) dL_law_39 (by decide) (by decide) (by decide) (by decide) (law_23 hV G sld hi hN hB hk hg hst back)
  | 24, _ => exact hV.tblin (off := 1436) (tgt := 1475) dL_law_39 (by decide) (by decide) (by decide) (by decide) (law_24 hV G sld hi hN hB hk hg hst back)
  | 25, _ => exact hV.tblin (off := 1449) (tgt := 1488) dL_law_39 (by decide) (by decide) (by decide) (by decide) (law_25 hV G sld hi hN hB hk hg hst back)
  | 26, _ => exact hV.tblin (off := 1505) (tgt := 1544) dL_law_39 (by decide) (by decide) (by decide) (by decide) (law_26 hV G sld hi hN hB hk hg hst back)
  | 27, _ => exact hV.tblin (off := 1546) (tgt := 1585) dL_law_39 (by decide) (by decide) (by decide) (by decide) (law_27 hV G sld hi hN hB hk hg hst back)
  | j + 28, hj => exact hV.tblout (tgt := 1599) dL_law_39 (Or.inr (by rw [nI_toInt (by omega)]; omega)) (by decide) (back H n k g (Nat.le_refl n) (hst.mono (by omega)) (by omega) (by omega))
theorem law_loop {l : Launch} {D : va_G} {base : Nat} {Sx : Nat → (Nat → Int32) → Prop} {V : zVT} {X : zXT} {yy : MethodName} (hV : zLaws l D base code RL yy room_1 9 Sx V X) (G : l.stackTraces = false) {b N : Nat} {xs : Nat → Int32} (sld : SLD V b N xs) (sln : SLN V b N) (lrt : LRT V) {a : Nat} (hN : N ≤ 2048) : ∀ (r t : Nat) {B n k g : Nat} {H : zH}, N < 4 * t + 4 * r → 4 * t ≤ N + 3 → B ≤ 2000 * t → k ≤ 100 + 11 * t → g ≤ 3000 + 235 * t → ST B a n H → V 23 [(4, .int (nI (4 * t))), (1, .ref a), (2, .ref (a + 31)), (3, .ref (a + 39)), (0, .ref b)] [] H n k g := by
  intro r
  induction r with
  | zero =>
    intro t B n k g H h1 h2 h3 h4 h5 hst
    refine law_head hV sln hN (by omega) (fun _ => ?_) (fun c => absurd c (by omega))
    refine hV.iconst (v := 1) dL_law_1605 (by decide) ?_
    exact lrt (by omega) (by omega)
  | succ r ih =>
    intro t B n k g H h1 h2 h3 h4 h5 hst
    refine law_head hV sln hN (by omega) (fun _ => ?_) (fun c => ?_)
    · refine hV.iconst (v := 1) dL_law_1605 (by decide) ?_
      exact lrt (by omega) (by omega)
    · refine hV.aload_n 4 dL_law_32 rfl ?_
      refine hV.iload 0 dL_law_33 rfl ?_
      refine sld dL_law_35 (zix_nI (by omega)) (show 4 * t < N by omega) ?_
      refine hV.bipush (v := 31) dL_law_36 (by decide) ?_
      refine hV.iand dL_law_38 ?_
      obtain ⟨j, hj, e⟩ := pk_andE (xs (4 * t)) (m := 31) 5 (by decide)
      refine zTop e ?_
      refine law_sw hV G sld c hN (by omega) (by omega) (by omega) hst (fun H2 n2 k2 g2 hn2 hst2 hk2 hg2 => ?_) hj
      refine hV.iinc 0 (v := nI (4 * (t + 1))) (ls2 := [(4, .int (nI (4 * (t + 1)))), (1, .ref a), (2, .ref (a + 31)), (3, .ref (a + 39)), (0, .ref b)]) dL_law_1599 rfl (by rw [show Int32.ofInt 4 = nI 4 from rfl, zI_add]; exact congrArg nI (by omega)) (by decide) rfl ?_
      refine hV.goto (tgt := 23) dL_law_1602 (by decide) ?_
      exact ih (t + 1) (by omega) (by omega) (by omega) (by omega) (by omega) hst2
/-! where it begins -/
theorem RV_new : RV bd0 zM0 := ⟨by decide +kernel, ⟨by decide +kernel, by decide +kernel, by decide +kernel⟩, by decide +kernel, by decide +kernel, by decide +kernel, by decide +kernel, by decide +kernel, by decide +kernel, by decide +kernel, by decide +kernel⟩
theorem zM0_pin : ∀ i, i < 56 → zM0 (20 + i) = 0 := by decide +kernel
theorem zM0_stp : ∀ i, i < 56 → zM0 (76 + i) = 0 := by decide +kernel
theorem zM0_kd : ∀ p, p < 7 → zM0 (132 + 5 * p) = 0 ∨ zM0 (132 + 5 * p) = 1 ∨ zM0 (132 + 5 * p) = 2 := by decide +kernel
theorem zM0_py : ∀ p, p < 7 → zM0 (132 + 5 * p + 1) = nI ([0, 3, 10, 2, 10, 3, 0].getD p 0) ∧ [0, 3, 10, 2, 10, 3, 0].getD p 0 ≤ 15 := by decide +kernel
theorem RB_new : RB 0 bd0 zM0 := by
  refine ⟨RV_new, ⟨0, 0, fun _ => 0, fun _ => 0, by decide +kernel, by decide +kernel, fun a ha => absurd ha (by omega), fun i hi hz => absurd (zM0_pin i hi) hz, fun i hi => ⟨zM0_stp i hi, Nat.le_refl _⟩, fun a b _ hb => absurd hb (by omega), Nat.le_refl _⟩, ⟨1, by decide, by decide +kernel⟩, fun i hi => Or.inl (zM0_pin i hi), by decide +kernel, by decide +kernel, fun p hp => ⟨zM0_kd p hp, _, (zM0_py p hp).2, (zM0_py p hp).1⟩, 0, 0, by decide +kernel, by decide +kernel, Nat.le_refl _, Nat.le_refl _⟩
theorem zobj_put {o : Nat × List Value} {k : Nat} {ln : Nat → Nat} {β : zB} {b q : Nat} {h : zH} {c : zC} (hq : q < b ∨ b + k < q) : zput (zobj o k ln β b h) q c = zobj o k ln β b (zput h q c) := by
  funext p
  by_cases e : p = q
  · subst e
    rw [zput_at, zobj_out hq, zput_at]
  · rw [zput_ne e]
    exact zobj_cg (zput_ne e).symm
theorem ST_new (h0 : zH) (a : Nat) : ST 0 a (a + 40) (zput (setM (zTo h0 a bd0 bd0 0 0 (fun _ => none) (va_up (fun _ => 0) 0 0) z0 z0 none) (a + 31) (fun _ => 0) (sa z0 0 zM0)) (a + 39) (lcell (fun _ => 0))) := by
  have e1 : zput (setM (zTo h0 a bd0 bd0 0 0 (fun _ => none) (va_up (fun _ => 0) 0 0) z0 z0 none) (a + 31) (fun _ => 0) (sa z0 0 zM0)) (a + 39) (lcell (fun _ => 0)) = setM (zput (zTo h0 a bd0 bd0 0 0 (fun _ => none) (va_up (fun _ => 0) 0 0) z0 z0 none) (a + 39) (lcell (fun _ => 0))) (a + 31) (fun _ => 0) (sa z0 0 zM0) := zobj_put (by omega)
  rw [e1, To_z (by omega)]
  have hx : zExt a (a + 40) (zput h0 (a + 39) (lcell (fun _ => 0))) (fun _ => none) none (fun _ => z0) z0 := by
    refine ⟨Nat.le_refl _, ?_, ?_, ?_⟩
    · intro j q _ h; cases h
    · intro i j q r _ _ _ h; cases h
    · intro q h; cases h
  refine ST_fin (u := 0) (v := 0) (ρ := fun _ => z0) (κ := z0) (L := 0) hx zput_at ?_
  refine ⟨by omega, by omega, rfl, by rw [saat]; exact RB_new, fun i hi => absurd hi (by omega), Or.inl ⟨rfl, rfl⟩, vat, rfl, by omega, by rw [sane (by omega)]; rfl, fun _ => 0, fun i => ?_⟩
  rw [sane (by omega)]
  exact ⟨rfl, by show (0 : Nat) < 128; decide⟩
theorem law_all {l : Launch} {D : va_G} {base : Nat} {Sx : Nat → (Nat → Int32) → Prop} {V : zVT} {X : zXT} {yy : MethodName} (hV : zLaws l D base code RL yy room_1 9 Sx V X) (G : l.stackTraces = false) {b N : Nat} {xs : Nat → Int32} (sld : SLD V b N xs) (sln : SLN V b N) (lrt : LRT V) {a : Nat} (hN : N ≤ 2048) {h0 : zH} : V 0 [(0, .ref b)] [] h0 a 0 0 := by
  refine hV.new (h2 := zobj (4, [.null, .null, .null, .null, .null, .null]) 0 lnB z0 a h0) dL_law_0 nw_L_8 (Nat.le_of_ble_eq_true rfl) (Nat.le_of_ble_eq_true rfl) zobj_new ?_
  refine hV.dup dL_law_3 rfl ?_
  refine hV.callI1 (rest := [.ref a]) dL_law_4 (c_X4_init G (n := 0)) my_X4_init ki_L_85 rfl rfl (Nat.le_of_ble_eq_true rfl) (Nat.le_of_ble_eq_true rfl) (Nat.le_of_ble_eq_true rfl) (Nat.le_of_ble_eq_true rfl) (Nat.le_of_ble_eq_true rfl) (st2 := [.ref a]) (k2 := 31) (g2 := 606) rfl rfl rfl ?_
  refine hV.astore_n (ls2 := [(1, .ref a), (0, .ref b)]) dL_law_7 (by decide) rfl ?_
  refine hV.new (h2 := zobj (5, [.int 0, .null, .null, .null, .int 0, .null, .int 0, .null, .int 0, .null, .null, .int 0, .int 0, .int 0, .int 0]) 0 lnM z0 (a + 31) (zTo h0 a bd0 bd0 0 0 (fun _ => none) (va_up (fun _ => 0) 0 0) z0 z0 none)) dL_law_8 nw_L_86 (Nat.le_of_ble_eq_true rfl) (Nat.le_of_ble_eq_true rfl) zobj_new ?_
  refine hV.dup dL_law_11 rfl ?_
  refine hV.callI1 (rest := [.ref (a + 31)]) dL_law_12 (c_X5_init G (n := 0)) my_X5_init ki_L_88 rfl rfl (Nat.le_of_ble_eq_true rfl) (Nat.le_of_ble_eq_true rfl) (Nat.le_of_ble_eq_true rfl) (Nat.le_of_ble_eq_true rfl) (Nat.le_of_ble_eq_true rfl) (st2 := [.ref (a + 31)]) (k2 := 39) (g2 := 2270) rfl rfl rfl ?_
  refine hV.astore_n (ls2 := [(2, .ref (a + 31)), (1, .ref a), (0, .ref b)]) dL_law_15 (by decide) rfl ?_
  refine hV.iconst (v := 1) dL_law_16 (by decide) ?_
  refine hV.newl (N := 1) dL_law_17 ⟨by decide, by decide⟩ (by decide) (Nat.le_of_ble_eq_true rfl) (Nat.le_of_ble_eq_true rfl) rfl ?_
  refine hV.astore_n (ls2 := [(3, .ref (a + 39)), (2, .ref (a + 31)), (1, .ref a), (0, .ref b)]) dL_law_19 (by decide) rfl ?_
  refine hV.iconst (v := 0) dL_law_20 (by decide) ?_
  refine hV.istore (ls2 := [(4, .int 0), (3, .ref (a + 39)), (2, .ref (a + 31)), (1, .ref a), (0, .ref b)]) dL_law_21 (by decide) rfl ?_
  refine hV.pick [0, 3, 2, 1, 4] (ls2 := [(4, .int (nI (4 * 0))), (1, .ref a), (2, .ref (a + 31)), (3, .ref (a + 39)), (0, .ref b)]) rfl ?_
  exact law_loop hV G sld sln lrt hN (N + 1) 0 (B := 0) (by omega) (by omega) (by omega) (by omega) (by omega) (ST_new h0 a)
