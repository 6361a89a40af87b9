/-! The law: its wrappers -/
abbrev lcell (y : Nat → Int64) : zC := some (.inl (1, .inr (.inl y)))
theorem wl_13 : Cond.classLink RL 13 "java/lang/IndexOutOfBoundsException" ∈ zGA := zga_in 352 (by decide +kernel) (by decide +kernel)
theorem wc_13 : Cond.castable "java/lang/IndexOutOfBoundsException" "java/lang/IndexOutOfBoundsException" ∈ zNG := zng_in 316 (by decide +kernel) (by decide +kernel)
theorem wl_15 : Cond.classLink RL 15 "java/lang/IllegalArgumentException" ∈ zGA := zga_in 353 (by decide +kernel) (by decide +kernel)
theorem wc_15 : Cond.castable "java/lang/IllegalArgumentException" "java/lang/IllegalArgumentException" ∈ zNG := zng_in 387 (by decide +kernel) (by decide +kernel)
theorem wl_37 : Cond.classLink RL 37 "java/lang/IllegalStateException" ∈ zGA := zga_in 517 (by decide +kernel) (by decide +kernel)
theorem wc_37 : Cond.castable "java/lang/IllegalStateException" "java/lang/IllegalStateException" ∈ zNG := zng_in 477 (by decide +kernel) (by decide +kernel)
theorem WL_bend_ok {l : Launch} {D : va_G} {base : Nat} {H : zH} {n a o : Nat} {fs : List Value} {p0 p1 p2 : Int32} {dd mc ms : Nat} {r : Int32} {S : zH → Nat → Prop} (q1 : dd ≤ 13) (q2 : mc ≤ 11) (q3 : ms ≤ 235) (hx : H a = some (.inr (4, fs))) (hM : zCt l D base dd yX4_bend w_X4_bend [.ref a, .int p0, .int p1, .int p2] H n mc ms (zRT (some (.int r)) S)) (hS : ∀ H1 n1, S H1 n1 → ∃ y, H1 o = lcell y) :
    zCt l D base 14 yL_bend w_L_bend [.ref a, .int p0, .int p1, .int p2, .ref o] H n 11 235 (zRT (some (.int 0)) (fun H2 n2 => ∃ H1 y, S H1 n2 ∧ H1 o = lcell y ∧ H2 = zput H1 o (lcell (va_up y 0 r.toInt64)))) := by
  refine zCt.ofH (by decide) (Nat.le_of_ble_eq_true rfl) (fun Sx V X hV hE hXc => ?_)
  show V 0 [(0, .ref a), (1, .int p0), (2, .int p1), (3, .int p2), (4, .ref o)] [] H n 0 0
  refine hV.aload 4 dL_bend_0 rfl ?_
  refine hV.iconst (v := 0) dL_bend_2 (by decide) ?_
  refine hV.aload_n 0 dL_bend_3 rfl ?_
  refine hV.iload_n 1 dL_bend_4 rfl ?_
  refine hV.iload_n 2 dL_bend_5 rfl ?_
  refine hV.iload_n 3 dL_bend_6 rfl ?_
  refine hV.callV3 (rest := [.int 0, .ref o]) dL_bend_7 hM my_X4_bend kv_L_7 hx rfl rfl rfl (show dd + 1 ≤ 14 by omega) (show 64 * (dd + 1) ≤ 64 * 14 by omega) (Nat.le_of_ble_eq_true rfl) (show 0 + mc ≤ 11 by omega) (show 0 + ms ≤ 235 by omega) (st2 := [.int r, .int 0, .ref o]) rfl rfl rfl (fun H1 n1 hn hs => ?_)
  obtain ⟨y, hy⟩ := hS _ _ hs
  refine hV.i2l dL_bend_10 rfl ?_
  refine hV.last (j := 0) dL_bend_11 hy ⟨by decide, by decide⟩ (by decide) rfl ?_
  refine hV.goto (tgt := 23) dL_bend_12 (by decide) ?_
  refine hV.iconst (v := 0) dL_bend_23 (by decide) ?_
  exact hE.1 dL_bend_24 rfl rfl (show 0 + mc ≤ 11 by omega) (show 0 + ms ≤ 235 by omega) (zRTi rfl ⟨H1, y, hs, hy, rfl⟩)
theorem WL_bend_x1 {l : Launch} {D : va_G} {base : Nat} {H : zH} {n a o : Nat} {fs : List Value} {p0 p1 p2 : Int32} {dd mc ms : Nat} (q1 : dd ≤ 13) (q2 : mc ≤ 11) (q3 : ms ≤ 235) (hx : H a = some (.inr (4, fs))) (hM : zCt l D base dd yX4_bend w_X4_bend [.ref a, .int p0, .int p1, .int p2] H n mc ms (zTX "java/lang/IndexOutOfBoundsException" H n)) :
    zCt l D base 14 yL_bend w_L_bend [.ref a, .int p0, .int p1, .int p2, .ref o] H n 11 235 (zRT (some (.int 1)) (fun H2 n2 => H2 = H ∧ n ≤ n2)) := by
  refine zCt.ofH (by decide) (Nat.le_of_ble_eq_true rfl) (fun Sx V X hV hE hXc => ?_)
  show V 0 [(0, .ref a), (1, .int p0), (2, .int p1), (3, .int p2), (4, .ref o)] [] H n 0 0
  refine hV.aload 4 dL_bend_0 rfl ?_
  refine hV.iconst (v := 0) dL_bend_2 (by decide) ?_
  refine hV.aload_n 0 dL_bend_3 rfl ?_
  refine hV.iload_n 1 dL_bend_4 rfl ?_
  refine hV.iload_n 2 dL_bend_5 rfl ?_
  refine hV.iload_n 3 dL_bend_6 rfl ?_
  refine hV.callV (rest := [.int 0, .ref o]) dL_bend_7 hM my_X4_bend kv_L_7 hx rfl rfl rfl (show dd + 1 ≤ 14 by omega) (show 64 * (dd + 1) ≤ 64 * 14 by omega) (Nat.le_of_ble_eq_true rfl) (show 0 + mc ≤ 11 by omega) (show 0 + ms ≤ 235 by omega) (fun v H2 n2 hn hp => zTX_v hp) (fun E2 H2 n2 hn hp => ?_)
  obtain ⟨rfl, rfl, h3⟩ := zTX_x hp
  refine hXc (nm := "java/lang/IndexOutOfBoundsException") [] ⟨0, 12, 15, 13⟩ [⟨0, 12, 19, 15⟩] rfl (fun z hz => absurd hz (List.not_mem_nil)) (by decide) (by decide) wl_13 wc_13 (fun q => ?_)
  show V 15 [(0, .ref a), (1, .int p0), (2, .int p1), (3, .int p2), (4, .ref o)] [.ref q] H2 n2 (0 + mc) (0 + ms)
  refine hV.astore (ls2 := [(5, .ref q), (0, .ref a), (1, .int p0), (2, .int p1), (3, .int p2), (4, .ref o)]) dL_bend_15 (by decide) rfl ?_
  refine hV.iconst (v := 1) dL_bend_17 (by decide) ?_
  exact hE.1 dL_bend_18 rfl rfl (show 0 + mc ≤ 11 by omega) (show 0 + ms ≤ 235 by omega) (zRTi rfl ⟨rfl, h3⟩)
theorem WL_bend_x2 {l : Launch} {D : va_G} {base : Nat} {H : zH} {n a o : Nat} {fs : List Value} {p0 p1 p2 : Int32} {dd mc ms : Nat} (q1 : dd ≤ 13) (q2 : mc ≤ 11) (q3 : ms ≤ 235) (hx : H a = some (.inr (4, fs))) (hM : zCt l D base dd yX4_bend w_X4_bend [.ref a, .int p0, .int p1, .int p2] H n mc ms (zTX "java/lang/IllegalArgumentException" H n)) :
    zCt l D base 14 yL_bend w_L_bend [.ref a, .int p0, .int p1, .int p2, .ref o] H n 11 235 (zRT (some (.int 2)) (fun H2 n2 => H2 = H ∧ n ≤ n2)) := by
  refine zCt.ofH (by decide) (Nat.le_of_ble_eq_true rfl) (fun Sx V X hV hE hXc => ?_)
  show V 0 [(0, .ref a), (1, .int p0), (2, .int p1), (3, .int p2), (4, .ref o)] [] H n 0 0
  refine hV.aload 4 dL_bend_0 rfl ?_
  refine hV.iconst (v := 0) dL_bend_2 (by decide) ?_
  refine hV.aload_n 0 dL_bend_3 rfl ?_
  refine hV.iload_n 1 dL_bend_4 rfl ?_
  refine hV.iload_n 2 dL_bend_5 rfl ?_
  refine hV.iload_n 3 dL_bend_6 rfl ?_
  refine hV.callV (rest := [.int 0, .ref o]) dL_bend_7 hM my_X4_bend kv_L_7 hx rfl rfl rfl (show dd + 1 ≤ 14 by omega) (show 64 * (dd + 1) ≤ 64 * 14 by omega) (Nat.le_of_ble_eq_true rfl) (show 0 + mc ≤ 11 by omega) (show 0 + ms ≤ 235 by omega) (fun v H2 n2 hn hp => zTX_v hp) (fun E2 H2 n2 hn hp => ?_)
  obtain ⟨rfl, rfl, h3⟩ := zTX_x hp
  refine hXc (nm := "java/lang/IllegalArgumentException") [⟨0, 12, 15, 13⟩] ⟨0, 12, 19, 15⟩ [] rfl (fun z hz => by rw [List.mem_singleton.mp hz]; exact Or.inr ⟨by decide, "java/lang/IndexOutOfBoundsException", wl_13, by decide⟩) (by decide) (by decide) wl_15 wc_15 (fun q => ?_)
  show V 19 [(0, .ref a), (1, .int p0), (2, .int p1), (3, .int p2), (4, .ref o)] [.ref q] H2 n2 (0 + mc) (0 + ms)
  refine hV.astore (ls2 := [(5, .ref q), (0, .ref a), (1, .int p0), (2, .int p1), (3, .int p2), (4, .ref o)]) dL_bend_19 (by decide) rfl ?_
  refine hV.iconst (v := 2) dL_bend_21 (by decide) ?_
  exact hE.1 dL_bend_22 rfl rfl (show 0 + mc ≤ 11 by omega) (show 0 + ms ≤ 235 by omega) (zRTi rfl ⟨rfl, h3⟩)
theorem WL_pocket_ok {l : Launch} {D : va_G} {base : Nat} {H : zH} {n a o : Nat} {fs : List Value} {p0 p1 p2 : Int32} {dd mc ms : Nat} {r : Int32} {S : zH → Nat → Prop} (q1 : dd ≤ 13) (q2 : mc ≤ 11) (q3 : ms ≤ 235) (hx : H a = some (.inr (4, fs))) (hM : zCt l D base dd yX4_pocket w_X4_pocket [.ref a, .int p0, .int p1, .int p2] H n mc ms (zRT (some (.int r)) S)) (hS : ∀ H1 n1, S H1 n1 → ∃ y, H1 o = lcell y) :
    zCt l D base 14 yL_pocket w_L_pocket [.ref a, .int p0, .int p1, .int p2, .ref o] H n 11 235 (zRT (some (.int 0)) (fun H2 n2 => ∃ H1 y, S H1 n2 ∧ H1 o = lcell y ∧ H2 = zput H1 o (lcell (va_up y 0 r.toInt64)))) := by
  refine zCt.ofH (by decide) (Nat.le_of_ble_eq_true rfl) (fun Sx V X hV hE hXc => ?_)
  show V 0 [(0, .ref a), (1, .int p0), (2, .int p1), (3, .int p2), (4, .ref o)] [] H n 0 0
  refine hV.aload 4 dL_pocket_0 rfl ?_
  refine hV.iconst (v := 0) dL_pocket_2 (by decide) ?_
  refine hV.aload_n 0 dL_pocket_3 rfl ?_
  refine hV.iload_n 1 dL_pocket_4 rfl ?_
  refine hV.iload_n 2 dL_pocket_5 rfl ?_
  refine hV.iload_n 3 dL_pocket_6 rfl ?_
  refine hV.callV3 (rest := [.int 0, .ref o]) dL_pocket_7 hM my_X4_pocket kv_L_17 hx rfl rfl rfl (show dd + 1 ≤ 14 by omega) (show 64 * (dd + 1) ≤ 64 * 14 by omega) (Nat.le_of_ble_eq_true rfl) (show 0 + mc ≤ 11 by omega) (show 0 + ms ≤ 235 by omega) (st2 := [.int r, .int 0, .ref o]) rfl rfl rfl (fun H1 n1 hn hs => ?_)
  obtain ⟨y, hy⟩ := hS _ _ hs
  refine hV.i2l dL_pocket_10 rfl ?_
  refine hV.last (j := 0) dL_pocket_11 hy ⟨by decide, by decide⟩ (by decide) rfl ?_
  refine hV.goto (tgt := 23) dL_pocket_12 (by decide) ?_
  refine hV.iconst (v := 0) dL_pocket_23 (by decide) ?_
  exact hE.1 dL_pocket_24 rfl rfl (show 0 + mc ≤ 11 by omega) (show 0 + ms ≤ 235 by omega) (zRTi rfl ⟨H1, y, hs, hy, rfl⟩)
theorem WL_pocket_x1 {l : Launch} {D : va_G} {base : Nat} {H : zH} {n a o : Nat} {fs : List Value} {p0 p1 p2 : Int32} {dd mc ms : Nat} (q1 : dd ≤ 13) (q2 : mc ≤ 11) (q3 : ms ≤ 235) (hx : H a = some (.inr (4, fs))) (hM : zCt l D base dd yX4_pocket w_X4_pocket [.ref a, .int p0, .int p1, .int p2] H n mc ms (zTX "java/lang/IndexOutOfBoundsException" H n)) :
    zCt l D base 14 yL_pocket w_L_pocket [.ref a, .int p0, .int p1, .int p2, .ref o] H n 11 235 (zRT (some (.int 1)) (fun H2 n2 => H2 = H ∧ n ≤ n2)) := by
  refine zCt.ofH (by decide) (Nat.le_of_ble_eq_true rfl) (fun Sx V X hV hE hXc => ?_)
  show V 0 [(0, .ref a), (1, .int p0), (2, .int p1), (3, .int p2), (4, .ref o)] [] H n 0 0
  refine hV.aload 4 dL_pocket_0 rfl ?_
  refine hV.iconst (v := 0) dL_pocket_2 (by decide) ?_
  refine hV.aload_n 0 dL_pocket_3 rfl ?_
  refine hV.iload_n 1 dL_pocket_4 rfl ?_
  refine hV.iload_n 2 dL_pocket_5 rfl ?_
  refine hV.iload_n 3 dL_pocket_6 rfl ?_
  refine hV.callV (rest := [.int 0, .ref o]) dL_pocket_7 hM my_X4_pocket kv_L_17 hx rfl rfl rfl (show dd + 1 ≤ 14 by omega) (show 64 * (dd + 1) ≤ 64 * 14 by omega) (Nat.le_of_ble_eq_true rfl) (show 0 + mc ≤ 11 by omega) (show 0 + ms ≤ 235 by omega) (fun v H2 n2 hn hp => zTX_v hp) (fun E2 H2 n2 hn hp => ?_)
  obtain ⟨rfl, rfl, h3⟩ := zTX_x hp
  refine hXc (nm := "java/lang/IndexOutOfBoundsException") [] ⟨0, 12, 15, 13⟩ [⟨0, 12, 19, 15⟩] rfl (fun z hz => absurd hz (List.not_mem_nil)) (by decide) (by decide) wl_13 wc_13 (fun q => ?_)
  show V 15 [(0, .ref a), (1, .int p0), (2, .int p1), (3, .int p2), (4, .ref o)] [.ref q] H2 n2 (0 + mc) (0 + ms)
  refine hV.astore (ls2 := [(5, .ref q), (0, .ref a), (1, .int p0), (2, .int p1), (3, .int p2), (4, .ref o)]) dL_pocket_15 (by decide) rfl ?_
  refine hV.iconst (v := 1) dL_pocket_17 (by decide) ?_
  exact hE.1 dL_pocket_18 rfl rfl (show 0 + mc ≤ 11 by omega) (show 0 + ms ≤ 235 by omega) (zRTi rfl ⟨rfl, h3⟩)
theorem WL_pocket_x2 {l : Launch} {D : va_G} {base : Nat} {H : zH} {n a o : Nat} {fs : List Value} {p0 p1 p2 : Int32} {dd mc ms : Nat} (q1 : dd ≤ 13) (q2 : mc ≤ 11) (q3 : ms ≤ 235) (hx : H a = some (.inr (4, fs))) (hM : zCt l D base dd yX4_pocket w_X4_pocket [.ref a, .int p0, .int p1, .int p2] H n mc ms (zTX "java/lang/IllegalArgumentException" H n)) :
    zCt l D base 14 yL_pocket w_L_pocket [.ref a, .int p0, .int p1, .int p2, .ref o] H n 11 235 (zRT (some (.int 2)) (fun H2 n2 => H2 = H ∧ n ≤ n2)) := by
  refine zCt.ofH (by decide) (Nat.le_of_ble_eq_true rfl) (fun Sx V X hV hE hXc => ?_)
  show V 0 [(0, .ref a), (1, .int p0), (2, .int p1), (3, .int p2), (4, .ref o)] [] H n 0 0
  refine hV.aload 4 dL_pocket_0 rfl ?_
  refine hV.iconst (v := 0) dL_pocket_2 (by decide) ?_
  refine hV.aload_n 0 dL_pocket_3 rfl ?_
  refine hV.iload_n 1 dL_pocket_4 rfl ?_
  refine hV.iload_n 2 dL_pocket_5 rfl ?_
  refine hV.iload_n 3 dL_pocket_6 rfl ?_
  refine hV.callV (rest := [.int 0, .ref o]) dL_pocket_7 hM my_X4_pocket kv_L_17 hx rfl rfl rfl (show dd + 1 ≤ 14 by omega) (show 64 * (dd + 1) ≤ 64 * 14 by omega) (Nat.le_of_ble_eq_true rfl) (show 0 + mc ≤ 11 by omega) (show 0 + ms ≤ 235 by omega) (fun v H2 n2 hn hp => zTX_v hp) (fun E2 H2 n2 hn hp => ?_)
  obtain ⟨rfl, rfl, h3⟩ := zTX_x hp
  refine hXc (nm := "java/lang/IllegalArgumentException") [⟨0, 12, 15, 13⟩] ⟨0, 12, 19, 15⟩ [] rfl (fun z hz => by rw [List.mem_singleton.mp hz]; exact Or.inr ⟨by decide, "java/lang/IndexOutOfBoundsException", wl_13, by decide⟩) (by decide) (by decide) wl_15 wc_15 (fun q => ?_)
  show V 19 [(0, .ref a), (1, .int p0), (2, .int p1), (3, .int p2), (4, .ref o)] [.ref q] H2 n2 (0 + mc) (0 + ms)
  refine hV.astore (ls2 := [(5, .ref q), (0, .ref a), (1, .int p0), (2, .int p1), (3, .int p2), (4, .ref o)]) dL_pocket_19 (by decide) rfl ?_
  refine hV.iconst (v := 2) dL_pocket_21 (by decide) ?_
  exact hE.1 dL_pocket_22 rfl rfl (show 0 + mc ≤ 11 by omega) (show 0 + ms ≤ 235 by omega) (zRTi rfl ⟨rfl, h3⟩)
theorem WL_start_ok {l : Launch} {D : va_G} {base : Nat} {H : zH} {n a o : Nat} {fs : List Value} {p0 : Int32} {dd mc ms : Nat} {r : Int32} {S : zH → Nat → Prop} (q1 : dd ≤ 13) (q2 : mc ≤ 11) (q3 : ms ≤ 235) (hx : H a = some (.inr (4, fs))) (hM : zCt l D base dd yX4_start w_X4_start [.ref a, .int p0] H n mc ms (zRT (some (.int r)) S)) (hS : ∀ H1 n1, S H1 n1 → ∃ y, H1 o = lcell y) :
    zCt l D base 14 yL_start w_L_start [.ref a, .int p0, .ref o] H n 11 235 (zRT (some (.int 0)) (fun H2 n2 => ∃ H1 y, S H1 n2 ∧ H1 o = lcell y ∧ H2 = zput H1 o (lcell (va_up y 0 r.toInt64)))) := by
  refine zCt.ofH (by decide) (Nat.le_of_ble_eq_true rfl) (fun Sx V X hV hE hXc => ?_)
  show V 0 [(0, .ref a), (1, .int p0), (2, .ref o)] [] H n 0 0
  refine hV.aload_n 2 dL_start_0 rfl ?_
  refine hV.iconst (v := 0) dL_start_1 (by decide) ?_
  refine hV.aload_n 0 dL_start_2 rfl ?_
  refine hV.iload_n 1 dL_start_3 rfl ?_
  refine hV.callV3 (rest := [.int 0, .ref o]) dL_start_4 hM my_X4_start kv_L_20 hx rfl rfl rfl (show dd + 1 ≤ 14 by omega) (show 64 * (dd + 1) ≤ 64 * 14 by omega) (Nat.le_of_ble_eq_true rfl) (show 0 + mc ≤ 11 by omega) (show 0 + ms ≤ 235 by omega) (st2 := [.int r, .int 0, .ref o]) rfl rfl rfl (fun H1 n1 hn hs => ?_)
  obtain ⟨y, hy⟩ := hS _ _ hs
  refine hV.i2l dL_start_7 rfl ?_
  refine hV.last (j := 0) dL_start_8 hy ⟨by decide, by decide⟩ (by decide) rfl ?_
  refine hV.goto (tgt := 15) dL_start_9 (by decide) ?_
  refine hV.iconst (v := 0) dL_start_15 (by decide) ?_
  exact hE.1 dL_start_16 rfl rfl (show 0 + mc ≤ 11 by omega) (show 0 + ms ≤ 235 by omega) (zRTi rfl ⟨H1, y, hs, hy, rfl⟩)
theorem WL_start_x1 {l : Launch} {D : va_G} {base : Nat} {H : zH} {n a o : Nat} {fs : List Value} {p0 : Int32} {dd mc ms : Nat} (q1 : dd ≤ 13) (q2 : mc ≤ 11) (q3 : ms ≤ 235) (hx : H a = some (.inr (4, fs))) (hM : zCt l D base dd yX4_start w_X4_start [.ref a, .int p0] H n mc ms (zTX "java/lang/IndexOutOfBoundsException" H n)) :
    zCt l D base 14 yL_start w_L_start [.ref a, .int p0, .ref o] H n 11 235 (zRT (some (.int 1)) (fun H2 n2 => H2 = H ∧ n ≤ n2)) := by
  refine zCt.ofH (by decide) (Nat.le_of_ble_eq_true rfl) (fun Sx V X hV hE hXc => ?_)
  show V 0 [(0, .ref a), (1, .int p0), (2, .ref o)] [] H n 0 0
  refine hV.aload_n 2 dL_start_0 rfl ?_
  refine hV.iconst (v := 0) dL_start_1 (by decide) ?_
  refine hV.aload_n 0 dL_start_2 rfl ?_
  refine hV.iload_n 1 dL_start_3 rfl ?_
  refine hV.callV (rest := [.int 0, .ref o]) dL_start_4 hM my_X4_start kv_L_20 hx rfl rfl rfl (show dd + 1 ≤ 14 by omega) (show 64 * (dd + 1) ≤ 64 * 14 by omega) (Nat.le_of_ble_eq_true rfl) (show 0 + mc ≤ 11 by omega) (show 0 + ms ≤ 235 by omega) (fun v H2 n2 hn hp => zTX_v hp) (fun E2 H2 n2 hn hp => ?_)
  obtain ⟨rfl, rfl, h3⟩ := zTX_x hp
  refine hXc (nm := "java/lang/IndexOutOfBoundsException") [] ⟨0, 9, 12, 13⟩ [] rfl (fun z hz => absurd hz (List.not_mem_nil)) (by decide) (by decide) wl_13 wc_13 (fun q => ?_)
  show V 12 [(0, .ref a), (1, .int p0), (2, .ref o)] [.ref q] H2 n2 (0 + mc) (0 + ms)
  refine hV.astore_n (ls2 := [(3, .ref q), (0, .ref a), (1, .int p0), (2, .ref o)]) dL_start_12 (by decide) rfl ?_
  refine hV.iconst (v := 1) dL_start_13 (by decide) ?_
  exact hE.1 dL_start_14 rfl rfl (show 0 + mc ≤ 11 by omega) (show 0 + ms ≤ 235 by omega) (zRTi rfl ⟨rfl, h3⟩)
theorem WL_set_ok {l : Launch} {D : va_G} {base : Nat} {H : zH} {n a o : Nat} {fs : List Value} {p0 p1 : Int32} {dd mc ms : Nat} {r : Int32} {S : zH → Nat → Prop} (q1 : dd ≤ 13) (q2 : mc ≤ 11) (q3 : ms ≤ 235) (hx : H a = some (.inr (4, fs))) (hM : zCt l D base dd yX4_set w_X4_set [.ref a, .int p0, .int p1] H n mc ms (zRT (some (.int r)) S)) (hS : ∀ H1 n1, S H1 n1 → ∃ y, H1 o = lcell y) :
    zCt l D base 14 yL_set w_L_set [.ref a, .int p0, .int p1, .ref o] H n 11 235 (zRT (some (.int 0)) (fun H2 n2 => ∃ H1 y, S H1 n2 ∧ H1 o = lcell y ∧ H2 = zput H1 o (lcell (va_up y 0 r.toInt64)))) := by
  refine zCt.ofH (by decide) (Nat.le_of_ble_eq_true rfl) (fun Sx V X hV hE hXc => ?_)
  show V 0 [(0, .ref a), (1, .int p0), (2, .int p1), (3, .ref o)] [] H n 0 0
  refine hV.aload_n 3 dL_set_0 rfl ?_
  refine hV.iconst (v := 0) dL_set_1 (by decide) ?_
  refine hV.aload_n 0 dL_set_2 rfl ?_
  refine hV.iload_n 1 dL_set_3 rfl ?_
  refine hV.iload_n 2 dL_set_4 rfl ?_
  refine hV.callV3 (rest := [.int 0, .ref o]) dL_set_5 hM my_X4_set kv_L_24 hx rfl rfl rfl (show dd + 1 ≤ 14 by omega) (show 64 * (dd + 1) ≤ 64 * 14 by omega) (Nat.le_of_ble_eq_true rfl) (show 0 + mc ≤ 11 by omega) (show 0 + ms ≤ 235 by omega) (st2 := [.int r, .int 0, .ref o]) rfl rfl rfl (fun H1 n1 hn hs => ?_)
  obtain ⟨y, hy⟩ := hS _ _ hs
  refine hV.i2l dL_set_8 rfl ?_
  refine hV.last (j := 0) dL_set_9 hy ⟨by decide, by decide⟩ (by decide) rfl ?_
  refine hV.goto (tgt := 21) dL_set_10 (by decide) ?_
  refine hV.iconst (v := 0) dL_set_21 (by decide) ?_
  exact hE.1 dL_set_22 rfl rfl (show 0 + mc ≤ 11 by omega) (show 0 + ms ≤ 235 by omega) (zRTi rfl ⟨H1, y, hs, hy, rfl⟩)
theorem WL_set_x1 {l : Launch} {D : va_G} {base : Nat} {H : zH} {n a o : Nat} {fs : List Value} {p0 p1 : Int32} {dd mc ms : Nat} (q1 : dd ≤ 13) (q2 : mc ≤ 11) (q3 : ms ≤ 235) (hx : H a = some (.inr (4, fs))) (hM : zCt l D base dd yX4_set w_X4_set [.ref a, .int p0, .int p1] H n mc ms (zTX "java/lang/IndexOutOfBoundsException" H n)) :
    zCt l D base 14 yL_set w_L_set [.ref a, .int p0, .int p1, .ref o] H n 11 235 (zRT (some (.int 1)) (fun H2 n2 => H2 = H ∧ n ≤ n2)) := by
  refine zCt.ofH (by decide) (Nat.le_of_ble_eq_true rfl) (fun Sx V X hV hE hXc => ?_)
  show V 0 [(0, .ref a), (1, .int p0), (2, .int p1), (3, .ref o)] [] H n 0 0
  refine hV.aload_n 3 dL_set_0 rfl ?_
  refine hV.iconst (v := 0) dL_set_1 (by decide) ?_
  refine hV.aload_n 0 dL_set_2 rfl ?_
  refine hV.iload_n 1 dL_set_3 rfl ?_
  refine hV.iload_n 2 dL_set_4 rfl ?_
  refine hV.callV (rest := [.int 0, .ref o]) dL_set_5 hM my_X4_set kv_L_24 hx rfl rfl rfl (show dd + 1 ≤ 14 by omega) (show 64 * (dd + 1) ≤ 64 * 14 by omega) (Nat.le_of_ble_eq_true rfl) (show 0 + mc ≤ 11 by omega) (show 0 + ms ≤ 235 by omega) (fun v H2 n2 hn hp => zTX_v hp) (fun E2 H2 n2 hn hp => ?_)
  obtain ⟨rfl, rfl, h3⟩ := zTX_x hp
  refine hXc (nm := "java/lang/IndexOutOfBoundsException") [] ⟨0, 10, 13, 13⟩ [⟨0, 10, 17, 15⟩] rfl (fun z hz => absurd hz (List.not_mem_nil)) (by decide) (by decide) wl_13 wc_13 (fun q => ?_)
  show V 13 [(0, .ref a), (1, .int p0), (2, .int p1), (3, .ref o)] [.ref q] H2 n2 (0 + mc) (0 + ms)
  refine hV.astore (ls2 := [(4, .ref q), (0, .ref a), (1, .int p0), (2, .int p1), (3, .ref o)]) dL_set_13 (by decide) rfl ?_
  refine hV.iconst (v := 1) dL_set_15 (by decide) ?_
  exact hE.1 dL_set_16 rfl rfl (show 0 + mc ≤ 11 by omega) (show 0 + ms ≤ 235 by omega) (zRTi rfl ⟨rfl, h3⟩)
theorem WL_set_x2 {l : Launch} {D : va_G} {base : Nat} {H : zH} {n a o : Nat} {fs : List Value} {p0 p1 : Int32} {dd mc ms : Nat} (q1 : dd ≤ 13) (q2 : mc ≤ 11) (q3 : ms ≤ 235) (hx : H a = some (.inr (4, fs))) (hM : zCt l D base dd yX4_set w_X4_set [.ref a, .int p0, .int p1] H n mc ms (zTX "java/lang/IllegalArgumentException" H n)) :
    zCt l D base 14 yL_set w_L_set [.ref a, .int p0, .int p1, .ref o] H n 11 235 (zRT (some (.int 2)) (fun H2 n2 => H2 = H ∧ n ≤ n2)) := by
  refine zCt.ofH (by decide) (Nat.le_of_ble_eq_true rfl) (fun Sx V X hV hE hXc => ?_)
  show V 0 [(0, .ref a), (1, .int p0), (2, .int p1), (3, .ref o)] [] H n 0 0
  refine hV.aload_n 3 dL_set_0 rfl ?_
  refine hV.iconst (v := 0) dL_set_1 (by decide) ?_
  refine hV.aload_n 0 dL_set_2 rfl ?_
  refine hV.iload_n 1 dL_set_3 rfl ?_
  refine hV.iload_n 2 dL_set_4 rfl ?_
  refine hV.callV (rest := [.int 0, .ref o]) dL_set_5 hM my_X4_set kv_L_24 hx rfl rfl rfl (show dd + 1 ≤ 14 by omega) (show 64 * (dd + 1) ≤ 64 * 14 by omega) (Nat.le_of_ble_eq_true rfl) (show 0 + mc ≤ 11 by omega) (show 0 + ms ≤ 235 by omega) (fun v H2 n2 hn hp => zTX_v hp) (fun E2 H2 n2 hn hp => ?_)
  obtain ⟨rfl, rfl, h3⟩ := zTX_x hp
  refine hXc (nm := "java/lang/IllegalArgumentException") [⟨0, 10, 13, 13⟩] ⟨0, 10, 17, 15⟩ [] rfl (fun z hz => by rw [List.mem_singleton.mp hz]; exact Or.inr ⟨by decide, "java/lang/IndexOutOfBoundsException", wl_13, by decide⟩) (by decide) (by decide) wl_15 wc_15 (fun q => ?_)
  show V 17 [(0, .ref a), (1, .int p0), (2, .int p1), (3, .ref o)] [.ref q] H2 n2 (0 + mc) (0 + ms)
  refine hV.astore (ls2 := [(4, .ref q), (0, .ref a), (1, .int p0), (2, .int p1), (3, .ref o)]) dL_set_17 (by decide) rfl ?_
  refine hV.iconst (v := 2) dL_set_19 (by decide) ?_
  exact hE.1 dL_set_20 rfl rfl (show 0 + mc ≤ 11 by omega) (show 0 + ms ≤ 235 by omega) (zRTi rfl ⟨rfl, h3⟩)
theorem WL_shuffle_ok {l : Launch} {D : va_G} {base : Nat} {H : zH} {n a o : Nat} {fs : List Value} {p0 : Int32} {dd mc ms : Nat} {r : Int32} {S : zH → Nat → Prop} (q1 : dd ≤ 13) (q2 : mc ≤ 11) (q3 : ms ≤ 235) (hx : H a = some (.inr (4, fs))) (hM : zCt l D base dd yX4_shuffle w_X4_shuffle [.ref a, .int p0] H n mc ms (zRT (some (.int r)) S)) (hS : ∀ H1 n1, S H1 n1 → ∃ y, H1 o = lcell y) :
    zCt l D base 14 yL_shuffle w_L_shuffle [.ref a, .int p0, .ref o] H n 11 235 (zRT (some (.int 0)) (fun H2 n2 => ∃ H1 y, S H1 n2 ∧ H1 o = lcell y ∧ H2 = zput H1 o (lcell (va_up y 0 r.toInt64)))) := by
  refine zCt.ofH (by decide) (Nat.le_of_ble_eq_true rfl) (fun Sx V X hV hE hXc => ?_)
  show V 0 [(0, .ref a), (1, .int p0), (2, .ref o)] [] H n 0 0
  refine hV.aload_n 2 dL_shuffle_0 rfl ?_
  refine hV.iconst (v := 0) dL_shuffle_1 (by decide) ?_
  refine hV.aload_n 0 dL_shuffle_2 rfl ?_
  refine hV.iload_n 1 dL_shuffle_3 rfl ?_
  refine hV.callV3 (rest := [.int 0, .ref o]) dL_shuffle_4 hM my_X4_shuffle kv_L_28 hx rfl rfl rfl (show dd + 1 ≤ 14 by omega) (show 64 * (dd + 1) ≤ 64 * 14 by omega) (Nat.le_of_ble_eq_true rfl) (show 0 + mc ≤ 11 by omega) (show 0 + ms ≤ 235 by omega) (st2 := [.int r, .int 0, .ref o]) rfl rfl rfl (fun H1 n1 hn hs => ?_)
  obtain ⟨y, hy⟩ := hS _ _ hs
  refine hV.i2l dL_shuffle_7 rfl ?_
  refine hV.last (j := 0) dL_shuffle_8 hy ⟨by decide, by decide⟩ (by decide) rfl ?_
  refine hV.goto (tgt := 15) dL_shuffle_9 (by decide) ?_
  refine hV.iconst (v := 0) dL_shuffle_15 (by decide) ?_
  exact hE.1 dL_shuffle_16 rfl rfl (show 0 + mc ≤ 11 by omega) (show 0 + ms ≤ 235 by omega) (zRTi rfl ⟨H1, y, hs, hy, rfl⟩)
theorem WL_shuffle_x1 {l : Launch} {D : va_G} {base : Nat} {H : zH} {n a o : Nat} {fs : List Value} {p0 : Int32} {dd mc ms : Nat} (q1 : dd ≤ 13) (q2 : mc ≤ 11) (q3 : ms ≤ 235) (hx : H a = some (.inr (4, fs))) (hM : zCt l D base dd yX4_shuffle w_X4_shuffle [.ref a, .int p0] H n mc ms (zTX "java/lang/IllegalArgumentException" H n)) :
    zCt l D base 14 yL_shuffle w_L_shuffle [.ref a, .int p0, .ref o] H n 11 235 (zRT (some (.int 1)) (fun H2 n2 => H2 = H ∧ n ≤ n2)) := by
  refine zCt.ofH (by decide) (Nat.le_of_ble_eq_true rfl) (fun Sx V X hV hE hXc => ?_)
  show V 0 [(0, .ref a), (1, .int p0), (2, .ref o)] [] H n 0 0
  refine hV.aload_n 2 dL_shuffle_0 rfl ?_
  refine hV.iconst (v := 0) dL_shuffle_1 (by decide) ?_
  refine hV.aload_n 0 dL_shuffle_2 rfl ?_
  refine hV.iload_n 1 dL_shuffle_3 rfl ?_
  refine hV.callV (rest := [.int 0, .ref o]) dL_shuffle_4 hM my_X4_shuffle kv_L_28 hx rfl rfl rfl (show dd + 1 ≤ 14 by omega) (show 64 * (dd + 1) ≤ 64 * 14 by omega) (Nat.le_of_ble_eq_true rfl) (show 0 + mc ≤ 11 by omega) (show 0 + ms ≤ 235 by omega) (fun v H2 n2 hn hp => zTX_v hp) (fun E2 H2 n2 hn hp => ?_)
  obtain ⟨rfl, rfl, h3⟩ := zTX_x hp
  refine hXc (nm := "java/lang/IllegalArgumentException") [] ⟨0, 9, 12, 15⟩ [] rfl (fun z hz => absurd hz (List.not_mem_nil)) (by decide) (by decide) wl_15 wc_15 (fun q => ?_)
  show V 12 [(0, .ref a), (1, .int p0), (2, .ref o)] [.ref q] H2 n2 (0 + mc) (0 + ms)
  refine hV.astore_n (ls2 := [(3, .ref q), (0, .ref a), (1, .int p0), (2, .ref o)]) dL_shuffle_12 (by decide) rfl ?_
  refine hV.iconst (v := 1) dL_shuffle_13 (by decide) ?_
  exact hE.1 dL_shuffle_14 rfl rfl (show 0 + mc ≤ 11 by omega) (show 0 + ms ≤ 235 by omega) (zRTi rfl ⟨rfl, h3⟩)
theorem WL_buy_ok {l : Launch} {D : va_G} {base : Nat} {H : zH} {n a o : Nat} {fs : List Value} {p0 : Int32} {dd mc ms : Nat} {r : Int32} {S : zH → Nat → Prop} (q1 : dd ≤ 13) (q2 : mc ≤ 11) (q3 : ms ≤ 235) (hx : H a = some (.inr (4, fs))) (hM : zCt l D base dd yX4_buy w_X4_buy [.ref a, .int p0] H n mc ms (zRT (some (.int r)) S)) (hS : ∀ H1 n1, S H1 n1 → ∃ y, H1 o = lcell y) :
    zCt l D base 14 yL_buy w_L_buy [.ref a, .int p0, .ref o] H n 11 235 (zRT (some (.int 0)) (fun H2 n2 => ∃ H1 y, S H1 n2 ∧ H1 o = lcell y ∧ H2 = zput H1 o (lcell (va_up y 0 r.toInt64)))) := by
  refine zCt.ofH (by decide) (Nat.le_of_ble_eq_true rfl) (fun Sx V X hV hE hXc => ?_)
  show V 0 [(0, .ref a), (1, .int p0), (2, .ref o)] [] H n 0 0
  refine hV.aload_n 2 dL_buy_0 rfl ?_
  refine hV.iconst (v := 0) dL_buy_1 (by decide) ?_
  refine hV.aload_n 0 dL_buy_2 rfl ?_
  refine hV.iload_n 1 dL_buy_3 rfl ?_
  refine hV.callV3 (rest := [.int 0, .ref o]) dL_buy_4 hM my_X4_buy kv_L_31 hx rfl rfl rfl (show dd + 1 ≤ 14 by omega) (show 64 * (dd + 1) ≤ 64 * 14 by omega) (Nat.le_of_ble_eq_true rfl) (show 0 + mc ≤ 11 by omega) (show 0 + ms ≤ 235 by omega) (st2 := [.int r, .int 0, .ref o]) rfl rfl rfl (fun H1 n1 hn hs => ?_)
  obtain ⟨y, hy⟩ := hS _ _ hs
  refine hV.i2l dL_buy_7 rfl ?_
  refine hV.last (j := 0) dL_buy_8 hy ⟨by decide, by decide⟩ (by decide) rfl ?_
  refine hV.goto (tgt := 15) dL_buy_9 (by decide) ?_
  refine hV.iconst (v := 0) dL_buy_15 (by decide) ?_
  exact hE.1 dL_buy_16 rfl rfl (show 0 + mc ≤ 11 by omega) (show 0 + ms ≤ 235 by omega) (zRTi rfl ⟨H1, y, hs, hy, rfl⟩)
theorem WL_buy_x1 {l : Launch} {D : va_G} {base : Nat} {H : zH} {n a o : Nat} {fs : List Value} {p0 : Int32} {dd mc ms : Nat} (q1 : dd ≤ 13) (q2 : mc ≤ 11) (q3 : ms ≤ 235) (hx : H a = some (.inr (4, fs))) (hM : zCt l D base dd yX4_buy w_X4_buy [.ref a, .int p0] H n mc ms (zTX "java/lang/IllegalArgumentException" H n)) :
    zCt l D base 14 yL_buy w_L_buy [.ref a, .int p0, .ref o] H n 11 235 (zRT (some (.int 1)) (fun H2 n2 => H2 = H ∧ n ≤ n2)) := by
  refine zCt.ofH (by decide) (Nat.le_of_ble_eq_true rfl) (fun Sx V X hV hE hXc => ?_)
  show V 0 [(0, .ref a), (1, .int p0), (2, .ref o)] [] H n 0 0
  refine hV.aload_n 2 dL_buy_0 rfl ?_
  refine hV.iconst (v := 0) dL_buy_1 (by decide) ?_
  refine hV.aload_n 0 dL_buy_2 rfl ?_
  refine hV.iload_n 1 dL_buy_3 rfl ?_
  refine hV.callV (rest := [.int 0, .ref o]) dL_buy_4 hM my_X4_buy kv_L_31 hx rfl rfl rfl (show dd + 1 ≤ 14 by omega) (show 64 * (dd + 1) ≤ 64 * 14 by omega) (Nat.le_of_ble_eq_true rfl) (show 0 + mc ≤ 11 by omega) (show 0 + ms ≤ 235 by omega) (fun v H2 n2 hn hp => zTX_v hp) (fun E2 H2 n2 hn hp => ?_)
  obtain ⟨rfl, rfl, h3⟩ := zTX_x hp
  refine hXc (nm := "java/lang/IllegalArgumentException") [] ⟨0, 9, 12, 15⟩ [] rfl (fun z hz => absurd hz (List.not_mem_nil)) (by decide) (by decide) wl_15 wc_15 (fun q => ?_)
  show V 12 [(0, .ref a), (1, .int p0), (2, .ref o)] [.ref q] H2 n2 (0 + mc) (0 + ms)
  refine hV.astore_n (ls2 := [(3, .ref q), (0, .ref a), (1, .int p0), (2, .ref o)]) dL_buy_12 (by decide) rfl ?_
  refine hV.iconst (v := 1) dL_buy_13 (by decide) ?_
  exact hE.1 dL_buy_14 rfl rfl (show 0 + mc ≤ 11 by omega) (show 0 + ms ≤ 235 by omega) (zRTi rfl ⟨rfl, h3⟩)
theorem WL_launch_ok {l : Launch} {D : va_G} {base : Nat} {H : zH} {n a o : Nat} {fs : List Value} {p0 : Int32} {dd mc ms : Nat} {r : Int32} {S : zH → Nat → Prop} (q1 : dd ≤ 13) (q2 : mc ≤ 11) (q3 : ms ≤ 235) (hx : H a = some (.inr (4, fs))) (hM : zCt l D base dd yX4_launch w_X4_launch [.ref a, .int p0] H n mc ms (zRT (some (.int r)) S)) (hS : ∀ H1 n1, S H1 n1 → ∃ y, H1 o = lcell y) :
    zCt l D base 14 yL_launch w_L_launch [.ref a, .int p0, .ref o] H n 11 235 (zRT (some (.int 0)) (fun H2 n2 => ∃ H1 y, S H1 n2 ∧ H1 o = lcell y ∧ H2 = zput H1 o (lcell (va_up y 0 r.toInt64)))) := by
  refine zCt.ofH (by decide) (Nat.le_of_ble_eq_true rfl) (fun Sx V X hV hE hXc => ?_)
  show V 0 [(0, .ref a), (1, .int p0), (2, .ref o)] [] H n 0 0
  refine hV.aload_n 2 dL_launch_0 rfl ?_
  refine hV.iconst (v := 0) dL_launch_1 (by decide) ?_
  refine hV.aload_n 0 dL_launch_2 rfl ?_
  refine hV.iload_n 1 dL_launch_3 rfl ?_
  refine hV.callV3 (rest := [.int 0, .ref o]) dL_launch_4 hM my_X4_launch kv_L_34 hx rfl rfl rfl (show dd + 1 ≤ 14 by omega) (show 64 * (dd + 1) ≤ 64 * 14 by omega) (Nat.le_of_ble_eq_true rfl) (show 0 + mc ≤ 11 by omega) (show 0 + ms ≤ 235 by omega) (st2 := [.int r, .int 0, .ref o]) rfl rfl rfl (fun H1 n1 hn hs => ?_)
  obtain ⟨y, hy⟩ := hS _ _ hs
  refine hV.i2l dL_launch_7 rfl ?_
  refine hV.last (j := 0) dL_launch_8 hy ⟨by decide, by decide⟩ (by decide) rfl ?_
  refine hV.goto (tgt := 18) dL_launch_9 (by decide) ?_
  refine hV.iconst (v := 0) dL_launch_18 (by decide) ?_
  exact hE.1 dL_launch_19 rfl rfl (show 0 + mc ≤ 11 by omega) (show 0 + ms ≤ 235 by omega) (zRTi rfl ⟨H1, y, hs, hy, rfl⟩)
theorem WL_launch_x1 {l : Launch} {D : va_G} {base : Nat} {H : zH} {n a o : Nat} {fs : List Value} {p0 : Int32} {dd mc ms : Nat} (q1 : dd ≤ 13) (q2 : mc ≤ 11) (q3 : ms ≤ 235) (hx : H a = some (.inr (4, fs))) (hM : zCt l D base dd yX4_launch w_X4_launch [.ref a, .int p0] H n mc ms (zTX "java/lang/IndexOutOfBoundsException" H n)) :
    zCt l D base 14 yL_launch w_L_launch [.ref a, .int p0, .ref o] H n 11 235 (zRT (some (.int 1)) (fun H2 n2 => H2 = H ∧ n ≤ n2)) := by
  refine zCt.ofH (by decide) (Nat.le_of_ble_eq_true rfl) (fun Sx V X hV hE hXc => ?_)
  show V 0 [(0, .ref a), (1, .int p0), (2, .ref o)] [] H n 0 0
  refine hV.aload_n 2 dL_launch_0 rfl ?_
  refine hV.iconst (v := 0) dL_launch_1 (by decide) ?_
  refine hV.aload_n 0 dL_launch_2 rfl ?_
  refine hV.iload_n 1 dL_launch_3 rfl ?_
  refine hV.callV (rest := [.int 0, .ref o]) dL_launch_4 hM my_X4_launch kv_L_34 hx rfl rfl rfl (show dd + 1 ≤ 14 by omega) (show 64 * (dd + 1) ≤ 64 * 14 by omega) (Nat.le_of_ble_eq_true rfl) (show 0 + mc ≤ 11 by omega) (show 0 + ms ≤ 235 by omega) (fun v H2 n2 hn hp => zTX_v hp) (fun E2 H2 n2 hn hp => ?_)
  obtain ⟨rfl, rfl, h3⟩ := zTX_x hp
  refine hXc (nm := "java/lang/IndexOutOfBoundsException") [] ⟨0, 9, 12, 13⟩ [⟨0, 9, 15, 37⟩] rfl (fun z hz => absurd hz (List.not_mem_nil)) (by decide) (by decide) wl_13 wc_13 (fun q => ?_)
  show V 12 [(0, .ref a), (1, .int p0), (2, .ref o)] [.ref q] H2 n2 (0 + mc) (0 + ms)
  refine hV.astore_n (ls2 := [(3, .ref q), (0, .ref a), (1, .int p0), (2, .ref o)]) dL_launch_12 (by decide) rfl ?_
  refine hV.iconst (v := 1) dL_launch_13 (by decide) ?_
  exact hE.1 dL_launch_14 rfl rfl (show 0 + mc ≤ 11 by omega) (show 0 + ms ≤ 235 by omega) (zRTi rfl ⟨rfl, h3⟩)
theorem WL_launch_x2 {l : Launch} {D : va_G} {base : Nat} {H : zH} {n a o : Nat} {fs : List Value} {p0 : Int32} {dd mc ms : Nat} (q1 : dd ≤ 13) (q2 : mc ≤ 11) (q3 : ms ≤ 235) (hx : H a = some (.inr (4, fs))) (hM : zCt l D base dd yX4_launch w_X4_launch [.ref a, .int p0] H n mc ms (zTX "java/lang/IllegalStateException" H n)) :
    zCt l D base 14 yL_launch w_L_launch [.ref a, .int p0, .ref o] H n 11 235 (zRT (some (.int 2)) (fun H2 n2 => H2 = H ∧ n ≤ n2)) := by
  refine zCt.ofH (by decide) (Nat.le_of_ble_eq_true rfl) (fun Sx V X hV hE hXc => ?_)
  show V 0 [(0, .ref a), (1, .int p0), (2, .ref o)] [] H n 0 0
  refine hV.aload_n 2 dL_launch_0 rfl ?_
  refine hV.iconst (v := 0) dL_launch_1 (by decide) ?_
  refine hV.aload_n 0 dL_launch_2 rfl ?_
  refine hV.iload_n 1 dL_launch_3 rfl ?_
  refine hV.callV (rest := [.int 0, .ref o]) dL_launch_4 hM my_X4_launch kv_L_34 hx rfl rfl rfl (show dd + 1 ≤ 14 by omega) (show 64 * (dd + 1) ≤ 64 * 14 by omega) (Nat.le_of_ble_eq_true rfl) (show 0 + mc ≤ 11 by omega) (show 0 + ms ≤ 235 by omega) (fun v H2 n2 hn hp => zTX_v hp) (fun E2 H2 n2 hn hp => ?_)
  obtain ⟨rfl, rfl, h3⟩ := zTX_x hp
  refine hXc (nm := "java/lang/IllegalStateException") [⟨0, 9, 12, 13⟩] ⟨0, 9, 15, 37⟩ [] rfl (fun z hz => by rw [List.mem_singleton.mp hz]; exact Or.inr ⟨by decide, "java/lang/IndexOutOfBoundsException", wl_13, by decide⟩) (by decide) (by decide) wl_37 wc_37 (fun q => ?_)
  show V 15 [(0, .ref a), (1, .int p0), (2, .ref o)] [.ref q] H2 n2 (0 + mc) (0 + ms)
  refine hV.astore_n (ls2 := [(3, .ref q), (0, .ref a), (1, .int p0), (2, .ref o)]) dL_launch_15 (by decide) rfl ?_
  refine hV.iconst (v := 2) dL_launch_16 (by decide) ?_
  exact hE.1 dL_launch_17 rfl rfl (show 0 + mc ≤ 11 by omega) (show 0 + ms ≤ 235 by omega) (zRTi rfl ⟨rfl, h3⟩)
theorem WL_play_ok {l : Launch} {D : va_G} {base : Nat} {H : zH} {n a o : Nat} {fs : List Value} {p0 p1 : Int32} {dd mc ms : Nat} {r : Int32} {S : zH → Nat → Prop} (q1 : dd ≤ 13) (q2 : mc ≤ 11) (q3 : ms ≤ 235) (hx : H a = some (.inr (4, fs))) (hM : zCt l D base dd yX4_play w_X4_play [.ref a, .int p0, .int p1] H n mc ms (zRT (some (.int r)) S)) (hS : ∀ H1 n1, S H1 n1 → ∃ y, H1 o = lcell y) :
    zCt l D base 14 yL_play w_L_play [.ref a, .int p0, .int p1, .ref o] H n 11 235 (zRT (some (.int 0)) (fun H2 n2 => ∃ H1 y, S H1 n2 ∧ H1 o = lcell y ∧ H2 = zput H1 o (lcell (va_up y 0 r.toInt64)))) := by
  refine zCt.ofH (by decide) (Nat.le_of_ble_eq_true rfl) (fun Sx V X hV hE hXc => ?_)
  show V 0 [(0, .ref a), (1, .int p0), (2, .int p1), (3, .ref o)] [] H n 0 0
  refine hV.aload_n 3 dL_play_0 rfl ?_
  refine hV.iconst (v := 0) dL_play_1 (by decide) ?_
  refine hV.aload_n 0 dL_play_2 rfl ?_
  refine hV.iload_n 1 dL_play_3 rfl ?_
  refine hV.iload_n 2 dL_play_4 rfl ?_
  refine hV.callV3 (rest := [.int 0, .ref o]) dL_play_5 hM my_X4_play kv_L_39 hx rfl rfl rfl (show dd + 1 ≤ 14 by omega) (show 64 * (dd + 1) ≤ 64 * 14 by omega) (Nat.le_of_ble_eq_true rfl) (show 0 + mc ≤ 11 by omega) (show 0 + ms ≤ 235 by omega) (st2 := [.int r, .int 0, .ref o]) rfl rfl rfl (fun H1 n1 hn hs => ?_)
  obtain ⟨y, hy⟩ := hS _ _ hs
  refine hV.i2l dL_play_8 rfl ?_
  refine hV.last (j := 0) dL_play_9 hy ⟨by decide, by decide⟩ (by decide) rfl ?_
  refine hV.goto (tgt := 21) dL_play_10 (by decide) ?_
  refine hV.iconst (v := 0) dL_play_21 (by decide) ?_
  exact hE.1 dL_play_22 rfl rfl (show 0 + mc ≤ 11 by omega) (show 0 + ms ≤ 235 by omega) (zRTi rfl ⟨H1, y, hs, hy, rfl⟩)
theorem WL_play_x1 {l : Launch} {D : va_G} {base : Nat} {H : zH} {n a o : Nat} {fs : List Value} {p0 p1 : Int32} {dd mc ms : Nat} (q1 : dd ≤ 13) (q2 : mc ≤ 11) (q3 : ms ≤ 235) (hx : H a = some (.inr (4, fs))) (hM : zCt l D base dd yX4_play w_X4_play [.ref a, .int p0, .int p1] H n mc ms (zTX "java/lang/IndexOutOfBoundsException" H n)) :
    zCt l D base 14 yL_play w_L_play [.ref a, .int p0, .int p1, .ref o] H n 11 235 (zRT (some (.int 1)) (fun H2 n2 => H2 = H ∧ n ≤ n2)) := by
  refine zCt.ofH (by decide) (Nat.le_of_ble_eq_true rfl) (fun Sx V X hV hE hXc => ?_)
  show V 0 [(0, .ref a), (1, .int p0), (2, .int p1), (3, .ref o)] [] H n 0 0
  refine hV.aload_n 3 dL_play_0 rfl ?_
  refine hV.iconst (v := 0) dL_play_1 (by decide) ?_
  refine hV.aload_n 0 dL_play_2 rfl ?_
  refine hV.iload_n 1 dL_play_3 rfl ?_
  refine hV.iload_n 2 dL_play_4 rfl ?_
  refine hV.callV (rest := [.int 0, .ref o]) dL_play_5 hM my_X4_play kv_L_39 hx rfl rfl rfl (show dd + 1 ≤ 14 by omega) (show 64 * (dd + 1) ≤ 64 * 14 by omega) (Nat.le_of_ble_eq_true rfl) (show 0 + mc ≤ 11 by omega) (show 0 + ms ≤ 235 by omega) (fun v H2 n2 hn hp => zTX_v hp) (fun E2 H2 n2 hn hp => ?_)
  obtain ⟨rfl, rfl, h3⟩ := zTX_x hp
  refine hXc (nm := "java/lang/IndexOutOfBoundsException") [] ⟨0, 10, 13, 13⟩ [⟨0, 10, 17, 15⟩] rfl (fun z hz => absurd hz (List.not_mem_nil)) (by decide) (by decide) wl_13 wc_13 (fun q => ?_)
  show V 13 [(0, .ref a), (1, .int p0), (2, .int p1), (3, .ref o)] [.ref q] H2 n2 (0 + mc) (0 + ms)
  refine hV.astore (ls2 := [(4, .ref q), (0, .ref a), (1, .int p0), (2, .int p1), (3, .ref o)]) dL_play_13 (by decide) rfl ?_
  refine hV.iconst (v := 1) dL_play_15 (by decide) ?_
  exact hE.1 dL_play_16 rfl rfl (show 0 + mc ≤ 11 by omega) (show 0 + ms ≤ 235 by omega) (zRTi rfl ⟨rfl, h3⟩)
theorem WL_play_x2 {l : Launch} {D : va_G} {base : Nat} {H : zH} {n a o : Nat} {fs : List Value} {p0 p1 : Int32} {dd mc ms : Nat} (q1 : dd ≤ 13) (q2 : mc ≤ 11) (q3 : ms ≤ 235) (hx : H a = some (.inr (4, fs))) (hM : zCt l D base dd yX4_play w_X4_play [.ref a, .int p0, .int p1] H n mc ms (zTX "java/lang/IllegalArgumentException" H n)) :
    zCt l D base 14 yL_play w_L_play [.ref a, .int p0, .int p1, .ref o] H n 11 235 (zRT (some (.int 2)) (fun H2 n2 => H2 = H ∧ n ≤ n2)) := by
  refine zCt.ofH (by decide) (Nat.le_of_ble_eq_true rfl) (fun Sx V X hV hE hXc => ?_)
  show V 0 [(0, .ref a), (1, .int p0), (2, .int p1), (3, .ref o)] [] H n 0 0
  refine hV.aload_n 3 dL_play_0 rfl ?_
  refine hV.iconst (v := 0) dL_play_1 (by decide) ?_
  refine hV.aload_n 0 dL_play_2 rfl ?_
  refine hV.iload_n 1 dL_play_3 rfl ?_
  refine hV.iload_n 2 dL_play_4 rfl ?_
  refine hV.callV (rest := [.int 0, .ref o]) dL_play_5 hM my_X4_play kv_L_39 hx rfl rfl rfl (show dd + 1 ≤ 14 by omega) (show 64 * (dd + 1) ≤ 64 * 14 by omega) (Nat.le_of_ble_eq_true rfl) (show 0 + mc ≤ 11 by omega) (show 0 + ms ≤ 235 by omega) (fun v H2 n2 hn hp => zTX_v hp) (fun E2 H2 n2 hn hp => ?_)
  obtain ⟨rfl, rfl, h3⟩ := zTX_x hp
  refine hXc (nm := "java/lang/IllegalArgumentException") [⟨0, 10, 13, 13⟩] ⟨0, 10, 17, 15⟩ [] rfl (fun z hz => by rw [List.mem_singleton.mp hz]; exact Or.inr ⟨by decide, "java/lang/IndexOutOfBoundsException", wl_13, by decide⟩) (by decide) (by decide) wl_15 wc_15 (fun q => ?_)
  show V 17 [(0, .ref a), (1, .int p0), (2, .int p1), (3, .ref o)] [.ref q] H2 n2 (0 + mc) (0 + ms)
  refine hV.astore (ls2 := [(4, .ref q), (0, .ref a), (1, .int p0), (2, .int p1), (3, .ref o)]) dL_play_17 (by decide) rfl ?_
  refine hV.iconst (v := 2) dL_play_19 (by decide) ?_
  exact hE.1 dL_play_20 rfl rfl (show 0 + mc ≤ 11 by omega) (show 0 + ms ≤ 235 by omega) (zRTi rfl ⟨rfl, h3⟩)
theorem WL_append_ok {l : Launch} {D : va_G} {base : Nat} {H : zH} {n a o : Nat} {fs : List Value} {p0 : Int32} {dd mc ms : Nat} {r : Int32} {S : zH → Nat → Prop} (q1 : dd ≤ 13) (q2 : mc ≤ 11) (q3 : ms ≤ 235) (hx : H a = some (.inr (4, fs))) (hM : zCt l D base dd yX4_append w_X4_append [.ref a, .int p0] H n mc ms (zRT (some (.int r)) S)) (hS : ∀ H1 n1, S H1 n1 → ∃ y, H1 o = lcell y) :
    zCt l D base 14 yL_append w_L_append [.ref a, .int p0, .ref o] H n 11 235 (zRT (some (.int 0)) (fun H2 n2 => ∃ H1 y, S H1 n2 ∧ H1 o = lcell y ∧ H2 = zput H1 o (lcell (va_up y 0 r.toInt64)))) := by
  refine zCt.ofH (by decide) (Nat.le_of_ble_eq_true rfl) (fun Sx V X hV hE hXc => ?_)
  show V 0 [(0, .ref a), (1, .int p0), (2, .ref o)] [] H n 0 0
  refine hV.aload_n 2 dL_append_0 rfl ?_
  refine hV.iconst (v := 0) dL_append_1 (by decide) ?_
  refine hV.aload_n 0 dL_append_2 rfl ?_
  refine hV.iload_n 1 dL_append_3 rfl ?_
  refine hV.callV3 (rest := [.int 0, .ref o]) dL_append_4 hM my_X4_append kv_L_42 hx rfl rfl rfl (show dd + 1 ≤ 14 by omega) (show 64 * (dd + 1) ≤ 64 * 14 by omega) (Nat.le_of_ble_eq_true rfl) (show 0 + mc ≤ 11 by omega) (show 0 + ms ≤ 235 by omega) (st2 := [.int r, .int 0, .ref o]) rfl rfl rfl (fun H1 n1 hn hs => ?_)
  obtain ⟨y, hy⟩ := hS _ _ hs
  refine hV.i2l dL_append_7 rfl ?_
  refine hV.last (j := 0) dL_append_8 hy ⟨by decide, by decide⟩ (by decide) rfl ?_
  refine hV.goto (tgt := 18) dL_append_9 (by decide) ?_
  refine hV.iconst (v := 0) dL_append_18 (by decide) ?_
  exact hE.1 dL_append_19 rfl rfl (show 0 + mc ≤ 11 by omega) (show 0 + ms ≤ 235 by omega) (zRTi rfl ⟨H1, y, hs, hy, rfl⟩)
theorem WL_append_x1 {l : Launch} {D : va_G} {base : Nat} {H : zH} {n a o : Nat} {fs : List Value} {p0 : Int32} {dd mc ms : Nat} (q1 : dd ≤ 13) (q2 : mc ≤ 11) (q3 : ms ≤ 235) (hx : H a = some (.inr (4, fs))) (hM : zCt l D base dd yX4_append w_X4_append [.ref a, .int p0] H n mc ms (zTX "java/lang/IllegalArgumentException" H n)) :
    zCt l D base 14 yL_append w_L_append [.ref a, .int p0, .ref o] H n 11 235 (zRT (some (.int 1)) (fun H2 n2 => H2 = H ∧ n ≤ n2)) := by
  refine zCt.ofH (by decide) (Nat.le_of_ble_eq_true rfl) (fun Sx V X hV hE hXc => ?_)
  show V 0 [(0, .ref a), (1, .int p0), (2, .ref o)] [] H n 0 0
  refine hV.aload_n 2 dL_append_0 rfl ?_
  refine hV.iconst (v := 0) dL_append_1 (by decide) ?_
  refine hV.aload_n 0 dL_append_2 rfl ?_
  refine hV.iload_n 1 dL_append_3 rfl ?_
  refine hV.callV (rest := [.int 0, .ref o]) dL_append_4 hM my_X4_append kv_L_42 hx rfl rfl rfl (show dd + 1 ≤ 14 by omega) (show 64 * (dd + 1) ≤ 64 * 14 by omega) (Nat.le_of_ble_eq_true rfl) (show 0 + mc ≤ 11 by omega) (show 0 + ms ≤ 235 by omega) (fun v H2 n2 hn hp => zTX_v hp) (fun E2 H2 n2 hn hp => ?_)
  obtain ⟨rfl, rfl, h3⟩ := zTX_x hp
  refine hXc (nm := "java/lang/IllegalArgumentException") [] ⟨0, 9, 12, 15⟩ [⟨0, 9, 15, 37⟩] rfl (fun z hz => absurd hz (List.not_mem_nil)) (by decide) (by decide) wl_15 wc_15 (fun q => ?_)
  show V 12 [(0, .ref a), (1, .int p0), (2, .ref o)] [.ref q] H2 n2 (0 + mc) (0 + ms)
  refine hV.astore_n (ls2 := [(3, .ref q), (0, .ref a), (1, .int p0), (2, .ref o)]) dL_append_12 (by decide) rfl ?_
  refine hV.iconst (v := 1) dL_append_13 (by decide) ?_
  exact hE.1 dL_append_14 rfl rfl (show 0 + mc ≤ 11 by omega) (show 0 + ms ≤ 235 by omega) (zRTi rfl ⟨rfl, h3⟩)
theorem WL_append_x2 {l : Launch} {D : va_G} {base : Nat} {H : zH} {n a o : Nat} {fs : List Value} {p0 : Int32} {dd mc ms : Nat} (q1 : dd ≤ 13) (q2 : mc ≤ 11) (q3 : ms ≤ 235) (hx : H a = some (.inr (4, fs))) (hM : zCt l D base dd yX4_append w_X4_append [.ref a, .int p0] H n mc ms (zTX "java/lang/IllegalStateException" H n)) :
    zCt l D base 14 yL_append w_L_append [.ref a, .int p0, .ref o] H n 11 235 (zRT (some (.int 2)) (fun H2 n2 => H2 = H ∧ n ≤ n2)) := by
  refine zCt.ofH (by decide) (Nat.le_of_ble_eq_true rfl) (fun Sx V X hV hE hXc => ?_)
  show V 0 [(0, .ref a), (1, .int p0), (2, .ref o)] [] H n 0 0
  refine hV.aload_n 2 dL_append_0 rfl ?_
  refine hV.iconst (v := 0) dL_append_1 (by decide) ?_
  refine hV.aload_n 0 dL_append_2 rfl ?_
  refine hV.iload_n 1 dL_append_3 rfl ?_
  refine hV.callV (rest := [.int 0, .ref o]) dL_append_4 hM my_X4_append kv_L_42 hx rfl rfl rfl (show dd + 1 ≤ 14 by omega) (show 64 * (dd + 1) ≤ 64 * 14 by omega) (Nat.le_of_ble_eq_true rfl) (show 0 + mc ≤ 11 by omega) (show 0 + ms ≤ 235 by omega) (fun v H2 n2 hn hp => zTX_v hp) (fun E2 H2 n2 hn hp => ?_)
  obtain ⟨rfl, rfl, h3⟩ := zTX_x hp
  refine hXc (nm := "java/lang/IllegalStateException") [⟨0, 9, 12, 15⟩] ⟨0, 9, 15, 37⟩ [] rfl (fun z hz => by rw [List.mem_singleton.mp hz]; exact Or.inr ⟨by decide, "java/lang/IllegalArgumentException", wl_15, by decide⟩) (by decide) (by decide) wl_37 wc_37 (fun q => ?_)
  show V 15 [(0, .ref a), (1, .int p0), (2, .ref o)] [.ref q] H2 n2 (0 + mc) (0 + ms)
  refine hV.astore_n (ls2 := [(3, .ref q), (0, .ref a), (1, .int p0), (2, .ref o)]) dL_append_15 (by decide) rfl ?_
  refine hV.iconst (v := 2) dL_append_16 (by decide) ?_
  exact hE.1 dL_append_17 rfl rfl (show 0 + mc ≤ 11 by omega) (show 0 + ms ≤ 235 by omega) (zRTi rfl ⟨rfl, h3⟩)
theorem WL_work_ok {l : Launch} {D : va_G} {base : Nat} {H : zH} {n a o : Nat} {fs : List Value} {dd mc ms : Nat} {r : Int32} {S : zH → Nat → Prop} (q1 : dd ≤ 13) (q2 : mc ≤ 11) (q3 : ms ≤ 235) (hx : H a = some (.inr (4, fs))) (hM : zCt l D base dd yX4_work w_X4_work [.ref a] H n mc ms (zRT (some (.int r)) S)) (hS : ∀ H1 n1, S H1 n1 → ∃ y, H1 o = lcell y) :
    zCt l D base 14 yL_work w_L_work [.ref a, .ref o] H n 11 235 (zRT (some (.int 0)) (fun H2 n2 => ∃ H1 y, S H1 n2 ∧ H1 o = lcell y ∧ H2 = zput H1 o (lcell (va_up y 0 r.toInt64)))) := by
  refine zCt.ofH (by decide) (Nat.le_of_ble_eq_true rfl) (fun Sx V X hV hE hXc => ?_)
  show V 0 [(0, .ref a), (1, .ref o)] [] H n 0 0
  refine hV.aload_n 1 dL_work_0 rfl ?_
  refine hV.iconst (v := 0) dL_work_1 (by decide) ?_
  refine hV.aload_n 0 dL_work_2 rfl ?_
  refine hV.callV3 (rest := [.int 0, .ref o]) dL_work_3 hM my_X4_work kv_L_45 hx rfl rfl rfl (show dd + 1 ≤ 14 by omega) (show 64 * (dd + 1) ≤ 64 * 14 by omega) (Nat.le_of_ble_eq_true rfl) (show 0 + mc ≤ 11 by omega) (show 0 + ms ≤ 235 by omega) (st2 := [.int r, .int 0, .ref o]) rfl rfl rfl (fun H1 n1 hn hs => ?_)
  obtain ⟨y, hy⟩ := hS _ _ hs
  refine hV.i2l dL_work_6 rfl ?_
  refine hV.last (j := 0) dL_work_7 hy ⟨by decide, by decide⟩ (by decide) rfl ?_
  refine hV.goto (tgt := 14) dL_work_8 (by decide) ?_
  refine hV.iconst (v := 0) dL_work_14 (by decide) ?_
  exact hE.1 dL_work_15 rfl rfl (show 0 + mc ≤ 11 by omega) (show 0 + ms ≤ 235 by omega) (zRTi rfl ⟨H1, y, hs, hy, rfl⟩)
theorem WL_work_x1 {l : Launch} {D : va_G} {base : Nat} {H : zH} {n a o : Nat} {fs : List Value} {dd mc ms : Nat} (q1 : dd ≤ 13) (q2 : mc ≤ 11) (q3 : ms ≤ 235) (hx : H a = some (.inr (4, fs))) (hM : zCt l D base dd yX4_work w_X4_work [.ref a] H n mc ms (zTX "java/lang/IllegalArgumentException" H n)) :
    zCt l D base 14 yL_work w_L_work [.ref a, .ref o] H n 11 235 (zRT (some (.int 1)) (fun H2 n2 => H2 = H ∧ n ≤ n2)) := by
  refine zCt.ofH (by decide) (Nat.le_of_ble_eq_true rfl) (fun Sx V X hV hE hXc => ?_)
  show V 0 [(0, .ref a), (1, .ref o)] [] H n 0 0
  refine hV.aload_n 1 dL_work_0 rfl ?_
  refine hV.iconst (v := 0) dL_work_1 (by decide) ?_
  refine hV.aload_n 0 dL_work_2 rfl ?_
  refine hV.callV (rest := [.int 0, .ref o]) dL_work_3 hM my_X4_work kv_L_45 hx rfl rfl rfl (show dd + 1 ≤ 14 by omega) (show 64 * (dd + 1) ≤ 64 * 14 by omega) (Nat.le_of_ble_eq_true rfl) (show 0 + mc ≤ 11 by omega) (show 0 + ms ≤ 235 by omega) (fun v H2 n2 hn hp => zTX_v hp) (fun E2 H2 n2 hn hp => ?_)
  obtain ⟨rfl, rfl, h3⟩ := zTX_x hp
  refine hXc (nm := "java/lang/IllegalArgumentException") [] ⟨0, 8, 11, 15⟩ [] rfl (fun z hz => absurd hz (List.not_mem_nil)) (by decide) (by decide) wl_15 wc_15 (fun q => ?_)
  show V 11 [(0, .ref a), (1, .ref o)] [.ref q] H2 n2 (0 + mc) (0 + ms)
  refine hV.astore_n (ls2 := [(2, .ref q), (0, .ref a), (1, .ref o)]) dL_work_11 (by decide) rfl ?_
  refine hV.iconst (v := 1) dL_work_12 (by decide) ?_
  exact hE.1 dL_work_13 rfl rfl (show 0 + mc ≤ 11 by omega) (show 0 + ms ≤ 235 by omega) (zRTi rfl ⟨rfl, h3⟩)
theorem WL_undo_ok {l : Launch} {D : va_G} {base : Nat} {H : zH} {n a o : Nat} {fs : List Value} {dd mc ms : Nat} {r : Int32} {S : zH → Nat → Prop} (q1 : dd ≤ 13) (q2 : mc ≤ 11) (q3 : ms ≤ 235) (hx : H a = some (.inr (4, fs))) (hM : zCt l D base dd yX4_undo w_X4_undo [.ref a] H n mc ms (zRT (some (.int r)) S)) (hS : ∀ H1 n1, S H1 n1 → ∃ y, H1 o = lcell y) :
    zCt l D base 14 yL_undo w_L_undo [.ref a, .ref o] H n 11 235 (zRT (some (.int 0)) (fun H2 n2 => ∃ H1 y, S H1 n2 ∧ H1 o = lcell y ∧ H2 = zput H1 o (lcell (va_up y 0 r.toInt64)))) := by
  refine zCt.ofH (by decide) (Nat.le_of_ble_eq_true rfl) (fun Sx V X hV hE hXc => ?_)
  show V 0 [(0, .ref a), (1, .ref o)] [] H n 0 0
  refine hV.aload_n 1 dL_undo_0 rfl ?_
  refine hV.iconst (v := 0) dL_undo_1 (by decide) ?_
  refine hV.aload_n 0 dL_undo_2 rfl ?_
  refine hV.callV3 (rest := [.int 0, .ref o]) dL_undo_3 hM my_X4_undo kv_L_49 hx rfl rfl rfl (show dd + 1 ≤ 14 by omega) (show 64 * (dd + 1) ≤ 64 * 14 by omega) (Nat.le_of_ble_eq_true rfl) (show 0 + mc ≤ 11 by omega) (show 0 + ms ≤ 235 by omega) (st2 := [.int r, .int 0, .ref o]) rfl rfl rfl (fun H1 n1 hn hs => ?_)
  obtain ⟨y, hy⟩ := hS _ _ hs
  refine hV.i2l dL_undo_6 rfl ?_
  refine hV.last (j := 0) dL_undo_7 hy ⟨by decide, by decide⟩ (by decide) rfl ?_
  refine hV.goto (tgt := 14) dL_undo_8 (by decide) ?_
  refine hV.iconst (v := 0) dL_undo_14 (by decide) ?_
  exact hE.1 dL_undo_15 rfl rfl (show 0 + mc ≤ 11 by omega) (show 0 + ms ≤ 235 by omega) (zRTi rfl ⟨H1, y, hs, hy, rfl⟩)
theorem WL_undo_x1 {l : Launch} {D : va_G} {base : Nat} {H : zH} {n a o : Nat} {fs : List Value} {dd mc ms : Nat} (q1 : dd ≤ 13) (q2 : mc ≤ 11) (q3 : ms ≤ 235) (hx : H a = some (.inr (4, fs))) (hM : zCt l D base dd yX4_undo w_X4_undo [.ref a] H n mc ms (zTX "java/lang/IllegalStateException" H n)) :
    zCt l D base 14 yL_undo w_L_undo [.ref a, .ref o] H n 11 235 (zRT (some (.int 1)) (fun H2 n2 => H2 = H ∧ n ≤ n2)) := by
  refine zCt.ofH (by decide) (Nat.le_of_ble_eq_true rfl) (fun Sx V X hV hE hXc => ?_)
  show V 0 [(0, .ref a), (1, .ref o)] [] H n 0 0
  refine hV.aload_n 1 dL_undo_0 rfl ?_
  refine hV.iconst (v := 0) dL_undo_1 (by decide) ?_
  refine hV.aload_n 0 dL_undo_2 rfl ?_
  refine hV.callV (rest := [.int 0, .ref o]) dL_undo_3 hM my_X4_undo kv_L_49 hx rfl rfl rfl (show dd + 1 ≤ 14 by omega) (show 64 * (dd + 1) ≤ 64 * 14 by omega) (Nat.le_of_ble_eq_true rfl) (show 0 + mc ≤ 11 by omega) (show 0 + ms ≤ 235 by omega) (fun v H2 n2 hn hp => zTX_v hp) (fun E2 H2 n2 hn hp => ?_)
  obtain ⟨rfl, rfl, h3⟩ := zTX_x hp
  refine hXc (nm := "java/lang/IllegalStateException") [] ⟨0, 8, 11, 37⟩ [] rfl (fun z hz => absurd hz (List.not_mem_nil)) (by decide) (by decide) wl_37 wc_37 (fun q => ?_)
  show V 11 [(0, .ref a), (1, .ref o)] [.ref q] H2 n2 (0 + mc) (0 + ms)
  refine hV.astore_n (ls2 := [(2, .ref q), (0, .ref a), (1, .ref o)]) dL_undo_11 (by decide) rfl ?_
  refine hV.iconst (v := 1) dL_undo_12 (by decide) ?_
  exact hE.1 dL_undo_13 rfl rfl (show 0 + mc ≤ 11 by omega) (show 0 + ms ≤ 235 by omega) (zRTi rfl ⟨rfl, h3⟩)
theorem WL_restore_ok {l : Launch} {D : va_G} {base : Nat} {H : zH} {n a o : Nat} {fs : List Value} {dd mc ms : Nat} {r : Int32} {S : zH → Nat → Prop} (q1 : dd ≤ 13) (q2 : mc ≤ 11) (q3 : ms ≤ 235) (hx : H a = some (.inr (4, fs))) (hM : zCt l D base dd yX4_restore w_X4_restore [.ref a] H n mc ms (zRT (some (.int r)) S)) (hS : ∀ H1 n1, S H1 n1 → ∃ y, H1 o = lcell y) :
    zCt l D base 14 yL_restore w_L_restore [.ref a, .ref o] H n 11 235 (zRT (some (.int 0)) (fun H2 n2 => ∃ H1 y, S H1 n2 ∧ H1 o = lcell y ∧ H2 = zput H1 o (lcell (va_up y 0 r.toInt64)))) := by
  refine zCt.ofH (by decide) (Nat.le_of_ble_eq_true rfl) (fun Sx V X hV hE hXc => ?_)
  show V 0 [(0, .ref a), (1, .ref o)] [] H n 0 0
  refine hV.aload_n 1 dL_restore_0 rfl ?_
  refine hV.iconst (v := 0) dL_restore_1 (by decide) ?_
  refine hV.aload_n 0 dL_restore_2 rfl ?_
  refine hV.callV3 (rest := [.int 0, .ref o]) dL_restore_3 hM my_X4_restore kv_L_52 hx rfl rfl rfl (show dd + 1 ≤ 14 by omega) (show 64 * (dd + 1) ≤ 64 * 14 by omega) (Nat.le_of_ble_eq_true rfl) (show 0 + mc ≤ 11 by omega) (show 0 + ms ≤ 235 by omega) (st2 := [.int r, .int 0, .ref o]) rfl rfl rfl (fun H1 n1 hn hs => ?_)
  obtain ⟨y, hy⟩ := hS _ _ hs
  refine hV.i2l dL_restore_6 rfl ?_
  refine hV.last (j := 0) dL_restore_7 hy ⟨by decide, by decide⟩ (by decide) rfl ?_
  refine hV.goto (tgt := 14) dL_restore_8 (by decide) ?_
  refine hV.iconst (v := 0) dL_restore_14 (by decide) ?_
  exact hE.1 dL_restore_15 rfl rfl (show 0 + mc ≤ 11 by omega) (show 0 + ms ≤ 235 by omega) (zRTi rfl ⟨H1, y, hs, hy, rfl⟩)
theorem WL_restore_x1 {l : Launch} {D : va_G} {base : Nat} {H : zH} {n a o : Nat} {fs : List Value} {dd mc ms : Nat} (q1 : dd ≤ 13) (q2 : mc ≤ 11) (q3 : ms ≤ 235) (hx : H a = some (.inr (4, fs))) (hM : zCt l D base dd yX4_restore w_X4_restore [.ref a] H n mc ms (zTX "java/lang/IllegalStateException" H n)) :
    zCt l D base 14 yL_restore w_L_restore [.ref a, .ref o] H n 11 235 (zRT (some (.int 1)) (fun H2 n2 => H2 = H ∧ n ≤ n2)) := by
  refine zCt.ofH (by decide) (Nat.le_of_ble_eq_true rfl) (fun Sx V X hV hE hXc => ?_)
  show V 0 [(0, .ref a), (1, .ref o)] [] H n 0 0
  refine hV.aload_n 1 dL_restore_0 rfl ?_
  refine hV.iconst (v := 0) dL_restore_1 (by decide) ?_
  refine hV.aload_n 0 dL_restore_2 rfl ?_
  refine hV.callV (rest := [.int 0, .ref o]) dL_restore_3 hM my_X4_restore kv_L_52 hx rfl rfl rfl (show dd + 1 ≤ 14 by omega) (show 64 * (dd + 1) ≤ 64 * 14 by omega) (Nat.le_of_ble_eq_true rfl) (show 0 + mc ≤ 11 by omega) (show 0 + ms ≤ 235 by omega) (fun v H2 n2 hn hp => zTX_v hp) (fun E2 H2 n2 hn hp => ?_)
  obtain ⟨rfl, rfl, h3⟩ := zTX_x hp
  refine hXc (nm := "java/lang/IllegalStateException") [] ⟨0, 8, 11, 37⟩ [] rfl (fun z hz => absurd hz (List.not_mem_nil)) (by decide) (by decide) wl_37 wc_37 (fun q => ?_)
  show V 11 [(0, .ref a), (1, .ref o)] [.ref q] H2 n2 (0 + mc) (0 + ms)
  refine hV.astore_n (ls2 := [(2, .ref q), (0, .ref a), (1, .ref o)]) dL_restore_11 (by decide) rfl ?_
  refine hV.iconst (v := 1) dL_restore_12 (by decide) ?_
  exact hE.1 dL_restore_13 rfl rfl (show 0 + mc ≤ 11 by omega) (show 0 + ms ≤ 235 by omega) (zRTi rfl ⟨rfl, h3⟩)
theorem WL_pin_ok {l : Launch} {D : va_G} {base : Nat} {H : zH} {n a o : Nat} {fs : List Value} {p0 p1 : Int32} {dd mc ms : Nat} {r : Int32} {S : zH → Nat → Prop} (q1 : dd ≤ 13) (q2 : mc ≤ 11) (q3 : ms ≤ 235) (hx : H a = some (.inr (4, fs))) (hM : zCt l D base dd yX4_pin w_X4_pin [.ref a, .int p0, .int p1] H n mc ms (zRT (some (.int r)) S)) (hS : ∀ H1 n1, S H1 n1 → ∃ y, H1 o = lcell y) :
    zCt l D base 14 yL_pin w_L_pin [.ref a, .int p0, .int p1, .ref o] H n 11 235 (zRT (some (.int 0)) (fun H2 n2 => ∃ H1 y, S H1 n2 ∧ H1 o = lcell y ∧ H2 = zput H1 o (lcell (va_up y 0 r.toInt64)))) := by
  refine zCt.ofH (by decide) (Nat.le_of_ble_eq_true rfl) (fun Sx V X hV hE hXc => ?_)
  show V 0 [(0, .ref a), (1, .int p0), (2, .int p1), (3, .ref o)] [] H n 0 0
  refine hV.aload_n 3 dL_pin_0 rfl ?_
  refine hV.iconst (v := 0) dL_pin_1 (by decide) ?_
  refine hV.aload_n 0 dL_pin_2 rfl ?_
  refine hV.iload_n 1 dL_pin_3 rfl ?_
  refine hV.iload_n 2 dL_pin_4 rfl ?_
  refine hV.callV3 (rest := [.int 0, .ref o]) dL_pin_5 hM my_X4_pin kv_L_55 hx rfl rfl rfl (show dd + 1 ≤ 14 by omega) (show 64 * (dd + 1) ≤ 64 * 14 by omega) (Nat.le_of_ble_eq_true rfl) (show 0 + mc ≤ 11 by omega) (show 0 + ms ≤ 235 by omega) (st2 := [.int r, .int 0, .ref o]) rfl rfl rfl (fun H1 n1 hn hs => ?_)
  obtain ⟨y, hy⟩ := hS _ _ hs
  refine hV.i2l dL_pin_8 rfl ?_
  refine hV.last (j := 0) dL_pin_9 hy ⟨by decide, by decide⟩ (by decide) rfl ?_
  refine hV.goto (tgt := 17) dL_pin_10 (by decide) ?_
  refine hV.iconst (v := 0) dL_pin_17 (by decide) ?_
  exact hE.1 dL_pin_18 rfl rfl (show 0 + mc ≤ 11 by omega) (show 0 + ms ≤ 235 by omega) (zRTi rfl ⟨H1, y, hs, hy, rfl⟩)
theorem WL_pin_x1 {l : Launch} {D : va_G} {base : Nat} {H : zH} {n a o : Nat} {fs : List Value} {p0 p1 : Int32} {dd mc ms : Nat} (q1 : dd ≤ 13) (q2 : mc ≤ 11) (q3 : ms ≤ 235) (hx : H a = some (.inr (4, fs))) (hM : zCt l D base dd yX4_pin w_X4_pin [.ref a, .int p0, .int p1] H n mc ms (zTX "java/lang/IndexOutOfBoundsException" H n)) :
    zCt l D base 14 yL_pin w_L_pin [.ref a, .int p0, .int p1, .ref o] H n 11 235 (zRT (some (.int 1)) (fun H2 n2 => H2 = H ∧ n ≤ n2)) := by
  refine zCt.ofH (by decide) (Nat.le_of_ble_eq_true rfl) (fun Sx V X hV hE hXc => ?_)
  show V 0 [(0, .ref a), (1, .int p0), (2, .int p1), (3, .ref o)] [] H n 0 0
  refine hV.aload_n 3 dL_pin_0 rfl ?_
  refine hV.iconst (v := 0) dL_pin_1 (by decide) ?_
  refine hV.aload_n 0 dL_pin_2 rfl ?_
  refine hV.iload_n 1 dL_pin_3 rfl ?_
  refine hV.iload_n 2 dL_pin_4 rfl ?_
  refine hV.callV (rest := [.int 0, .ref o]) dL_pin_5 hM my_X4_pin kv_L_55 hx rfl rfl rfl (show dd + 1 ≤ 14 by omega) (show 64 * (dd + 1) ≤ 64 * 14 by omega) (Nat.le_of_ble_eq_true rfl) (show 0 + mc ≤ 11 by omega) (show 0 + ms ≤ 235 by omega) (fun v H2 n2 hn hp => zTX_v hp) (fun E2 H2 n2 hn hp => ?_)
  obtain ⟨rfl, rfl, h3⟩ := zTX_x hp
  refine hXc (nm := "java/lang/IndexOutOfBoundsException") [] ⟨0, 10, 13, 13⟩ [] rfl (fun z hz => absurd hz (List.not_mem_nil)) (by decide) (by decide) wl_13 wc_13 (fun q => ?_)
  show V 13 [(0, .ref a), (1, .int p0), (2, .int p1), (3, .ref o)] [.ref q] H2 n2 (0 + mc) (0 + ms)
  refine hV.astore (ls2 := [(4, .ref q), (0, .ref a), (1, .int p0), (2, .int p1), (3, .ref o)]) dL_pin_13 (by decide) rfl ?_
  refine hV.iconst (v := 1) dL_pin_15 (by decide) ?_
  exact hE.1 dL_pin_16 rfl rfl (show 0 + mc ≤ 11 by omega) (show 0 + ms ≤ 235 by omega) (zRTi rfl ⟨rfl, h3⟩)
theorem WL_bent_ok {l : Launch} {D : va_G} {base : Nat} {H : zH} {n a o : Nat} {fs : List Value} {p0 : Int32} {dd mc ms : Nat} {r : Int32} {S : zH → Nat → Prop} (q1 : dd ≤ 13) (q2 : mc ≤ 11) (q3 : ms ≤ 235) (hx : H a = some (.inr (4, fs))) (hM : zCt l D base dd yX4_bent w_X4_bent [.ref a, .int p0] H n mc ms (zRT (some (.int r)) S)) (hS : ∀ H1 n1, S H1 n1 → ∃ y, H1 o = lcell y) :
    zCt l D base 14 yL_bent w_L_bent [.ref a, .int p0, .ref o] H n 11 235 (zRT (some (.int 0)) (fun H2 n2 => ∃ H1 y, S H1 n2 ∧ H1 o = lcell y ∧ H2 = zput H1 o (lcell (va_up y 0 r.toInt64)))) := by
  refine zCt.ofH (by decide) (Nat.le_of_ble_eq_true rfl) (fun Sx V X hV hE hXc => ?_)
  show V 0 [(0, .ref a), (1, .int p0), (2, .ref o)] [] H n 0 0
  refine hV.aload_n 2 dL_bent_0 rfl ?_
  refine hV.iconst (v := 0) dL_bent_1 (by decide) ?_
  refine hV.aload_n 0 dL_bent_2 rfl ?_
  refine hV.iload_n 1 dL_bent_3 rfl ?_
  refine hV.callV3 (rest := [.int 0, .ref o]) dL_bent_4 hM my_X4_bent kv_L_58 hx rfl rfl rfl (show dd + 1 ≤ 14 by omega) (show 64 * (dd + 1) ≤ 64 * 14 by omega) (Nat.le_of_ble_eq_true rfl) (show 0 + mc ≤ 11 by omega) (show 0 + ms ≤ 235 by omega) (st2 := [.int r, .int 0, .ref o]) rfl rfl rfl (fun H1 n1 hn hs => ?_)
  obtain ⟨y, hy⟩ := hS _ _ hs
  refine hV.i2l dL_bent_7 rfl ?_
  refine hV.last (j := 0) dL_bent_8 hy ⟨by decide, by decide⟩ (by decide) rfl ?_
  refine hV.goto (tgt := 15) dL_bent_9 (by decide) ?_
  refine hV.iconst (v := 0) dL_bent_15 (by decide) ?_
  exact hE.1 dL_bent_16 rfl rfl (show 0 + mc ≤ 11 by omega) (show 0 + ms ≤ 235 by omega) (zRTi rfl ⟨H1, y, hs, hy, rfl⟩)
theorem WL_bent_x1 {l : Launch} {D : va_G} {base : Nat} {H : zH} {n a o : Nat} {fs : List Value} {p0 : Int32} {dd mc ms : Nat} (q1 : dd ≤ 13) (q2 : mc ≤ 11) (q3 : ms ≤ 235) (hx : H a = some (.inr (4, fs))) (hM : zCt l D base dd yX4_bent w_X4_bent [.ref a, .int p0] H n mc ms (zTX "java/lang/IllegalArgumentException" H n)) :
    zCt l D base 14 yL_bent w_L_bent [.ref a, .int p0, .ref o] H n 11 235 (zRT (some (.int 1)) (fun H2 n2 => H2 = H ∧ n ≤ n2)) := by
  refine zCt.ofH (by decide) (Nat.le_of_ble_eq_true rfl) (fun Sx V X hV hE hXc => ?_)
  show V 0 [(0, .ref a), (1, .int p0), (2, .ref o)] [] H n 0 0
  refine hV.aload_n 2 dL_bent_0 rfl ?_
  refine hV.iconst (v := 0) dL_bent_1 (by decide) ?_
  refine hV.aload_n 0 dL_bent_2 rfl ?_
  refine hV.iload_n 1 dL_bent_3 rfl ?_
  refine hV.callV (rest := [.int 0, .ref o]) dL_bent_4 hM my_X4_bent kv_L_58 hx rfl rfl rfl (show dd + 1 ≤ 14 by omega) (show 64 * (dd + 1) ≤ 64 * 14 by omega) (Nat.le_of_ble_eq_true rfl) (show 0 + mc ≤ 11 by omega) (show 0 + ms ≤ 235 by omega) (fun v H2 n2 hn hp => zTX_v hp) (fun E2 H2 n2 hn hp => ?_)
  obtain ⟨rfl, rfl, h3⟩ := zTX_x hp
  refine hXc (nm := "java/lang/IllegalArgumentException") [] ⟨0, 9, 12, 15⟩ [] rfl (fun z hz => absurd hz (List.not_mem_nil)) (by decide) (by decide) wl_15 wc_15 (fun q => ?_)
  show V 12 [(0, .ref a), (1, .int p0), (2, .ref o)] [.ref q] H2 n2 (0 + mc) (0 + ms)
  refine hV.astore_n (ls2 := [(3, .ref q), (0, .ref a), (1, .int p0), (2, .ref o)]) dL_bent_12 (by decide) rfl ?_
  refine hV.iconst (v := 1) dL_bent_13 (by decide) ?_
  exact hE.1 dL_bent_14 rfl rfl (show 0 + mc ≤ 11 by omega) (show 0 + ms ≤ 235 by omega) (zRTi rfl ⟨rfl, h3⟩)
theorem WL_touched_ok {l : Launch} {D : va_G} {base : Nat} {H : zH} {n a o : Nat} {fs : List Value} {p0 : Int32} {dd mc ms : Nat} {r : Int32} {S : zH → Nat → Prop} (q1 : dd ≤ 13) (q2 : mc ≤ 11) (q3 : ms ≤ 235) (hx : H a = some (.inr (4, fs))) (hM : zCt l D base dd yX4_touched w_X4_touched [.ref a, .int p0] H n mc ms (zRT (some (.int r)) S)) (hS : ∀ H1 n1, S H1 n1 → ∃ y, H1 o = lcell y) :
    zCt l D base 14 yL_touched w_L_touched [.ref a, .int p0, .ref o] H n 11 235 (zRT (some (.int 0)) (fun H2 n2 => ∃ H1 y, S H1 n2 ∧ H1 o = lcell y ∧ H2 = zput H1 o (lcell (va_up y 0 r.toInt64)))) := by
  refine zCt.ofH (by decide) (Nat.le_of_ble_eq_true rfl) (fun Sx V X hV hE hXc => ?_)
  show V 0 [(0, .ref a), (1, .int p0), (2, .ref o)] [] H n 0 0
  refine hV.aload_n 2 dL_touched_0 rfl ?_
  refine hV.iconst (v := 0) dL_touched_1 (by decide) ?_
  refine hV.aload_n 0 dL_touched_2 rfl ?_
  refine hV.iload_n 1 dL_touched_3 rfl ?_
  refine hV.callV3 (rest := [.int 0, .ref o]) dL_touched_4 hM my_X4_touched kv_L_61 hx rfl rfl rfl (show dd + 1 ≤ 14 by omega) (show 64 * (dd + 1) ≤ 64 * 14 by omega) (Nat.le_of_ble_eq_true rfl) (show 0 + mc ≤ 11 by omega) (show 0 + ms ≤ 235 by omega) (st2 := [.int r, .int 0, .ref o]) rfl rfl rfl (fun H1 n1 hn hs => ?_)
  obtain ⟨y, hy⟩ := hS _ _ hs
  refine hV.i2l dL_touched_7 rfl ?_
  refine hV.last (j := 0) dL_touched_8 hy ⟨by decide, by decide⟩ (by decide) rfl ?_
  refine hV.goto (tgt := 15) dL_touched_9 (by decide) ?_
  refine hV.iconst (v := 0) dL_touched_15 (by decide) ?_
  exact hE.1 dL_touched_16 rfl rfl (show 0 + mc ≤ 11 by omega) (show 0 + ms ≤ 235 by omega) (zRTi rfl ⟨H1, y, hs, hy, rfl⟩)
theorem WL_touched_x1 {l : Launch} {D : va_G} {base : Nat} {H : zH} {n a o : Nat} {fs : List Value} {p0 : Int32} {dd mc ms : Nat} (q1 : dd ≤ 13) (q2 : mc ≤ 11) (q3 : ms ≤ 235) (hx : H a = some (.inr (4, fs))) (hM : zCt l D base dd yX4_touched w_X4_touched [.ref a, .int p0] H n mc ms (zTX "java/lang/IllegalArgumentException" H n)) :
    zCt l D base 14 yL_touched w_L_touched [.ref a, .int p0, .ref o] H n 11 235 (zRT (some (.int 1)) (fun H2 n2 => H2 = H ∧ n ≤ n2)) := by
  refine zCt.ofH (by decide) (Nat.le_of_ble_eq_true rfl) (fun Sx V X hV hE hXc => ?_)
  show V 0 [(0, .ref a), (1, .int p0), (2, .ref o)] [] H n 0 0
  refine hV.aload_n 2 dL_touched_0 rfl ?_
  refine hV.iconst (v := 0) dL_touched_1 (by decide) ?_
  refine hV.aload_n 0 dL_touched_2 rfl ?_
  refine hV.iload_n 1 dL_touched_3 rfl ?_
  refine hV.callV (rest := [.int 0, .ref o]) dL_touched_4 hM my_X4_touched kv_L_61 hx rfl rfl rfl (show dd + 1 ≤ 14 by omega) (show 64 * (dd + 1) ≤ 64 * 14 by omega) (Nat.le_of_ble_eq_true rfl) (show 0 + mc ≤ 11 by omega) (show 0 + ms ≤ 235 by omega) (fun v H2 n2 hn hp => zTX_v hp) (fun E2 H2 n2 hn hp => ?_)
  obtain ⟨rfl, rfl, h3⟩ := zTX_x hp
  refine hXc (nm := "java/lang/IllegalArgumentException") [] ⟨0, 9, 12, 15⟩ [] rfl (fun z hz => absurd hz (List.not_mem_nil)) (by decide) (by decide) wl_15 wc_15 (fun q => ?_)
  show V 12 [(0, .ref a), (1, .int p0), (2, .ref o)] [.ref q] H2 n2 (0 + mc) (0 + ms)
  refine hV.astore_n (ls2 := [(3, .ref q), (0, .ref a), (1, .int p0), (2, .ref o)]) dL_touched_12 (by decide) rfl ?_
  refine hV.iconst (v := 1) dL_touched_13 (by decide) ?_
  exact hE.1 dL_touched_14 rfl rfl (show 0 + mc ≤ 11 by omega) (show 0 + ms ≤ 235 by omega) (zRTi rfl ⟨rfl, h3⟩)
theorem WL_pocketOf_ok {l : Launch} {D : va_G} {base : Nat} {H : zH} {n a o : Nat} {fs : List Value} {p0 p1 : Int32} {dd mc ms : Nat} {r : Int32} {S : zH → Nat → Prop} (q1 : dd ≤ 13) (q2 : mc ≤ 11) (q3 : ms ≤ 235) (hx : H a = some (.inr (4, fs))) (hM : zCt l D base dd yX4_pocketOf w_X4_pocketOf [.ref a, .int p0, .int p1] H n mc ms (zRT (some (.int r)) S)) (hS : ∀ H1 n1, S H1 n1 → ∃ y, H1 o = lcell y) :
    zCt l D base 14 yL_pocketOf w_L_pocketOf [.ref a, .int p0, .int p1, .ref o] H n 11 235 (zRT (some (.int 0)) (fun H2 n2 => ∃ H1 y, S H1 n2 ∧ H1 o = lcell y ∧ H2 = zput H1 o (lcell (va_up y 0 r.toInt64)))) := by
  refine zCt.ofH (by decide) (Nat.le_of_ble_eq_true rfl) (fun Sx V X hV hE hXc => ?_)
  show V 0 [(0, .ref a), (1, .int p0), (2, .int p1), (3, .ref o)] [] H n 0 0
  refine hV.aload_n 3 dL_pocketOf_0 rfl ?_
  refine hV.iconst (v := 0) dL_pocketOf_1 (by decide) ?_
  refine hV.aload_n 0 dL_pocketOf_2 rfl ?_
  refine hV.iload_n 1 dL_pocketOf_3 rfl ?_
  refine hV.iload_n 2 dL_pocketOf_4 rfl ?_
  refine hV.callV3 (rest := [.int 0, .ref o]) dL_pocketOf_5 hM my_X4_pocketOf kv_L_64 hx rfl rfl rfl (show dd + 1 ≤ 14 by omega) (show 64 * (dd + 1) ≤ 64 * 14 by omega) (Nat.le_of_ble_eq_true rfl) (show 0 + mc ≤ 11 by omega) (show 0 + ms ≤ 235 by omega) (st2 := [.int r, .int 0, .ref o]) rfl rfl rfl (fun H1 n1 hn hs => ?_)
  obtain ⟨y, hy⟩ := hS _ _ hs
  refine hV.i2l dL_pocketOf_8 rfl ?_
  refine hV.last (j := 0) dL_pocketOf_9 hy ⟨by decide, by decide⟩ (by decide) rfl ?_
  refine hV.goto (tgt := 21) dL_pocketOf_10 (by decide) ?_
  refine hV.iconst (v := 0) dL_pocketOf_21 (by decide) ?_
  exact hE.1 dL_pocketOf_22 rfl rfl (show 0 + mc ≤ 11 by omega) (show 0 + ms ≤ 235 by omega) (zRTi rfl ⟨H1, y, hs, hy, rfl⟩)
theorem WL_pocketOf_x1 {l : Launch} {D : va_G} {base : Nat} {H : zH} {n a o : Nat} {fs : List Value} {p0 p1 : Int32} {dd mc ms : Nat} (q1 : dd ≤ 13) (q2 : mc ≤ 11) (q3 : ms ≤ 235) (hx : H a = some (.inr (4, fs))) (hM : zCt l D base dd yX4_pocketOf w_X4_pocketOf [.ref a, .int p0, .int p1] H n mc ms (zTX "java/lang/IndexOutOfBoundsException" H n)) :
    zCt l D base 14 yL_pocketOf w_L_pocketOf [.ref a, .int p0, .int p1, .ref o] H n 11 235 (zRT (some (.int 1)) (fun H2 n2 => H2 = H ∧ n ≤ n2)) := by
  refine zCt.ofH (by decide) (Nat.le_of_ble_eq_true rfl) (fun Sx V X hV hE hXc => ?_)
  show V 0 [(0, .ref a), (1, .int p0), (2, .int p1), (3, .ref o)] [] H n 0 0
  refine hV.aload_n 3 dL_pocketOf_0 rfl ?_
  refine hV.iconst (v := 0) dL_pocketOf_1 (by decide) ?_
  refine hV.aload_n 0 dL_pocketOf_2 rfl ?_
  refine hV.iload_n 1 dL_pocketOf_3 rfl ?_
  refine hV.iload_n 2 dL_pocketOf_4 rfl ?_
  refine hV.callV (rest := [.int 0, .ref o]) dL_pocketOf_5 hM my_X4_pocketOf kv_L_64 hx rfl rfl rfl (show dd + 1 ≤ 14 by omega) (show 64 * (dd + 1) ≤ 64 * 14 by omega) (Nat.le_of_ble_eq_true rfl) (show 0 + mc ≤ 11 by omega) (show 0 + ms ≤ 235 by omega) (fun v H2 n2 hn hp => zTX_v hp) (fun E2 H2 n2 hn hp => ?_)
  obtain ⟨rfl, rfl, h3⟩ := zTX_x hp
  refine hXc (nm := "java/lang/IndexOutOfBoundsException") [] ⟨0, 10, 13, 13⟩ [⟨0, 10, 17, 15⟩] rfl (fun z hz => absurd hz (List.not_mem_nil)) (by decide) (by decide) wl_13 wc_13 (fun q => ?_)
  show V 13 [(0, .ref a), (1, .int p0), (2, .int p1), (3, .ref o)] [.ref q] H2 n2 (0 + mc) (0 + ms)
  refine hV.astore (ls2 := [(4, .ref q), (0, .ref a), (1, .int p0), (2, .int p1), (3, .ref o)]) dL_pocketOf_13 (by decide) rfl ?_
  refine hV.iconst (v := 1) dL_pocketOf_15 (by decide) ?_
  exact hE.1 dL_pocketOf_16 rfl rfl (show 0 + mc ≤ 11 by omega) (show 0 + ms ≤ 235 by omega) (zRTi rfl ⟨rfl, h3⟩)
theorem WL_pocketOf_x2 {l : Launch} {D : va_G} {base : Nat} {H : zH} {n a o : Nat} {fs : List Value} {p0 p1 : Int32} {dd mc ms : Nat} (q1 : dd ≤ 13) (q2 : mc ≤ 11) (q3 : ms ≤ 235) (hx : H a = some (.inr (4, fs))) (hM : zCt l D base dd yX4_pocketOf w_X4_pocketOf [.ref a, .int p0, .int p1] H n mc ms (zTX "java/lang/IllegalArgumentException" H n)) :
    zCt l D base 14 yL_pocketOf w_L_pocketOf [.ref a, .int p0, .int p1, .ref o] H n 11 235 (zRT (some (.int 2)) (fun H2 n2 => H2 = H ∧ n ≤ n2)) := by
  refine zCt.ofH (by decide) (Nat.le_of_ble_eq_true rfl) (fun Sx V X hV hE hXc => ?_)
  show V 0 [(0, .ref a), (1, .int p0), (2, .int p1), (3, .ref o)] [] H n 0 0
  refine hV.aload_n 3 dL_pocketOf_0 rfl ?_
  refine hV.iconst (v := 0) dL_pocketOf_1 (by decide) ?_
  refine hV.aload_n 0 dL_pocketOf_2 rfl ?_
  refine hV.iload_n 1 dL_pocketOf_3 rfl ?_
  refine hV.iload_n 2 dL_pocketOf_4 rfl ?_
  refine hV.callV (rest := [.int 0, .ref o]) dL_pocketOf_5 hM my_X4_pocketOf kv_L_64 hx rfl rfl rfl (show dd + 1 ≤ 14 by omega) (show 64 * (dd + 1) ≤ 64 * 14 by omega) (Nat.le_of_ble_eq_true rfl) (show 0 + mc ≤ 11 by omega) (show 0 + ms ≤ 235 by omega) (fun v H2 n2 hn hp => zTX_v hp) (fun E2 H2 n2 hn hp => ?_)
  obtain ⟨rfl, rfl, h3⟩ := zTX_x hp
  refine hXc (nm := "java/lang/IllegalArgumentException") [⟨0, 10, 13, 13⟩] ⟨0, 10, 17, 15⟩ [] rfl (fun z hz => by rw [List.mem_singleton.mp hz]; exact Or.inr ⟨by decide, "java/lang/IndexOutOfBoundsException", wl_13, by decide⟩) (by decide) (by decide) wl_15 wc_15 (fun q => ?_)
  show V 17 [(0, .ref a), (1, .int p0), (2, .int p1), (3, .ref o)] [.ref q] H2 n2 (0 + mc) (0 + ms)
  refine hV.astore (ls2 := [(4, .ref q), (0, .ref a), (1, .int p0), (2, .int p1), (3, .ref o)]) dL_pocketOf_17 (by decide) rfl ?_
  refine hV.iconst (v := 2) dL_pocketOf_19 (by decide) ?_
  exact hE.1 dL_pocketOf_20 rfl rfl (show 0 + mc ≤ 11 by omega) (show 0 + ms ≤ 235 by omega) (zRTi rfl ⟨rfl, h3⟩)
theorem WL_reel_ok {l : Launch} {D : va_G} {base : Nat} {H : zH} {n a o : Nat} {fs : List Value} {p0 : Int32} {dd mc ms : Nat} {r : Int32} {S : zH → Nat → Prop} (q1 : dd ≤ 13) (q2 : mc ≤ 11) (q3 : ms ≤ 235) (hx : H a = some (.inr (4, fs))) (hM : zCt l D base dd yX4_reel w_X4_reel [.ref a, .int p0] H n mc ms (zRT (some (.int r)) S)) (hS : ∀ H1 n1, S H1 n1 → ∃ y, H1 o = lcell y) :
    zCt l D base 14 yL_reel w_L_reel [.ref a, .int p0, .ref o] H n 11 235 (zRT (some (.int 0)) (fun H2 n2 => ∃ H1 y, S H1 n2 ∧ H1 o = lcell y ∧ H2 = zput H1 o (lcell (va_up y 0 r.toInt64)))) := by
  refine zCt.ofH (by decide) (Nat.le_of_ble_eq_true rfl) (fun Sx V X hV hE hXc => ?_)
  show V 0 [(0, .ref a), (1, .int p0), (2, .ref o)] [] H n 0 0
  refine hV.aload_n 2 dL_reel_0 rfl ?_
  refine hV.iconst (v := 0) dL_reel_1 (by decide) ?_
  refine hV.aload_n 0 dL_reel_2 rfl ?_
  refine hV.iload_n 1 dL_reel_3 rfl ?_
  refine hV.callV3 (rest := [.int 0, .ref o]) dL_reel_4 hM my_X4_reel kv_L_67 hx rfl rfl rfl (show dd + 1 ≤ 14 by omega) (show 64 * (dd + 1) ≤ 64 * 14 by omega) (Nat.le_of_ble_eq_true rfl) (show 0 + mc ≤ 11 by omega) (show 0 + ms ≤ 235 by omega) (st2 := [.int r, .int 0, .ref o]) rfl rfl rfl (fun H1 n1 hn hs => ?_)
  obtain ⟨y, hy⟩ := hS _ _ hs
  refine hV.i2l dL_reel_7 rfl ?_
  refine hV.last (j := 0) dL_reel_8 hy ⟨by decide, by decide⟩ (by decide) rfl ?_
  refine hV.goto (tgt := 15) dL_reel_9 (by decide) ?_
  refine hV.iconst (v := 0) dL_reel_15 (by decide) ?_
  exact hE.1 dL_reel_16 rfl rfl (show 0 + mc ≤ 11 by omega) (show 0 + ms ≤ 235 by omega) (zRTi rfl ⟨H1, y, hs, hy, rfl⟩)
theorem WL_reel_x1 {l : Launch} {D : va_G} {base : Nat} {H : zH} {n a o : Nat} {fs : List Value} {p0 : Int32} {dd mc ms : Nat} (q1 : dd ≤ 13) (q2 : mc ≤ 11) (q3 : ms ≤ 235) (hx : H a = some (.inr (4, fs))) (hM : zCt l D base dd yX4_reel w_X4_reel [.ref a, .int p0] H n mc ms (zTX "java/lang/IndexOutOfBoundsException" H n)) :
    zCt l D base 14 yL_reel w_L_reel [.ref a, .int p0, .ref o] H n 11 235 (zRT (some (.int 1)) (fun H2 n2 => H2 = H ∧ n ≤ n2)) := by
  refine zCt.ofH (by decide) (Nat.le_of_ble_eq_true rfl) (fun Sx V X hV hE hXc => ?_)
  show V 0 [(0, .ref a), (1, .int p0), (2, .ref o)] [] H n 0 0
  refine hV.aload_n 2 dL_reel_0 rfl ?_
  refine hV.iconst (v := 0) dL_reel_1 (by decide) ?_
  refine hV.aload_n 0 dL_reel_2 rfl ?_
  refine hV.iload_n 1 dL_reel_3 rfl ?_
  refine hV.callV (rest := [.int 0, .ref o]) dL_reel_4 hM my_X4_reel kv_L_67 hx rfl rfl rfl (show dd + 1 ≤ 14 by omega) (show 64 * (dd + 1) ≤ 64 * 14 by omega) (Nat.le_of_ble_eq_true rfl) (show 0 + mc ≤ 11 by omega) (show 0 + ms ≤ 235 by omega) (fun v H2 n2 hn hp => zTX_v hp) (fun E2 H2 n2 hn hp => ?_)
  obtain ⟨rfl, rfl, h3⟩ := zTX_x hp
  refine hXc (nm := "java/lang/IndexOutOfBoundsException") [] ⟨0, 9, 12, 13⟩ [] rfl (fun z hz => absurd hz (List.not_mem_nil)) (by decide) (by decide) wl_13 wc_13 (fun q => ?_)
  show V 12 [(0, .ref a), (1, .int p0), (2, .ref o)] [.ref q] H2 n2 (0 + mc) (0 + ms)
  refine hV.astore_n (ls2 := [(3, .ref q), (0, .ref a), (1, .int p0), (2, .ref o)]) dL_reel_12 (by decide) rfl ?_
  refine hV.iconst (v := 1) dL_reel_13 (by decide) ?_
  exact hE.1 dL_reel_14 rfl rfl (show 0 + mc ≤ 11 by omega) (show 0 + ms ≤ 235 by omega) (zRTi rfl ⟨rfl, h3⟩)
theorem WL_count_ok {l : Launch} {D : va_G} {base : Nat} {H : zH} {n a o : Nat} {fs : List Value} {p0 : Int32} {dd mc ms : Nat} {r : Int32} {S : zH → Nat → Prop} (q1 : dd ≤ 13) (q2 : mc ≤ 11) (q3 : ms ≤ 235) (hx : H a = some (.inr (4, fs))) (hM : zCt l D base dd yX4_count w_X4_count [.ref a, .int p0] H n mc ms (zRT (some (.int r)) S)) (hS : ∀ H1 n1, S H1 n1 → ∃ y, H1 o = lcell y) :
    zCt l D base 14 yL_count w_L_count [.ref a, .int p0, .ref o] H n 11 235 (zRT (some (.int 0)) (fun H2 n2 => ∃ H1 y, S H1 n2 ∧ H1 o = lcell y ∧ H2 = zput H1 o (lcell (va_up y 0 r.toInt64)))) := by
  refine zCt.ofH (by decide) (Nat.le_of_ble_eq_true rfl) (fun Sx V X hV hE hXc => ?_)
  show V 0 [(0, .ref a), (1, .int p0), (2, .ref o)] [] H n 0 0
  refine hV.aload_n 2 dL_count_0 rfl ?_
  refine hV.iconst (v := 0) dL_count_1 (by decide) ?_
  refine hV.aload_n 0 dL_count_2 rfl ?_
  refine hV.iload_n 1 dL_count_3 rfl ?_
  refine hV.callV3 (rest := [.int 0, .ref o]) dL_count_4 hM my_X4_count kv_L_70 hx rfl rfl rfl (show dd + 1 ≤ 14 by omega) (show 64 * (dd + 1) ≤ 64 * 14 by omega) (Nat.le_of_ble_eq_true rfl) (show 0 + mc ≤ 11 by omega) (show 0 + ms ≤ 235 by omega) (st2 := [.int r, .int 0, .ref o]) rfl rfl rfl (fun H1 n1 hn hs => ?_)
  obtain ⟨y, hy⟩ := hS _ _ hs
  refine hV.i2l dL_count_7 rfl ?_
  refine hV.last (j := 0) dL_count_8 hy ⟨by decide, by decide⟩ (by decide) rfl ?_
  refine hV.goto (tgt := 15) dL_count_9 (by decide) ?_
  refine hV.iconst (v := 0) dL_count_15 (by decide) ?_
  exact hE.1 dL_count_16 rfl rfl (show 0 + mc ≤ 11 by omega) (show 0 + ms ≤ 235 by omega) (zRTi rfl ⟨H1, y, hs, hy, rfl⟩)
theorem WL_count_x1 {l : Launch} {D : va_G} {base : Nat} {H : zH} {n a o : Nat} {fs : List Value} {p0 : Int32} {dd mc ms : Nat} (q1 : dd ≤ 13) (q2 : mc ≤ 11) (q3 : ms ≤ 235) (hx : H a = some (.inr (4, fs))) (hM : zCt l D base dd yX4_count w_X4_count [.ref a, .int p0] H n mc ms (zTX "java/lang/IllegalArgumentException" H n)) :
    zCt l D base 14 yL_count w_L_count [.ref a, .int p0, .ref o] H n 11 235 (zRT (some (.int 1)) (fun H2 n2 => H2 = H ∧ n ≤ n2)) := by
  refine zCt.ofH (by decide) (Nat.le_of_ble_eq_true rfl) (fun Sx V X hV hE hXc => ?_)
  show V 0 [(0, .ref a), (1, .int p0), (2, .ref o)] [] H n 0 0
  refine hV.aload_n 2 dL_count_0 rfl ?_
  refine hV.iconst (v := 0) dL_count_1 (by decide) ?_
  refine hV.aload_n 0 dL_count_2 rfl ?_
  refine hV.iload_n 1 dL_count_3 rfl ?_
  refine hV.callV (rest := [.int 0, .ref o]) dL_count_4 hM my_X4_count kv_L_70 hx rfl rfl rfl (show dd + 1 ≤ 14 by omega) (show 64 * (dd + 1) ≤ 64 * 14 by omega) (Nat.le_of_ble_eq_true rfl) (show 0 + mc ≤ 11 by omega) (show 0 + ms ≤ 235 by omega) (fun v H2 n2 hn hp => zTX_v hp) (fun E2 H2 n2 hn hp => ?_)
  obtain ⟨rfl, rfl, h3⟩ := zTX_x hp
  refine hXc (nm := "java/lang/IllegalArgumentException") [] ⟨0, 9, 12, 15⟩ [] rfl (fun z hz => absurd hz (List.not_mem_nil)) (by decide) (by decide) wl_15 wc_15 (fun q => ?_)
  show V 12 [(0, .ref a), (1, .int p0), (2, .ref o)] [.ref q] H2 n2 (0 + mc) (0 + ms)
  refine hV.astore_n (ls2 := [(3, .ref q), (0, .ref a), (1, .int p0), (2, .ref o)]) dL_count_12 (by decide) rfl ?_
  refine hV.iconst (v := 1) dL_count_13 (by decide) ?_
  exact hE.1 dL_count_14 rfl rfl (show 0 + mc ≤ 11 by omega) (show 0 + ms ≤ 235 by omega) (zRTi rfl ⟨rfl, h3⟩)
theorem WL_ways_ok {l : Launch} {D : va_G} {base : Nat} {H : zH} {n a o : Nat} {fs : List Value} {p0 p1 : Int32} {dd mc ms : Nat} {r : Int32} {S : zH → Nat → Prop} (q1 : dd ≤ 13) (q2 : mc ≤ 11) (q3 : ms ≤ 235) (hx : H a = some (.inr (4, fs))) (hM : zCt l D base dd yX4_ways w_X4_ways [.ref a, .int p0, .int p1] H n mc ms (zRT (some (.int r)) S)) (hS : ∀ H1 n1, S H1 n1 → ∃ y, H1 o = lcell y) :
    zCt l D base 14 yL_ways w_L_ways [.ref a, .int p0, .int p1, .ref o] H n 11 235 (zRT (some (.int 0)) (fun H2 n2 => ∃ H1 y, S H1 n2 ∧ H1 o = lcell y ∧ H2 = zput H1 o (lcell (va_up y 0 r.toInt64)))) := by
  refine zCt.ofH (by decide) (Nat.le_of_ble_eq_true rfl) (fun Sx V X hV hE hXc => ?_)
  show V 0 [(0, .ref a), (1, .int p0), (2, .int p1), (3, .ref o)] [] H n 0 0
  refine hV.aload_n 3 dL_ways_0 rfl ?_
  refine hV.iconst (v := 0) dL_ways_1 (by decide) ?_
  refine hV.aload_n 0 dL_ways_2 rfl ?_
  refine hV.iload_n 1 dL_ways_3 rfl ?_
  refine hV.iload_n 2 dL_ways_4 rfl ?_
  refine hV.callV3 (rest := [.int 0, .ref o]) dL_ways_5 hM my_X4_ways kv_L_73 hx rfl rfl rfl (show dd + 1 ≤ 14 by omega) (show 64 * (dd + 1) ≤ 64 * 14 by omega) (Nat.le_of_ble_eq_true rfl) (show 0 + mc ≤ 11 by omega) (show 0 + ms ≤ 235 by omega) (st2 := [.int r, .int 0, .ref o]) rfl rfl rfl (fun H1 n1 hn hs => ?_)
  obtain ⟨y, hy⟩ := hS _ _ hs
  refine hV.i2l dL_ways_8 rfl ?_
  refine hV.last (j := 0) dL_ways_9 hy ⟨by decide, by decide⟩ (by decide) rfl ?_
  refine hV.goto (tgt := 17) dL_ways_10 (by decide) ?_
  refine hV.iconst (v := 0) dL_ways_17 (by decide) ?_
  exact hE.1 dL_ways_18 rfl rfl (show 0 + mc ≤ 11 by omega) (show 0 + ms ≤ 235 by omega) (zRTi rfl ⟨H1, y, hs, hy, rfl⟩)
theorem WL_ways_x1 {l : Launch} {D : va_G} {base : Nat} {H : zH} {n a o : Nat} {fs : List Value} {p0 p1 : Int32} {dd mc ms : Nat} (q1 : dd ≤ 13) (q2 : mc ≤ 11) (q3 : ms ≤ 235) (hx : H a = some (.inr (4, fs))) (hM : zCt l D base dd yX4_ways w_X4_ways [.ref a, .int p0, .int p1] H n mc ms (zTX "java/lang/IndexOutOfBoundsException" H n)) :
    zCt l D base 14 yL_ways w_L_ways [.ref a, .int p0, .int p1, .ref o] H n 11 235 (zRT (some (.int 1)) (fun H2 n2 => H2 = H ∧ n ≤ n2)) := by
  refine zCt.ofH (by decide) (Nat.le_of_ble_eq_true rfl) (fun Sx V X hV hE hXc => ?_)
  show V 0 [(0, .ref a), (1, .int p0), (2, .int p1), (3, .ref o)] [] H n 0 0
  refine hV.aload_n 3 dL_ways_0 rfl ?_
  refine hV.iconst (v := 0) dL_ways_1 (by decide) ?_
  refine hV.aload_n 0 dL_ways_2 rfl ?_
  refine hV.iload_n 1 dL_ways_3 rfl ?_
  refine hV.iload_n 2 dL_ways_4 rfl ?_
  refine hV.callV (rest := [.int 0, .ref o]) dL_ways_5 hM my_X4_ways kv_L_73 hx rfl rfl rfl (show dd + 1 ≤ 14 by omega) (show 64 * (dd + 1) ≤ 64 * 14 by omega) (Nat.le_of_ble_eq_true rfl) (show 0 + mc ≤ 11 by omega) (show 0 + ms ≤ 235 by omega) (fun v H2 n2 hn hp => zTX_v hp) (fun E2 H2 n2 hn hp => ?_)
  obtain ⟨rfl, rfl, h3⟩ := zTX_x hp
  refine hXc (nm := "java/lang/IndexOutOfBoundsException") [] ⟨0, 10, 13, 13⟩ [] rfl (fun z hz => absurd hz (List.not_mem_nil)) (by decide) (by decide) wl_13 wc_13 (fun q => ?_)
  show V 13 [(0, .ref a), (1, .int p0), (2, .int p1), (3, .ref o)] [.ref q] H2 n2 (0 + mc) (0 + ms)
  refine hV.astore (ls2 := [(4, .ref q), (0, .ref a), (1, .int p0), (2, .int p1), (3, .ref o)]) dL_ways_13 (by decide) rfl ?_
  refine hV.iconst (v := 1) dL_ways_15 (by decide) ?_
  exact hE.1 dL_ways_16 rfl rfl (show 0 + mc ≤ 11 by omega) (show 0 + ms ≤ 235 by omega) (zRTi rfl ⟨rfl, h3⟩)
theorem WL_walked_ok {l : Launch} {D : va_G} {base : Nat} {H : zH} {n a o : Nat} {fs : List Value} {p0 p1 : Int32} {dd mc ms : Nat} {r : Int32} {S : zH → Nat → Prop} (q1 : dd ≤ 13) (q2 : mc ≤ 11) (q3 : ms ≤ 235) (hx : H a = some (.inr (4, fs))) (hM : zCt l D base dd yX4_walked w_X4_walked [.ref a, .int p0, .int p1] H n mc ms (zRT (some (.int r)) S)) (hS : ∀ H1 n1, S H1 n1 → ∃ y, H1 o = lcell y) :
    zCt l D base 14 yL_walked w_L_walked [.ref a, .int p0, .int p1, .ref o] H n 11 235 (zRT (some (.int 0)) (fun H2 n2 => ∃ H1 y, S H1 n2 ∧ H1 o = lcell y ∧ H2 = zput H1 o (lcell (va_up y 0 r.toInt64)))) := by
  refine zCt.ofH (by decide) (Nat.le_of_ble_eq_true rfl) (fun Sx V X hV hE hXc => ?_)
  show V 0 [(0, .ref a), (1, .int p0), (2, .int p1), (3, .ref o)] [] H n 0 0
  refine hV.aload_n 3 dL_walked_0 rfl ?_
  refine hV.iconst (v := 0) dL_walked_1 (by decide) ?_
  refine hV.aload_n 0 dL_walked_2 rfl ?_
  refine hV.iload_n 1 dL_walked_3 rfl ?_
  refine hV.iload_n 2 dL_walked_4 rfl ?_
  refine hV.callV3 (rest := [.int 0, .ref o]) dL_walked_5 hM my_X4_walked kv_L_76 hx rfl rfl rfl (show dd + 1 ≤ 14 by omega) (show 64 * (dd + 1) ≤ 64 * 14 by omega) (Nat.le_of_ble_eq_true rfl) (show 0 + mc ≤ 11 by omega) (show 0 + ms ≤ 235 by omega) (st2 := [.int r, .int 0, .ref o]) rfl rfl rfl (fun H1 n1 hn hs => ?_)
  obtain ⟨y, hy⟩ := hS _ _ hs
  refine hV.i2l dL_walked_8 rfl ?_
  refine hV.last (j := 0) dL_walked_9 hy ⟨by decide, by decide⟩ (by decide) rfl ?_
  refine hV.goto (tgt := 17) dL_walked_10 (by decide) ?_
  refine hV.iconst (v := 0) dL_walked_17 (by decide) ?_
  exact hE.1 dL_walked_18 rfl rfl (show 0 + mc ≤ 11 by omega) (show 0 + ms ≤ 235 by omega) (zRTi rfl ⟨H1, y, hs, hy, rfl⟩)
theorem WL_walked_x1 {l : Launch} {D : va_G} {base : Nat} {H : zH} {n a o : Nat} {fs : List Value} {p0 p1 : Int32} {dd mc ms : Nat} (q1 : dd ≤ 13) (q2 : mc ≤ 11) (q3 : ms ≤ 235) (hx : H a = some (.inr (4, fs))) (hM : zCt l D base dd yX4_walked w_X4_walked [.ref a, .int p0, .int p1] H n mc ms (zTX "java/lang/IndexOutOfBoundsException" H n)) :
    zCt l D base 14 yL_walked w_L_walked [.ref a, .int p0, .int p1, .ref o] H n 11 235 (zRT (some (.int 1)) (fun H2 n2 => H2 = H ∧ n ≤ n2)) := by
  refine zCt.ofH (by decide) (Nat.le_of_ble_eq_true rfl) (fun Sx V X hV hE hXc => ?_)
  show V 0 [(0, .ref a), (1, .int p0), (2, .int p1), (3, .ref o)] [] H n 0 0
  refine hV.aload_n 3 dL_walked_0 rfl ?_
  refine hV.iconst (v := 0) dL_walked_1 (by decide) ?_
  refine hV.aload_n 0 dL_walked_2 rfl ?_
  refine hV.iload_n 1 dL_walked_3 rfl ?_
  refine hV.iload_n 2 dL_walked_4 rfl ?_
  refine hV.callV (rest := [.int 0, .ref o]) dL_walked_5 hM my_X4_walked kv_L_76 hx rfl rfl rfl (show dd + 1 ≤ 14 by omega) (show 64 * (dd + 1) ≤ 64 * 14 by omega) (Nat.le_of_ble_eq_true rfl) (show 0 + mc ≤ 11 by omega) (show 0 + ms ≤ 235 by omega) (fun v H2 n2 hn hp => zTX_v hp) (fun E2 H2 n2 hn hp => ?_)
  obtain ⟨rfl, rfl, h3⟩ := zTX_x hp
  refine hXc (nm := "java/lang/IndexOutOfBoundsException") [] ⟨0, 10, 13, 13⟩ [] rfl (fun z hz => absurd hz (List.not_mem_nil)) (by decide) (by decide) wl_13 wc_13 (fun q => ?_)
  show V 13 [(0, .ref a), (1, .int p0), (2, .int p1), (3, .ref o)] [.ref q] H2 n2 (0 + mc) (0 + ms)
  refine hV.astore (ls2 := [(4, .ref q), (0, .ref a), (1, .int p0), (2, .int p1), (3, .ref o)]) dL_walked_13 (by decide) rfl ?_
  refine hV.iconst (v := 1) dL_walked_15 (by decide) ?_
  exact hE.1 dL_walked_16 rfl rfl (show 0 + mc ≤ 11 by omega) (show 0 + ms ≤ 235 by omega) (zRTi rfl ⟨rfl, h3⟩)
theorem WL_ifLaunched_ok {l : Launch} {D : va_G} {base : Nat} {H : zH} {n a o : Nat} {fs : List Value} {p0 p1 : Int32} {dd mc ms : Nat} {r : Int32} {S : zH → Nat → Prop} (q1 : dd ≤ 13) (q2 : mc ≤ 11) (q3 : ms ≤ 235) (hx : H a = some (.inr (4, fs))) (hM : zCt l D base dd yX4_ifLaunched w_X4_ifLaunched [.ref a, .int p0, .int p1] H n mc ms (zRT (some (.int r)) S)) (hS : ∀ H1 n1, S H1 n1 → ∃ y, H1 o = lcell y) :
    zCt l D base 14 yL_ifLaunched w_L_ifLaunched [.ref a, .int p0, .int p1, .ref o] H n 11 235 (zRT (some (.int 0)) (fun H2 n2 => ∃ H1 y, S H1 n2 ∧ H1 o = lcell y ∧ H2 = zput H1 o (lcell (va_up y 0 r.toInt64)))) := by
  refine zCt.ofH (by decide) (Nat.le_of_ble_eq_true rfl) (fun Sx V X hV hE hXc => ?_)
  show V 0 [(0, .ref a), (1, .int p0), (2, .int p1), (3, .ref o)] [] H n 0 0
  refine hV.aload_n 3 dL_ifLaunched_0 rfl ?_
  refine hV.iconst (v := 0) dL_ifLaunched_1 (by decide) ?_
  refine hV.aload_n 0 dL_ifLaunched_2 rfl ?_
  refine hV.iload_n 1 dL_ifLaunched_3 rfl ?_
  refine hV.iload_n 2 dL_ifLaunched_4 rfl ?_
  refine hV.callV3 (rest := [.int 0, .ref o]) dL_ifLaunched_5 hM my_X4_ifLaunched kv_L_79 hx rfl rfl rfl (show dd + 1 ≤ 14 by omega) (show 64 * (dd + 1) ≤ 64 * 14 by omega) (Nat.le_of_ble_eq_true rfl) (show 0 + mc ≤ 11 by omega) (show 0 + ms ≤ 235 by omega) (st2 := [.int r, .int 0, .ref o]) rfl rfl rfl (fun H1 n1 hn hs => ?_)
  obtain ⟨y, hy⟩ := hS _ _ hs
  refine hV.i2l dL_ifLaunched_8 rfl ?_
  refine hV.last (j := 0) dL_ifLaunched_9 hy ⟨by decide, by decide⟩ (by decide) rfl ?_
  refine hV.goto (tgt := 21) dL_ifLaunched_10 (by decide) ?_
  refine hV.iconst (v := 0) dL_ifLaunched_21 (by decide) ?_
  exact hE.1 dL_ifLaunched_22 rfl rfl (show 0 + mc ≤ 11 by omega) (show 0 + ms ≤ 235 by omega) (zRTi rfl ⟨H1, y, hs, hy, rfl⟩)
theorem WL_ifLaunched_x1 {l : Launch} {D : va_G} {base : Nat} {H : zH} {n a o : Nat} {fs : List Value} {p0 p1 : Int32} {dd mc ms : Nat} (q1 : dd ≤ 13) (q2 : mc ≤ 11) (q3 : ms ≤ 235) (hx : H a = some (.inr (4, fs))) (hM : zCt l D base dd yX4_ifLaunched w_X4_ifLaunched [.ref a, .int p0, .int p1] H n mc ms (zTX "java/lang/IndexOutOfBoundsException" H n)) :
    zCt l D base 14 yL_ifLaunched w_L_ifLaunched [.ref a, .int p0, .int p1, .ref o] H n 11 235 (zRT (some (.int 1)) (fun H2 n2 => H2 = H ∧ n ≤ n2)) := by
  refine zCt.ofH (by decide) (Nat.le_of_ble_eq_true rfl) (fun Sx V X hV hE hXc => ?_)
  show V 0 [(0, .ref a), (1, .int p0), (2, .int p1), (3, .ref o)] [] H n 0 0
  refine hV.aload_n 3 dL_ifLaunched_0 rfl ?_
  refine hV.iconst (v := 0) dL_ifLaunched_1 (by decide) ?_
  refine hV.aload_n 0 dL_ifLaunched_2 rfl ?_
  refine hV.iload_n 1 dL_ifLaunched_3 rfl ?_
  refine hV.iload_n 2 dL_ifLaunched_4 rfl ?_
  refine hV.callV (rest := [.int 0, .ref o]) dL_ifLaunched_5 hM my_X4_ifLaunched kv_L_79 hx rfl rfl rfl (show dd + 1 ≤ 14 by omega) (show 64 * (dd + 1) ≤ 64 * 14 by omega) (Nat.le_of_ble_eq_true rfl) (show 0 + mc ≤ 11 by omega) (show 0 + ms ≤ 235 by omega) (fun v H2 n2 hn hp => zTX_v hp) (fun E2 H2 n2 hn hp => ?_)
  obtain ⟨rfl, rfl, h3⟩ := zTX_x hp
  refine hXc (nm := "java/lang/IndexOutOfBoundsException") [] ⟨0, 10, 13, 13⟩ [⟨0, 10, 17, 15⟩] rfl (fun z hz => absurd hz (List.not_mem_nil)) (by decide) (by decide) wl_13 wc_13 (fun q => ?_)
  show V 13 [(0, .ref a), (1, .int p0), (2, .int p1), (3, .ref o)] [.ref q] H2 n2 (0 + mc) (0 + ms)
  refine hV.astore (ls2 := [(4, .ref q), (0, .ref a), (1, .int p0), (2, .int p1), (3, .ref o)]) dL_ifLaunched_13 (by decide) rfl ?_
  refine hV.iconst (v := 1) dL_ifLaunched_15 (by decide) ?_
  exact hE.1 dL_ifLaunched_16 rfl rfl (show 0 + mc ≤ 11 by omega) (show 0 + ms ≤ 235 by omega) (zRTi rfl ⟨rfl, h3⟩)
theorem WL_ifLaunched_x2 {l : Launch} {D : va_G} {base : Nat} {H : zH} {n a o : Nat} {fs : List Value} {p0 p1 : Int32} {dd mc ms : Nat} (q1 : dd ≤ 13) (q2 : mc ≤ 11) (q3 : ms ≤ 235) (hx : H a = some (.inr (4, fs))) (hM : zCt l D base dd yX4_ifLaunched w_X4_ifLaunched [.ref a, .int p0, .int p1] H n mc ms (zTX "java/lang/IllegalArgumentException" H n)) :
    zCt l D base 14 yL_ifLaunched w_L_ifLaunched [.ref a, .int p0, .int p1, .ref o] H n 11 235 (zRT (some (.int 2)) (fun H2 n2 => H2 = H ∧ n ≤ n2)) := by
  refine zCt.ofH (by decide) (Nat.le_of_ble_eq_true rfl) (fun Sx V X hV hE hXc => ?_)
  show V 0 [(0, .ref a), (1, .int p0), (2, .int p1), (3, .ref o)] [] H n 0 0
  refine hV.aload_n 3 dL_ifLaunched_0 rfl ?_
  refine hV.iconst (v := 0) dL_ifLaunched_1 (by decide) ?_
  refine hV.aload_n 0 dL_ifLaunched_2 rfl ?_
  refine hV.iload_n 1 dL_ifLaunched_3 rfl ?_
  refine hV.iload_n 2 dL_ifLaunched_4 rfl ?_
  refine hV.callV (rest := [.int 0, .ref o]) dL_ifLaunched_5 hM my_X4_ifLaunched kv_L_79 hx rfl rfl rfl (show dd + 1 ≤ 14 by omega) (show 64 * (dd + 1) ≤ 64 * 14 by omega) (Nat.le_of_ble_eq_true rfl) (show 0 + mc ≤ 11 by omega) (show 0 + ms ≤ 235 by omega) (fun v H2 n2 hn hp => zTX_v hp) (fun E2 H2 n2 hn hp => ?_)
  obtain ⟨rfl, rfl, h3⟩ := zTX_x hp
  refine hXc (nm := "java/lang/IllegalArgumentException") [⟨0, 10, 13, 13⟩] ⟨0, 10, 17, 15⟩ [] rfl (fun z hz => by rw [List.mem_singleton.mp hz]; exact Or.inr ⟨by decide, "java/lang/IndexOutOfBoundsException", wl_13, by decide⟩) (by decide) (by decide) wl_15 wc_15 (fun q => ?_)
  show V 17 [(0, .ref a), (1, .int p0), (2, .int p1), (3, .ref o)] [.ref q] H2 n2 (0 + mc) (0 + ms)
  refine hV.astore (ls2 := [(4, .ref q), (0, .ref a), (1, .int p0), (2, .int p1), (3, .ref o)]) dL_ifLaunched_17 (by decide) rfl ?_
  refine hV.iconst (v := 2) dL_ifLaunched_19 (by decide) ?_
  exact hE.1 dL_ifLaunched_20 rfl rfl (show 0 + mc ≤ 11 by omega) (show 0 + ms ≤ 235 by omega) (zRTi rfl ⟨rfl, h3⟩)
theorem WL_untilOpen_ok {l : Launch} {D : va_G} {base : Nat} {H : zH} {n a o : Nat} {fs : List Value} {p0 : Int32} {dd mc ms : Nat} {r : Int32} {S : zH → Nat → Prop} (q1 : dd ≤ 13) (q2 : mc ≤ 11) (q3 : ms ≤ 235) (hx : H a = some (.inr (4, fs))) (hM : zCt l D base dd yX4_untilOpen w_X4_untilOpen [.ref a, .int p0] H n mc ms (zRT (some (.int r)) S)) (hS : ∀ H1 n1, S H1 n1 → ∃ y, H1 o = lcell y) :
    zCt l D base 14 yL_untilOpen w_L_untilOpen [.ref a, .int p0, .ref o] H n 11 235 (zRT (some (.int 0)) (fun H2 n2 => ∃ H1 y, S H1 n2 ∧ H1 o = lcell y ∧ H2 = zput H1 o (lcell (va_up y 0 r.toInt64)))) := by
  refine zCt.ofH (by decide) (Nat.le_of_ble_eq_true rfl) (fun Sx V X hV hE hXc => ?_)
  show V 0 [(0, .ref a), (1, .int p0), (2, .ref o)] [] H n 0 0
  refine hV.aload_n 2 dL_untilOpen_0 rfl ?_
  refine hV.iconst (v := 0) dL_untilOpen_1 (by decide) ?_
  refine hV.aload_n 0 dL_untilOpen_2 rfl ?_
  refine hV.iload_n 1 dL_untilOpen_3 rfl ?_
  refine hV.callV3 (rest := [.int 0, .ref o]) dL_untilOpen_4 hM my_X4_untilOpen kv_L_82 hx rfl rfl rfl (show dd + 1 ≤ 14 by omega) (show 64 * (dd + 1) ≤ 64 * 14 by omega) (Nat.le_of_ble_eq_true rfl) (show 0 + mc ≤ 11 by omega) (show 0 + ms ≤ 235 by omega) (st2 := [.int r, .int 0, .ref o]) rfl rfl rfl (fun H1 n1 hn hs => ?_)
  obtain ⟨y, hy⟩ := hS _ _ hs
  refine hV.i2l dL_untilOpen_7 rfl ?_
  refine hV.last (j := 0) dL_untilOpen_8 hy ⟨by decide, by decide⟩ (by decide) rfl ?_
  refine hV.goto (tgt := 15) dL_untilOpen_9 (by decide) ?_
  refine hV.iconst (v := 0) dL_untilOpen_15 (by decide) ?_
  exact hE.1 dL_untilOpen_16 rfl rfl (show 0 + mc ≤ 11 by omega) (show 0 + ms ≤ 235 by omega) (zRTi rfl ⟨H1, y, hs, hy, rfl⟩)
theorem WL_untilOpen_x1 {l : Launch} {D : va_G} {base : Nat} {H : zH} {n a o : Nat} {fs : List Value} {p0 : Int32} {dd mc ms : Nat} (q1 : dd ≤ 13) (q2 : mc ≤ 11) (q3 : ms ≤ 235) (hx : H a = some (.inr (4, fs))) (hM : zCt l D base dd yX4_untilOpen w_X4_untilOpen [.ref a, .int p0] H n mc ms (zTX "java/lang/IndexOutOfBoundsException" H n)) :
    zCt l D base 14 yL_untilOpen w_L_untilOpen [.ref a, .int p0, .ref o] H n 11 235 (zRT (some (.int 1)) (fun H2 n2 => H2 = H ∧ n ≤ n2)) := by
  refine zCt.ofH (by decide) (Nat.le_of_ble_eq_true rfl) (fun Sx V X hV hE hXc => ?_)
  show V 0 [(0, .ref a), (1, .int p0), (2, .ref o)] [] H n 0 0
  refine hV.aload_n 2 dL_untilOpen_0 rfl ?_
  refine hV.iconst (v := 0) dL_untilOpen_1 (by decide) ?_
  refine hV.aload_n 0 dL_untilOpen_2 rfl ?_
  refine hV.iload_n 1 dL_untilOpen_3 rfl ?_
  refine hV.callV (rest := [.int 0, .ref o]) dL_untilOpen_4 hM my_X4_untilOpen kv_L_82 hx rfl rfl rfl (show dd + 1 ≤ 14 by omega) (show 64 * (dd + 1) ≤ 64 * 14 by omega) (Nat.le_of_ble_eq_true rfl) (show 0 + mc ≤ 11 by omega) (show 0 + ms ≤ 235 by omega) (fun v H2 n2 hn hp => zTX_v hp) (fun E2 H2 n2 hn hp => ?_)
  obtain ⟨rfl, rfl, h3⟩ := zTX_x hp
  refine hXc (nm := "java/lang/IndexOutOfBoundsException") [] ⟨0, 9, 12, 13⟩ [] rfl (fun z hz => absurd hz (List.not_mem_nil)) (by decide) (by decide) wl_13 wc_13 (fun q => ?_)
  show V 12 [(0, .ref a), (1, .int p0), (2, .ref o)] [.ref q] H2 n2 (0 + mc) (0 + ms)
  refine hV.astore_n (ls2 := [(3, .ref q), (0, .ref a), (1, .int p0), (2, .ref o)]) dL_untilOpen_12 (by decide) rfl ?_
  refine hV.iconst (v := 1) dL_untilOpen_13 (by decide) ?_
  exact hE.1 dL_untilOpen_14 rfl rfl (show 0 + mc ≤ 11 by omega) (show 0 + ms ≤ 235 by omega) (zRTi rfl ⟨rfl, h3⟩)
