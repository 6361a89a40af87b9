/-! The law: its wrappers -/
theorem wl_39 : Cond.classLink RL 39 "java/lang/IllegalStateException" ∈ zGA := zga_in 168 (by decide +kernel) (by decide +kernel)
theorem wc_39 : Cond.castable "java/lang/IllegalStateException" "java/lang/IllegalStateException" ∈ zNG := zng_in 170 (by decide +kernel) (by decide +kernel)
theorem wl_15 : Cond.classLink RL 15 "java/lang/IndexOutOfBoundsException" ∈ zGA := zga_in 460 (by decide +kernel) (by decide +kernel)
theorem wc_15 : Cond.castable "java/lang/IndexOutOfBoundsException" "java/lang/IndexOutOfBoundsException" ∈ zNG := zng_in 280 (by decide +kernel) (by decide +kernel)
theorem wl_17 : Cond.classLink RL 17 "java/lang/IllegalArgumentException" ∈ zGA := zga_in 461 (by decide +kernel) (by decide +kernel)
theorem wc_17 : Cond.castable "java/lang/IllegalArgumentException" "java/lang/IllegalArgumentException" ∈ zNG := zng_in 299 (by decide +kernel) (by decide +kernel)
theorem WL_bend_ok {l : Launch} {D : va_G} {base : Nat} {H : zH} {n a : Nat} {fs : List Value} {p0 p1 p2 : Int32} {dd mc ms : Nat} {r : Int32} {S : zH → Nat → Prop} (q1 : dd ≤ 13) (q2 : mc ≤ 11) (q3 : ms ≤ 235) (hx : H a = some (.inr (4, fs))) (hM : zCt l D base dd yX4_bend w_X4_bend [.ref a, .int p0, .int p1, .int p2] H n mc ms (zRT (some (.int r)) S)) :
    zCt l D base 14 yL_bend w_L_bend [.ref a, .int p0, .int p1, .int p2] H n 11 235 (zRT (some (.int r)) S) := by
  refine zCt.ofH (by decide) (Nat.le_of_ble_eq_true rfl) (fun Sx V X hV hE hXc => ?_)
  show V 0 [(0, .ref a), (1, .int p0), (2, .int p1), (3, .int p2)] [] H n 0 0
  refine hV.aload_n 0 dL_bend_0 rfl ?_
  refine hV.iload_n 1 dL_bend_1 rfl ?_
  refine hV.iload_n 2 dL_bend_2 rfl ?_
  refine hV.iload_n 3 dL_bend_3 rfl ?_
  refine hV.callV3 (rest := []) dL_bend_4 hM my_X4_bend kv_L_9 hx rfl rfl rfl (show dd + 1 ≤ 14 by omega) (show 64 * (dd + 1) ≤ 64 * 14 by omega) (Nat.le_of_ble_eq_true rfl) (show 0 + mc ≤ 11 by omega) (show 0 + ms ≤ 235 by omega) (st2 := [.int r]) rfl rfl rfl (fun H1 n1 hn hs => ?_)
  refine hV.istore (ls2 := [(4, .int r), (0, .ref a), (1, .int p0), (2, .int p1), (3, .int p2)]) dL_bend_7 (by decide) rfl ?_
  refine hV.goto (tgt := 22) dL_bend_9 (by decide) ?_
  refine hV.iload 0 dL_bend_22 rfl ?_
  exact hE.1 dL_bend_24 rfl rfl (show 0 + mc ≤ 11 by omega) (show 0 + ms ≤ 235 by omega) (zRTi rfl hs)
theorem WL_bend_x1 {l : Launch} {D : va_G} {base : Nat} {H : zH} {n a : Nat} {fs : List Value} {p0 p1 p2 : Int32} {dd mc ms : Nat} (q1 : dd ≤ 13) (q2 : mc ≤ 11) (q3 : ms ≤ 235) (hx : H a = some (.inr (4, fs))) (hM : zCt l D base dd yX4_bend w_X4_bend [.ref a, .int p0, .int p1, .int p2] H n mc ms (zTX "java/lang/IndexOutOfBoundsException" H n)) :
    zCt l D base 14 yL_bend w_L_bend [.ref a, .int p0, .int p1, .int p2] H n 11 235 (zRT (some (.int (-31))) (fun H2 n2 => H2 = H ∧ n ≤ n2)) := by
  refine zCt.ofH (by decide) (Nat.le_of_ble_eq_true rfl) (fun Sx V X hV hE hXc => ?_)
  show V 0 [(0, .ref a), (1, .int p0), (2, .int p1), (3, .int p2)] [] H n 0 0
  refine hV.aload_n 0 dL_bend_0 rfl ?_
  refine hV.iload_n 1 dL_bend_1 rfl ?_
  refine hV.iload_n 2 dL_bend_2 rfl ?_
  refine hV.iload_n 3 dL_bend_3 rfl ?_
  refine hV.callV (rest := []) dL_bend_4 hM my_X4_bend kv_L_9 hx rfl rfl rfl (show dd + 1 ≤ 14 by omega) (show 64 * (dd + 1) ≤ 64 * 14 by omega) (Nat.le_of_ble_eq_true rfl) (show 0 + mc ≤ 11 by omega) (show 0 + ms ≤ 235 by omega) (fun v H2 n2 hn hp => zTX_v hp) (fun E2 H2 n2 hn hp => ?_)
  obtain ⟨rfl, rfl, h3⟩ := zTX_x hp
  refine hXc (nm := "java/lang/IndexOutOfBoundsException") [] ⟨0, 9, 12, 15⟩ [⟨0, 9, 17, 17⟩] rfl (fun z hz => absurd hz (List.not_mem_nil)) (by decide) (by decide) wl_15 wc_15 (fun q => ?_)
  show V 12 [(0, .ref a), (1, .int p0), (2, .int p1), (3, .int p2)] [.ref q] H2 n2 (0 + mc) (0 + ms)
  refine hV.astore (ls2 := [(5, .ref q), (0, .ref a), (1, .int p0), (2, .int p1), (3, .int p2)]) dL_bend_12 (by decide) rfl ?_
  refine hV.bipush (v := (-31)) dL_bend_14 (by decide) ?_
  exact hE.1 dL_bend_16 rfl rfl (show 0 + mc ≤ 11 by omega) (show 0 + ms ≤ 235 by omega) (zRTi rfl ⟨rfl, h3⟩)
theorem WL_bend_x2 {l : Launch} {D : va_G} {base : Nat} {H : zH} {n a : Nat} {fs : List Value} {p0 p1 p2 : Int32} {dd mc ms : Nat} (q1 : dd ≤ 13) (q2 : mc ≤ 11) (q3 : ms ≤ 235) (hx : H a = some (.inr (4, fs))) (hM : zCt l D base dd yX4_bend w_X4_bend [.ref a, .int p0, .int p1, .int p2] H n mc ms (zTX "java/lang/IllegalArgumentException" H n)) :
    zCt l D base 14 yL_bend w_L_bend [.ref a, .int p0, .int p1, .int p2] H n 11 235 (zRT (some (.int (-32))) (fun H2 n2 => H2 = H ∧ n ≤ n2)) := by
  refine zCt.ofH (by decide) (Nat.le_of_ble_eq_true rfl) (fun Sx V X hV hE hXc => ?_)
  show V 0 [(0, .ref a), (1, .int p0), (2, .int p1), (3, .int p2)] [] H n 0 0
  refine hV.aload_n 0 dL_bend_0 rfl ?_
  refine hV.iload_n 1 dL_bend_1 rfl ?_
  refine hV.iload_n 2 dL_bend_2 rfl ?_
  refine hV.iload_n 3 dL_bend_3 rfl ?_
  refine hV.callV (rest := []) dL_bend_4 hM my_X4_bend kv_L_9 hx rfl rfl rfl (show dd + 1 ≤ 14 by omega) (show 64 * (dd + 1) ≤ 64 * 14 by omega) (Nat.le_of_ble_eq_true rfl) (show 0 + mc ≤ 11 by omega) (show 0 + ms ≤ 235 by omega) (fun v H2 n2 hn hp => zTX_v hp) (fun E2 H2 n2 hn hp => ?_)
  obtain ⟨rfl, rfl, h3⟩ := zTX_x hp
  refine hXc (nm := "java/lang/IllegalArgumentException") [⟨0, 9, 12, 15⟩] ⟨0, 9, 17, 17⟩ [] rfl (fun z hz => by rw [List.mem_singleton.mp hz]; exact Or.inr ⟨by decide, "java/lang/IndexOutOfBoundsException", wl_15, by decide⟩) (by decide) (by decide) wl_17 wc_17 (fun q => ?_)
  show V 17 [(0, .ref a), (1, .int p0), (2, .int p1), (3, .int p2)] [.ref q] H2 n2 (0 + mc) (0 + ms)
  refine hV.astore (ls2 := [(5, .ref q), (0, .ref a), (1, .int p0), (2, .int p1), (3, .int p2)]) dL_bend_17 (by decide) rfl ?_
  refine hV.bipush (v := (-32)) dL_bend_19 (by decide) ?_
  exact hE.1 dL_bend_21 rfl rfl (show 0 + mc ≤ 11 by omega) (show 0 + ms ≤ 235 by omega) (zRTi rfl ⟨rfl, h3⟩)
theorem WL_pocket_ok {l : Launch} {D : va_G} {base : Nat} {H : zH} {n a : Nat} {fs : List Value} {p0 p1 p2 : Int32} {dd mc ms : Nat} {r : Int32} {S : zH → Nat → Prop} (q1 : dd ≤ 13) (q2 : mc ≤ 11) (q3 : ms ≤ 235) (hx : H a = some (.inr (4, fs))) (hM : zCt l D base dd yX4_pocket w_X4_pocket [.ref a, .int p0, .int p1, .int p2] H n mc ms (zRT (some (.int r)) S)) :
    zCt l D base 14 yL_pocket w_L_pocket [.ref a, .int p0, .int p1, .int p2] H n 11 235 (zRT (some (.int r)) S) := by
  refine zCt.ofH (by decide) (Nat.le_of_ble_eq_true rfl) (fun Sx V X hV hE hXc => ?_)
  show V 0 [(0, .ref a), (1, .int p0), (2, .int p1), (3, .int p2)] [] H n 0 0
  refine hV.aload_n 0 dL_pocket_0 rfl ?_
  refine hV.iload_n 1 dL_pocket_1 rfl ?_
  refine hV.iload_n 2 dL_pocket_2 rfl ?_
  refine hV.iload_n 3 dL_pocket_3 rfl ?_
  refine hV.callV3 (rest := []) dL_pocket_4 hM my_X4_pocket kv_L_19 hx rfl rfl rfl (show dd + 1 ≤ 14 by omega) (show 64 * (dd + 1) ≤ 64 * 14 by omega) (Nat.le_of_ble_eq_true rfl) (show 0 + mc ≤ 11 by omega) (show 0 + ms ≤ 235 by omega) (st2 := [.int r]) rfl rfl rfl (fun H1 n1 hn hs => ?_)
  refine hV.istore (ls2 := [(4, .int r), (0, .ref a), (1, .int p0), (2, .int p1), (3, .int p2)]) dL_pocket_7 (by decide) rfl ?_
  refine hV.goto (tgt := 22) dL_pocket_9 (by decide) ?_
  refine hV.iload 0 dL_pocket_22 rfl ?_
  exact hE.1 dL_pocket_24 rfl rfl (show 0 + mc ≤ 11 by omega) (show 0 + ms ≤ 235 by omega) (zRTi rfl hs)
theorem WL_pocket_x1 {l : Launch} {D : va_G} {base : Nat} {H : zH} {n a : Nat} {fs : List Value} {p0 p1 p2 : Int32} {dd mc ms : Nat} (q1 : dd ≤ 13) (q2 : mc ≤ 11) (q3 : ms ≤ 235) (hx : H a = some (.inr (4, fs))) (hM : zCt l D base dd yX4_pocket w_X4_pocket [.ref a, .int p0, .int p1, .int p2] H n mc ms (zTX "java/lang/IndexOutOfBoundsException" H n)) :
    zCt l D base 14 yL_pocket w_L_pocket [.ref a, .int p0, .int p1, .int p2] H n 11 235 (zRT (some (.int (-31))) (fun H2 n2 => H2 = H ∧ n ≤ n2)) := by
  refine zCt.ofH (by decide) (Nat.le_of_ble_eq_true rfl) (fun Sx V X hV hE hXc => ?_)
  show V 0 [(0, .ref a), (1, .int p0), (2, .int p1), (3, .int p2)] [] H n 0 0
  refine hV.aload_n 0 dL_pocket_0 rfl ?_
  refine hV.iload_n 1 dL_pocket_1 rfl ?_
  refine hV.iload_n 2 dL_pocket_2 rfl ?_
  refine hV.iload_n 3 dL_pocket_3 rfl ?_
  refine hV.callV (rest := []) dL_pocket_4 hM my_X4_pocket kv_L_19 hx rfl rfl rfl (show dd + 1 ≤ 14 by omega) (show 64 * (dd + 1) ≤ 64 * 14 by omega) (Nat.le_of_ble_eq_true rfl) (show 0 + mc ≤ 11 by omega) (show 0 + ms ≤ 235 by omega) (fun v H2 n2 hn hp => zTX_v hp) (fun E2 H2 n2 hn hp => ?_)
  obtain ⟨rfl, rfl, h3⟩ := zTX_x hp
  refine hXc (nm := "java/lang/IndexOutOfBoundsException") [] ⟨0, 9, 12, 15⟩ [⟨0, 9, 17, 17⟩] rfl (fun z hz => absurd hz (List.not_mem_nil)) (by decide) (by decide) wl_15 wc_15 (fun q => ?_)
  show V 12 [(0, .ref a), (1, .int p0), (2, .int p1), (3, .int p2)] [.ref q] H2 n2 (0 + mc) (0 + ms)
  refine hV.astore (ls2 := [(5, .ref q), (0, .ref a), (1, .int p0), (2, .int p1), (3, .int p2)]) dL_pocket_12 (by decide) rfl ?_
  refine hV.bipush (v := (-31)) dL_pocket_14 (by decide) ?_
  exact hE.1 dL_pocket_16 rfl rfl (show 0 + mc ≤ 11 by omega) (show 0 + ms ≤ 235 by omega) (zRTi rfl ⟨rfl, h3⟩)
theorem WL_pocket_x2 {l : Launch} {D : va_G} {base : Nat} {H : zH} {n a : Nat} {fs : List Value} {p0 p1 p2 : Int32} {dd mc ms : Nat} (q1 : dd ≤ 13) (q2 : mc ≤ 11) (q3 : ms ≤ 235) (hx : H a = some (.inr (4, fs))) (hM : zCt l D base dd yX4_pocket w_X4_pocket [.ref a, .int p0, .int p1, .int p2] H n mc ms (zTX "java/lang/IllegalArgumentException" H n)) :
    zCt l D base 14 yL_pocket w_L_pocket [.ref a, .int p0, .int p1, .int p2] H n 11 235 (zRT (some (.int (-32))) (fun H2 n2 => H2 = H ∧ n ≤ n2)) := by
  refine zCt.ofH (by decide) (Nat.le_of_ble_eq_true rfl) (fun Sx V X hV hE hXc => ?_)
  show V 0 [(0, .ref a), (1, .int p0), (2, .int p1), (3, .int p2)] [] H n 0 0
  refine hV.aload_n 0 dL_pocket_0 rfl ?_
  refine hV.iload_n 1 dL_pocket_1 rfl ?_
  refine hV.iload_n 2 dL_pocket_2 rfl ?_
  refine hV.iload_n 3 dL_pocket_3 rfl ?_
  refine hV.callV (rest := []) dL_pocket_4 hM my_X4_pocket kv_L_19 hx rfl rfl rfl (show dd + 1 ≤ 14 by omega) (show 64 * (dd + 1) ≤ 64 * 14 by omega) (Nat.le_of_ble_eq_true rfl) (show 0 + mc ≤ 11 by omega) (show 0 + ms ≤ 235 by omega) (fun v H2 n2 hn hp => zTX_v hp) (fun E2 H2 n2 hn hp => ?_)
  obtain ⟨rfl, rfl, h3⟩ := zTX_x hp
  refine hXc (nm := "java/lang/IllegalArgumentException") [⟨0, 9, 12, 15⟩] ⟨0, 9, 17, 17⟩ [] rfl (fun z hz => by rw [List.mem_singleton.mp hz]; exact Or.inr ⟨by decide, "java/lang/IndexOutOfBoundsException", wl_15, by decide⟩) (by decide) (by decide) wl_17 wc_17 (fun q => ?_)
  show V 17 [(0, .ref a), (1, .int p0), (2, .int p1), (3, .int p2)] [.ref q] H2 n2 (0 + mc) (0 + ms)
  refine hV.astore (ls2 := [(5, .ref q), (0, .ref a), (1, .int p0), (2, .int p1), (3, .int p2)]) dL_pocket_17 (by decide) rfl ?_
  refine hV.bipush (v := (-32)) dL_pocket_19 (by decide) ?_
  exact hE.1 dL_pocket_21 rfl rfl (show 0 + mc ≤ 11 by omega) (show 0 + ms ≤ 235 by omega) (zRTi rfl ⟨rfl, h3⟩)
theorem WL_start_ok {l : Launch} {D : va_G} {base : Nat} {H : zH} {n a : Nat} {fs : List Value} {p0 : Int32} {dd mc ms : Nat} {r : Int32} {S : zH → Nat → Prop} (q1 : dd ≤ 13) (q2 : mc ≤ 11) (q3 : ms ≤ 235) (hx : H a = some (.inr (4, fs))) (hM : zCt l D base dd yX4_start w_X4_start [.ref a, .int p0] H n mc ms (zRT (some (.int r)) S)) :
    zCt l D base 14 yL_start w_L_start [.ref a, .int p0] H n 11 235 (zRT (some (.int r)) S) := by
  refine zCt.ofH (by decide) (Nat.le_of_ble_eq_true rfl) (fun Sx V X hV hE hXc => ?_)
  show V 0 [(0, .ref a), (1, .int p0)] [] H n 0 0
  refine hV.aload_n 0 dL_start_0 rfl ?_
  refine hV.iload_n 1 dL_start_1 rfl ?_
  refine hV.callV3 (rest := []) dL_start_2 hM my_X4_start kv_L_22 hx rfl rfl rfl (show dd + 1 ≤ 14 by omega) (show 64 * (dd + 1) ≤ 64 * 14 by omega) (Nat.le_of_ble_eq_true rfl) (show 0 + mc ≤ 11 by omega) (show 0 + ms ≤ 235 by omega) (st2 := [.int r]) rfl rfl rfl (fun H1 n1 hn hs => ?_)
  refine hV.istore_n (ls2 := [(2, .int r), (0, .ref a), (1, .int p0)]) dL_start_5 (by decide) rfl ?_
  refine hV.goto (tgt := 13) dL_start_6 (by decide) ?_
  refine hV.iload_n 0 dL_start_13 rfl ?_
  exact hE.1 dL_start_14 rfl rfl (show 0 + mc ≤ 11 by omega) (show 0 + ms ≤ 235 by omega) (zRTi rfl hs)
theorem WL_start_x1 {l : Launch} {D : va_G} {base : Nat} {H : zH} {n a : Nat} {fs : List Value} {p0 : Int32} {dd mc ms : Nat} (q1 : dd ≤ 13) (q2 : mc ≤ 11) (q3 : ms ≤ 235) (hx : H a = some (.inr (4, fs))) (hM : zCt l D base dd yX4_start w_X4_start [.ref a, .int p0] H n mc ms (zTX "java/lang/IndexOutOfBoundsException" H n)) :
    zCt l D base 14 yL_start w_L_start [.ref a, .int p0] H n 11 235 (zRT (some (.int (-31))) (fun H2 n2 => H2 = H ∧ n ≤ n2)) := by
  refine zCt.ofH (by decide) (Nat.le_of_ble_eq_true rfl) (fun Sx V X hV hE hXc => ?_)
  show V 0 [(0, .ref a), (1, .int p0)] [] H n 0 0
  refine hV.aload_n 0 dL_start_0 rfl ?_
  refine hV.iload_n 1 dL_start_1 rfl ?_
  refine hV.callV (rest := []) dL_start_2 hM my_X4_start kv_L_22 hx rfl rfl rfl (show dd + 1 ≤ 14 by omega) (show 64 * (dd + 1) ≤ 64 * 14 by omega) (Nat.le_of_ble_eq_true rfl) (show 0 + mc ≤ 11 by omega) (show 0 + ms ≤ 235 by omega) (fun v H2 n2 hn hp => zTX_v hp) (fun E2 H2 n2 hn hp => ?_)
  obtain ⟨rfl, rfl, h3⟩ := zTX_x hp
  refine hXc (nm := "java/lang/IndexOutOfBoundsException") [] ⟨0, 6, 9, 15⟩ [] rfl (fun z hz => absurd hz (List.not_mem_nil)) (by decide) (by decide) wl_15 wc_15 (fun q => ?_)
  show V 9 [(0, .ref a), (1, .int p0)] [.ref q] H2 n2 (0 + mc) (0 + ms)
  refine hV.astore_n (ls2 := [(3, .ref q), (0, .ref a), (1, .int p0)]) dL_start_9 (by decide) rfl ?_
  refine hV.bipush (v := (-31)) dL_start_10 (by decide) ?_
  exact hE.1 dL_start_12 rfl rfl (show 0 + mc ≤ 11 by omega) (show 0 + ms ≤ 235 by omega) (zRTi rfl ⟨rfl, h3⟩)
theorem WL_set_ok {l : Launch} {D : va_G} {base : Nat} {H : zH} {n a : Nat} {fs : List Value} {p0 p1 : Int32} {dd mc ms : Nat} {r : Int32} {S : zH → Nat → Prop} (q1 : dd ≤ 13) (q2 : mc ≤ 11) (q3 : ms ≤ 235) (hx : H a = some (.inr (4, fs))) (hM : zCt l D base dd yX4_set w_X4_set [.ref a, .int p0, .int p1] H n mc ms (zRT (some (.int r)) S)) :
    zCt l D base 14 yL_set w_L_set [.ref a, .int p0, .int p1] H n 11 235 (zRT (some (.int r)) S) := by
  refine zCt.ofH (by decide) (Nat.le_of_ble_eq_true rfl) (fun Sx V X hV hE hXc => ?_)
  show V 0 [(0, .ref a), (1, .int p0), (2, .int p1)] [] H n 0 0
  refine hV.aload_n 0 dL_set_0 rfl ?_
  refine hV.iload_n 1 dL_set_1 rfl ?_
  refine hV.iload_n 2 dL_set_2 rfl ?_
  refine hV.callV3 (rest := []) dL_set_3 hM my_X4_set kv_L_26 hx rfl rfl rfl (show dd + 1 ≤ 14 by omega) (show 64 * (dd + 1) ≤ 64 * 14 by omega) (Nat.le_of_ble_eq_true rfl) (show 0 + mc ≤ 11 by omega) (show 0 + ms ≤ 235 by omega) (st2 := [.int r]) rfl rfl rfl (fun H1 n1 hn hs => ?_)
  refine hV.istore_n (ls2 := [(3, .int r), (0, .ref a), (1, .int p0), (2, .int p1)]) dL_set_6 (by decide) rfl ?_
  refine hV.goto (tgt := 20) dL_set_7 (by decide) ?_
  refine hV.iload_n 0 dL_set_20 rfl ?_
  exact hE.1 dL_set_21 rfl rfl (show 0 + mc ≤ 11 by omega) (show 0 + ms ≤ 235 by omega) (zRTi rfl hs)
theorem WL_set_x1 {l : Launch} {D : va_G} {base : Nat} {H : zH} {n a : Nat} {fs : List Value} {p0 p1 : Int32} {dd mc ms : Nat} (q1 : dd ≤ 13) (q2 : mc ≤ 11) (q3 : ms ≤ 235) (hx : H a = some (.inr (4, fs))) (hM : zCt l D base dd yX4_set w_X4_set [.ref a, .int p0, .int p1] H n mc ms (zTX "java/lang/IndexOutOfBoundsException" H n)) :
    zCt l D base 14 yL_set w_L_set [.ref a, .int p0, .int p1] H n 11 235 (zRT (some (.int (-31))) (fun H2 n2 => H2 = H ∧ n ≤ n2)) := by
  refine zCt.ofH (by decide) (Nat.le_of_ble_eq_true rfl) (fun Sx V X hV hE hXc => ?_)
  show V 0 [(0, .ref a), (1, .int p0), (2, .int p1)] [] H n 0 0
  refine hV.aload_n 0 dL_set_0 rfl ?_
  refine hV.iload_n 1 dL_set_1 rfl ?_
  refine hV.iload_n 2 dL_set_2 rfl ?_
  refine hV.callV (rest := []) dL_set_3 hM my_X4_set kv_L_26 hx rfl rfl rfl (show dd + 1 ≤ 14 by omega) (show 64 * (dd + 1) ≤ 64 * 14 by omega) (Nat.le_of_ble_eq_true rfl) (show 0 + mc ≤ 11 by omega) (show 0 + ms ≤ 235 by omega) (fun v H2 n2 hn hp => zTX_v hp) (fun E2 H2 n2 hn hp => ?_)
  obtain ⟨rfl, rfl, h3⟩ := zTX_x hp
  refine hXc (nm := "java/lang/IndexOutOfBoundsException") [] ⟨0, 7, 10, 15⟩ [⟨0, 7, 15, 17⟩] rfl (fun z hz => absurd hz (List.not_mem_nil)) (by decide) (by decide) wl_15 wc_15 (fun q => ?_)
  show V 10 [(0, .ref a), (1, .int p0), (2, .int p1)] [.ref q] H2 n2 (0 + mc) (0 + ms)
  refine hV.astore (ls2 := [(4, .ref q), (0, .ref a), (1, .int p0), (2, .int p1)]) dL_set_10 (by decide) rfl ?_
  refine hV.bipush (v := (-31)) dL_set_12 (by decide) ?_
  exact hE.1 dL_set_14 rfl rfl (show 0 + mc ≤ 11 by omega) (show 0 + ms ≤ 235 by omega) (zRTi rfl ⟨rfl, h3⟩)
theorem WL_set_x2 {l : Launch} {D : va_G} {base : Nat} {H : zH} {n a : Nat} {fs : List Value} {p0 p1 : Int32} {dd mc ms : Nat} (q1 : dd ≤ 13) (q2 : mc ≤ 11) (q3 : ms ≤ 235) (hx : H a = some (.inr (4, fs))) (hM : zCt l D base dd yX4_set w_X4_set [.ref a, .int p0, .int p1] H n mc ms (zTX "java/lang/IllegalArgumentException" H n)) :
    zCt l D base 14 yL_set w_L_set [.ref a, .int p0, .int p1] H n 11 235 (zRT (some (.int (-32))) (fun H2 n2 => H2 = H ∧ n ≤ n2)) := by
  refine zCt.ofH (by decide) (Nat.le_of_ble_eq_true rfl) (fun Sx V X hV hE hXc => ?_)
  show V 0 [(0, .ref a), (1, .int p0), (2, .int p1)] [] H n 0 0
  refine hV.aload_n 0 dL_set_0 rfl ?_
  refine hV.iload_n 1 dL_set_1 rfl ?_
  refine hV.iload_n 2 dL_set_2 rfl ?_
  refine hV.callV (rest := []) dL_set_3 hM my_X4_set kv_L_26 hx rfl rfl rfl (show dd + 1 ≤ 14 by omega) (show 64 * (dd + 1) ≤ 64 * 14 by omega) (Nat.le_of_ble_eq_true rfl) (show 0 + mc ≤ 11 by omega) (show 0 + ms ≤ 235 by omega) (fun v H2 n2 hn hp => zTX_v hp) (fun E2 H2 n2 hn hp => ?_)
  obtain ⟨rfl, rfl, h3⟩ := zTX_x hp
  refine hXc (nm := "java/lang/IllegalArgumentException") [⟨0, 7, 10, 15⟩] ⟨0, 7, 15, 17⟩ [] rfl (fun z hz => by rw [List.mem_singleton.mp hz]; exact Or.inr ⟨by decide, "java/lang/IndexOutOfBoundsException", wl_15, by decide⟩) (by decide) (by decide) wl_17 wc_17 (fun q => ?_)
  show V 15 [(0, .ref a), (1, .int p0), (2, .int p1)] [.ref q] H2 n2 (0 + mc) (0 + ms)
  refine hV.astore (ls2 := [(4, .ref q), (0, .ref a), (1, .int p0), (2, .int p1)]) dL_set_15 (by decide) rfl ?_
  refine hV.bipush (v := (-32)) dL_set_17 (by decide) ?_
  exact hE.1 dL_set_19 rfl rfl (show 0 + mc ≤ 11 by omega) (show 0 + ms ≤ 235 by omega) (zRTi rfl ⟨rfl, h3⟩)
theorem WL_shuffle_ok {l : Launch} {D : va_G} {base : Nat} {H : zH} {n a : Nat} {fs : List Value} {p0 : Int32} {dd mc ms : Nat} {r : Int32} {S : zH → Nat → Prop} (q1 : dd ≤ 13) (q2 : mc ≤ 11) (q3 : ms ≤ 235) (hx : H a = some (.inr (4, fs))) (hM : zCt l D base dd yX4_shuffle w_X4_shuffle [.ref a, .int p0] H n mc ms (zRT (some (.int r)) S)) :
    zCt l D base 14 yL_shuffle w_L_shuffle [.ref a, .int p0] H n 11 235 (zRT (some (.int r)) S) := by
  refine zCt.ofH (by decide) (Nat.le_of_ble_eq_true rfl) (fun Sx V X hV hE hXc => ?_)
  show V 0 [(0, .ref a), (1, .int p0)] [] H n 0 0
  refine hV.aload_n 0 dL_shuffle_0 rfl ?_
  refine hV.iload_n 1 dL_shuffle_1 rfl ?_
  refine hV.callV3 (rest := []) dL_shuffle_2 hM my_X4_shuffle kv_L_30 hx rfl rfl rfl (show dd + 1 ≤ 14 by omega) (show 64 * (dd + 1) ≤ 64 * 14 by omega) (Nat.le_of_ble_eq_true rfl) (show 0 + mc ≤ 11 by omega) (show 0 + ms ≤ 235 by omega) (st2 := [.int r]) rfl rfl rfl (fun H1 n1 hn hs => ?_)
  refine hV.istore_n (ls2 := [(2, .int r), (0, .ref a), (1, .int p0)]) dL_shuffle_5 (by decide) rfl ?_
  refine hV.goto (tgt := 13) dL_shuffle_6 (by decide) ?_
  refine hV.iload_n 0 dL_shuffle_13 rfl ?_
  exact hE.1 dL_shuffle_14 rfl rfl (show 0 + mc ≤ 11 by omega) (show 0 + ms ≤ 235 by omega) (zRTi rfl hs)
theorem WL_shuffle_x1 {l : Launch} {D : va_G} {base : Nat} {H : zH} {n a : Nat} {fs : List Value} {p0 : Int32} {dd mc ms : Nat} (q1 : dd ≤ 13) (q2 : mc ≤ 11) (q3 : ms ≤ 235) (hx : H a = some (.inr (4, fs))) (hM : zCt l D base dd yX4_shuffle w_X4_shuffle [.ref a, .int p0] H n mc ms (zTX "java/lang/IllegalArgumentException" H n)) :
    zCt l D base 14 yL_shuffle w_L_shuffle [.ref a, .int p0] H n 11 235 (zRT (some (.int (-32))) (fun H2 n2 => H2 = H ∧ n ≤ n2)) := by
  refine zCt.ofH (by decide) (Nat.le_of_ble_eq_true rfl) (fun Sx V X hV hE hXc => ?_)
  show V 0 [(0, .ref a), (1, .int p0)] [] H n 0 0
  refine hV.aload_n 0 dL_shuffle_0 rfl ?_
  refine hV.iload_n 1 dL_shuffle_1 rfl ?_
  refine hV.callV (rest := []) dL_shuffle_2 hM my_X4_shuffle kv_L_30 hx rfl rfl rfl (show dd + 1 ≤ 14 by omega) (show 64 * (dd + 1) ≤ 64 * 14 by omega) (Nat.le_of_ble_eq_true rfl) (show 0 + mc ≤ 11 by omega) (show 0 + ms ≤ 235 by omega) (fun v H2 n2 hn hp => zTX_v hp) (fun E2 H2 n2 hn hp => ?_)
  obtain ⟨rfl, rfl, h3⟩ := zTX_x hp
  refine hXc (nm := "java/lang/IllegalArgumentException") [] ⟨0, 6, 9, 17⟩ [] rfl (fun z hz => absurd hz (List.not_mem_nil)) (by decide) (by decide) wl_17 wc_17 (fun q => ?_)
  show V 9 [(0, .ref a), (1, .int p0)] [.ref q] H2 n2 (0 + mc) (0 + ms)
  refine hV.astore_n (ls2 := [(3, .ref q), (0, .ref a), (1, .int p0)]) dL_shuffle_9 (by decide) rfl ?_
  refine hV.bipush (v := (-32)) dL_shuffle_10 (by decide) ?_
  exact hE.1 dL_shuffle_12 rfl rfl (show 0 + mc ≤ 11 by omega) (show 0 + ms ≤ 235 by omega) (zRTi rfl ⟨rfl, h3⟩)
theorem WL_buy_ok {l : Launch} {D : va_G} {base : Nat} {H : zH} {n a : Nat} {fs : List Value} {p0 : Int32} {dd mc ms : Nat} {r : Int32} {S : zH → Nat → Prop} (q1 : dd ≤ 13) (q2 : mc ≤ 11) (q3 : ms ≤ 235) (hx : H a = some (.inr (4, fs))) (hM : zCt l D base dd yX4_buy w_X4_buy [.ref a, .int p0] H n mc ms (zRT (some (.int r)) S)) :
    zCt l D base 14 yL_buy w_L_buy [.ref a, .int p0] H n 11 235 (zRT (some (.int r)) S) := by
  refine zCt.ofH (by decide) (Nat.le_of_ble_eq_true rfl) (fun Sx V X hV hE hXc => ?_)
  show V 0 [(0, .ref a), (1, .int p0)] [] H n 0 0
  refine hV.aload_n 0 dL_buy_0 rfl ?_
  refine hV.iload_n 1 dL_buy_1 rfl ?_
  refine hV.callV3 (rest := []) dL_buy_2 hM my_X4_buy kv_L_33 hx rfl rfl rfl (show dd + 1 ≤ 14 by omega) (show 64 * (dd + 1) ≤ 64 * 14 by omega) (Nat.le_of_ble_eq_true rfl) (show 0 + mc ≤ 11 by omega) (show 0 + ms ≤ 235 by omega) (st2 := [.int r]) rfl rfl rfl (fun H1 n1 hn hs => ?_)
  refine hV.istore_n (ls2 := [(2, .int r), (0, .ref a), (1, .int p0)]) dL_buy_5 (by decide) rfl ?_
  refine hV.goto (tgt := 13) dL_buy_6 (by decide) ?_
  refine hV.iload_n 0 dL_buy_13 rfl ?_
  exact hE.1 dL_buy_14 rfl rfl (show 0 + mc ≤ 11 by omega) (show 0 + ms ≤ 235 by omega) (zRTi rfl hs)
theorem WL_buy_x1 {l : Launch} {D : va_G} {base : Nat} {H : zH} {n a : Nat} {fs : List Value} {p0 : Int32} {dd mc ms : Nat} (q1 : dd ≤ 13) (q2 : mc ≤ 11) (q3 : ms ≤ 235) (hx : H a = some (.inr (4, fs))) (hM : zCt l D base dd yX4_buy w_X4_buy [.ref a, .int p0] H n mc ms (zTX "java/lang/IllegalArgumentException" H n)) :
    zCt l D base 14 yL_buy w_L_buy [.ref a, .int p0] H n 11 235 (zRT (some (.int (-32))) (fun H2 n2 => H2 = H ∧ n ≤ n2)) := by
  refine zCt.ofH (by decide) (Nat.le_of_ble_eq_true rfl) (fun Sx V X hV hE hXc => ?_)
  show V 0 [(0, .ref a), (1, .int p0)] [] H n 0 0
  refine hV.aload_n 0 dL_buy_0 rfl ?_
  refine hV.iload_n 1 dL_buy_1 rfl ?_
  refine hV.callV (rest := []) dL_buy_2 hM my_X4_buy kv_L_33 hx rfl rfl rfl (show dd + 1 ≤ 14 by omega) (show 64 * (dd + 1) ≤ 64 * 14 by omega) (Nat.le_of_ble_eq_true rfl) (show 0 + mc ≤ 11 by omega) (show 0 + ms ≤ 235 by omega) (fun v H2 n2 hn hp => zTX_v hp) (fun E2 H2 n2 hn hp => ?_)
  obtain ⟨rfl, rfl, h3⟩ := zTX_x hp
  refine hXc (nm := "java/lang/IllegalArgumentException") [] ⟨0, 6, 9, 17⟩ [] rfl (fun z hz => absurd hz (List.not_mem_nil)) (by decide) (by decide) wl_17 wc_17 (fun q => ?_)
  show V 9 [(0, .ref a), (1, .int p0)] [.ref q] H2 n2 (0 + mc) (0 + ms)
  refine hV.astore_n (ls2 := [(3, .ref q), (0, .ref a), (1, .int p0)]) dL_buy_9 (by decide) rfl ?_
  refine hV.bipush (v := (-32)) dL_buy_10 (by decide) ?_
  exact hE.1 dL_buy_12 rfl rfl (show 0 + mc ≤ 11 by omega) (show 0 + ms ≤ 235 by omega) (zRTi rfl ⟨rfl, h3⟩)
theorem WL_launch_ok {l : Launch} {D : va_G} {base : Nat} {H : zH} {n a : Nat} {fs : List Value} {p0 : Int32} {dd mc ms : Nat} {r : Int32} {S : zH → Nat → Prop} (q1 : dd ≤ 13) (q2 : mc ≤ 11) (q3 : ms ≤ 235) (hx : H a = some (.inr (4, fs))) (hM : zCt l D base dd yX4_launch w_X4_launch [.ref a, .int p0] H n mc ms (zRT (some (.int r)) S)) :
    zCt l D base 14 yL_launch w_L_launch [.ref a, .int p0] H n 11 235 (zRT (some (.int r)) S) := by
  refine zCt.ofH (by decide) (Nat.le_of_ble_eq_true rfl) (fun Sx V X hV hE hXc => ?_)
  show V 0 [(0, .ref a), (1, .int p0)] [] H n 0 0
  refine hV.aload_n 0 dL_launch_0 rfl ?_
  refine hV.iload_n 1 dL_launch_1 rfl ?_
  refine hV.callV3 (rest := []) dL_launch_2 hM my_X4_launch kv_L_36 hx rfl rfl rfl (show dd + 1 ≤ 14 by omega) (show 64 * (dd + 1) ≤ 64 * 14 by omega) (Nat.le_of_ble_eq_true rfl) (show 0 + mc ≤ 11 by omega) (show 0 + ms ≤ 235 by omega) (st2 := [.int r]) rfl rfl rfl (fun H1 n1 hn hs => ?_)
  refine hV.istore_n (ls2 := [(2, .int r), (0, .ref a), (1, .int p0)]) dL_launch_5 (by decide) rfl ?_
  refine hV.goto (tgt := 17) dL_launch_6 (by decide) ?_
  refine hV.iload_n 0 dL_launch_17 rfl ?_
  exact hE.1 dL_launch_18 rfl rfl (show 0 + mc ≤ 11 by omega) (show 0 + ms ≤ 235 by omega) (zRTi rfl hs)
theorem WL_launch_x1 {l : Launch} {D : va_G} {base : Nat} {H : zH} {n a : Nat} {fs : List Value} {p0 : Int32} {dd mc ms : Nat} (q1 : dd ≤ 13) (q2 : mc ≤ 11) (q3 : ms ≤ 235) (hx : H a = some (.inr (4, fs))) (hM : zCt l D base dd yX4_launch w_X4_launch [.ref a, .int p0] H n mc ms (zTX "java/lang/IndexOutOfBoundsException" H n)) :
    zCt l D base 14 yL_launch w_L_launch [.ref a, .int p0] H n 11 235 (zRT (some (.int (-31))) (fun H2 n2 => H2 = H ∧ n ≤ n2)) := by
  refine zCt.ofH (by decide) (Nat.le_of_ble_eq_true rfl) (fun Sx V X hV hE hXc => ?_)
  show V 0 [(0, .ref a), (1, .int p0)] [] H n 0 0
  refine hV.aload_n 0 dL_launch_0 rfl ?_
  refine hV.iload_n 1 dL_launch_1 rfl ?_
  refine hV.callV (rest := []) dL_launch_2 hM my_X4_launch kv_L_36 hx rfl rfl rfl (show dd + 1 ≤ 14 by omega) (show 64 * (dd + 1) ≤ 64 * 14 by omega) (Nat.le_of_ble_eq_true rfl) (show 0 + mc ≤ 11 by omega) (show 0 + ms ≤ 235 by omega) (fun v H2 n2 hn hp => zTX_v hp) (fun E2 H2 n2 hn hp => ?_)
  obtain ⟨rfl, rfl, h3⟩ := zTX_x hp
  refine hXc (nm := "java/lang/IndexOutOfBoundsException") [] ⟨0, 6, 9, 15⟩ [⟨0, 6, 13, 39⟩] rfl (fun z hz => absurd hz (List.not_mem_nil)) (by decide) (by decide) wl_15 wc_15 (fun q => ?_)
  show V 9 [(0, .ref a), (1, .int p0)] [.ref q] H2 n2 (0 + mc) (0 + ms)
  refine hV.astore_n (ls2 := [(3, .ref q), (0, .ref a), (1, .int p0)]) dL_launch_9 (by decide) rfl ?_
  refine hV.bipush (v := (-31)) dL_launch_10 (by decide) ?_
  exact hE.1 dL_launch_12 rfl rfl (show 0 + mc ≤ 11 by omega) (show 0 + ms ≤ 235 by omega) (zRTi rfl ⟨rfl, h3⟩)
theorem WL_launch_x2 {l : Launch} {D : va_G} {base : Nat} {H : zH} {n a : Nat} {fs : List Value} {p0 : Int32} {dd mc ms : Nat} (q1 : dd ≤ 13) (q2 : mc ≤ 11) (q3 : ms ≤ 235) (hx : H a = some (.inr (4, fs))) (hM : zCt l D base dd yX4_launch w_X4_launch [.ref a, .int p0] H n mc ms (zTX "java/lang/IllegalStateException" H n)) :
    zCt l D base 14 yL_launch w_L_launch [.ref a, .int p0] H n 11 235 (zRT (some (.int (-33))) (fun H2 n2 => H2 = H ∧ n ≤ n2)) := by
  refine zCt.ofH (by decide) (Nat.le_of_ble_eq_true rfl) (fun Sx V X hV hE hXc => ?_)
  show V 0 [(0, .ref a), (1, .int p0)] [] H n 0 0
  refine hV.aload_n 0 dL_launch_0 rfl ?_
  refine hV.iload_n 1 dL_launch_1 rfl ?_
  refine hV.callV (rest := []) dL_launch_2 hM my_X4_launch kv_L_36 hx rfl rfl rfl (show dd + 1 ≤ 14 by omega) (show 64 * (dd + 1) ≤ 64 * 14 by omega) (Nat.le_of_ble_eq_true rfl) (show 0 + mc ≤ 11 by omega) (show 0 + ms ≤ 235 by omega) (fun v H2 n2 hn hp => zTX_v hp) (fun E2 H2 n2 hn hp => ?_)
  obtain ⟨rfl, rfl, h3⟩ := zTX_x hp
  refine hXc (nm := "java/lang/IllegalStateException") [⟨0, 6, 9, 15⟩] ⟨0, 6, 13, 39⟩ [] rfl (fun z hz => by rw [List.mem_singleton.mp hz]; exact Or.inr ⟨by decide, "java/lang/IndexOutOfBoundsException", wl_15, by decide⟩) (by decide) (by decide) wl_39 wc_39 (fun q => ?_)
  show V 13 [(0, .ref a), (1, .int p0)] [.ref q] H2 n2 (0 + mc) (0 + ms)
  refine hV.astore_n (ls2 := [(3, .ref q), (0, .ref a), (1, .int p0)]) dL_launch_13 (by decide) rfl ?_
  refine hV.bipush (v := (-33)) dL_launch_14 (by decide) ?_
  exact hE.1 dL_launch_16 rfl rfl (show 0 + mc ≤ 11 by omega) (show 0 + ms ≤ 235 by omega) (zRTi rfl ⟨rfl, h3⟩)
theorem WL_play_ok {l : Launch} {D : va_G} {base : Nat} {H : zH} {n a : Nat} {fs : List Value} {p0 p1 : Int32} {dd mc ms : Nat} {r : Int32} {S : zH → Nat → Prop} (q1 : dd ≤ 13) (q2 : mc ≤ 11) (q3 : ms ≤ 235) (hx : H a = some (.inr (4, fs))) (hM : zCt l D base dd yX4_play w_X4_play [.ref a, .int p0, .int p1] H n mc ms (zRT (some (.int r)) S)) :
    zCt l D base 14 yL_play w_L_play [.ref a, .int p0, .int p1] H n 11 235 (zRT (some (.int r)) S) := by
  refine zCt.ofH (by decide) (Nat.le_of_ble_eq_true rfl) (fun Sx V X hV hE hXc => ?_)
  show V 0 [(0, .ref a), (1, .int p0), (2, .int p1)] [] H n 0 0
  refine hV.aload_n 0 dL_play_0 rfl ?_
  refine hV.iload_n 1 dL_play_1 rfl ?_
  refine hV.iload_n 2 dL_play_2 rfl ?_
  refine hV.callV3 (rest := []) dL_play_3 hM my_X4_play kv_L_41 hx rfl rfl rfl (show dd + 1 ≤ 14 by omega) (show 64 * (dd + 1) ≤ 64 * 14 by omega) (Nat.le_of_ble_eq_true rfl) (show 0 + mc ≤ 11 by omega) (show 0 + ms ≤ 235 by omega) (st2 := [.int r]) rfl rfl rfl (fun H1 n1 hn hs => ?_)
  refine hV.istore_n (ls2 := [(3, .int r), (0, .ref a), (1, .int p0), (2, .int p1)]) dL_play_6 (by decide) rfl ?_
  refine hV.goto (tgt := 20) dL_play_7 (by decide) ?_
  refine hV.iload_n 0 dL_play_20 rfl ?_
  exact hE.1 dL_play_21 rfl rfl (show 0 + mc ≤ 11 by omega) (show 0 + ms ≤ 235 by omega) (zRTi rfl hs)
theorem WL_play_x1 {l : Launch} {D : va_G} {base : Nat} {H : zH} {n a : Nat} {fs : List Value} {p0 p1 : Int32} {dd mc ms : Nat} (q1 : dd ≤ 13) (q2 : mc ≤ 11) (q3 : ms ≤ 235) (hx : H a = some (.inr (4, fs))) (hM : zCt l D base dd yX4_play w_X4_play [.ref a, .int p0, .int p1] H n mc ms (zTX "java/lang/IndexOutOfBoundsException" H n)) :
    zCt l D base 14 yL_play w_L_play [.ref a, .int p0, .int p1] H n 11 235 (zRT (some (.int (-31))) (fun H2 n2 => H2 = H ∧ n ≤ n2)) := by
  refine zCt.ofH (by decide) (Nat.le_of_ble_eq_true rfl) (fun Sx V X hV hE hXc => ?_)
  show V 0 [(0, .ref a), (1, .int p0), (2, .int p1)] [] H n 0 0
  refine hV.aload_n 0 dL_play_0 rfl ?_
  refine hV.iload_n 1 dL_play_1 rfl ?_
  refine hV.iload_n 2 dL_play_2 rfl ?_
  refine hV.callV (rest := []) dL_play_3 hM my_X4_play kv_L_41 hx rfl rfl rfl (show dd + 1 ≤ 14 by omega) (show 64 * (dd + 1) ≤ 64 * 14 by omega) (Nat.le_of_ble_eq_true rfl) (show 0 + mc ≤ 11 by omega) (show 0 + ms ≤ 235 by omega) (fun v H2 n2 hn hp => zTX_v hp) (fun E2 H2 n2 hn hp => ?_)
  obtain ⟨rfl, rfl, h3⟩ := zTX_x hp
  refine hXc (nm := "java/lang/IndexOutOfBoundsException") [] ⟨0, 7, 10, 15⟩ [⟨0, 7, 15, 17⟩] rfl (fun z hz => absurd hz (List.not_mem_nil)) (by decide) (by decide) wl_15 wc_15 (fun q => ?_)
  show V 10 [(0, .ref a), (1, .int p0), (2, .int p1)] [.ref q] H2 n2 (0 + mc) (0 + ms)
  refine hV.astore (ls2 := [(4, .ref q), (0, .ref a), (1, .int p0), (2, .int p1)]) dL_play_10 (by decide) rfl ?_
  refine hV.bipush (v := (-31)) dL_play_12 (by decide) ?_
  exact hE.1 dL_play_14 rfl rfl (show 0 + mc ≤ 11 by omega) (show 0 + ms ≤ 235 by omega) (zRTi rfl ⟨rfl, h3⟩)
theorem WL_play_x2 {l : Launch} {D : va_G} {base : Nat} {H : zH} {n a : Nat} {fs : List Value} {p0 p1 : Int32} {dd mc ms : Nat} (q1 : dd ≤ 13) (q2 : mc ≤ 11) (q3 : ms ≤ 235) (hx : H a = some (.inr (4, fs))) (hM : zCt l D base dd yX4_play w_X4_play [.ref a, .int p0, .int p1] H n mc ms (zTX "java/lang/IllegalArgumentException" H n)) :
    zCt l D base 14 yL_play w_L_play [.ref a, .int p0, .int p1] H n 11 235 (zRT (some (.int (-32))) (fun H2 n2 => H2 = H ∧ n ≤ n2)) := by
  refine zCt.ofH (by decide) (Nat.le_of_ble_eq_true rfl) (fun Sx V X hV hE hXc => ?_)
  show V 0 [(0, .ref a), (1, .int p0), (2, .int p1)] [] H n 0 0
  refine hV.aload_n 0 dL_play_0 rfl ?_
  refine hV.iload_n 1 dL_play_1 rfl ?_
  refine hV.iload_n 2 dL_play_2 rfl ?_
  refine hV.callV (rest := []) dL_play_3 hM my_X4_play kv_L_41 hx rfl rfl rfl (show dd + 1 ≤ 14 by omega) (show 64 * (dd + 1) ≤ 64 * 14 by omega) (Nat.le_of_ble_eq_true rfl) (show 0 + mc ≤ 11 by omega) (show 0 + ms ≤ 235 by omega) (fun v H2 n2 hn hp => zTX_v hp) (fun E2 H2 n2 hn hp => ?_)
  obtain ⟨rfl, rfl, h3⟩ := zTX_x hp
  refine hXc (nm := "java/lang/IllegalArgumentException") [⟨0, 7, 10, 15⟩] ⟨0, 7, 15, 17⟩ [] rfl (fun z hz => by rw [List.mem_singleton.mp hz]; exact Or.inr ⟨by decide, "java/lang/IndexOutOfBoundsException", wl_15, by decide⟩) (by decide) (by decide) wl_17 wc_17 (fun q => ?_)
  show V 15 [(0, .ref a), (1, .int p0), (2, .int p1)] [.ref q] H2 n2 (0 + mc) (0 + ms)
  refine hV.astore (ls2 := [(4, .ref q), (0, .ref a), (1, .int p0), (2, .int p1)]) dL_play_15 (by decide) rfl ?_
  refine hV.bipush (v := (-32)) dL_play_17 (by decide) ?_
  exact hE.1 dL_play_19 rfl rfl (show 0 + mc ≤ 11 by omega) (show 0 + ms ≤ 235 by omega) (zRTi rfl ⟨rfl, h3⟩)
theorem WL_undo_ok {l : Launch} {D : va_G} {base : Nat} {H : zH} {n a : Nat} {fs : List Value} {dd mc ms : Nat} {r : Int32} {S : zH → Nat → Prop} (q1 : dd ≤ 13) (q2 : mc ≤ 11) (q3 : ms ≤ 235) (hx : H a = some (.inr (4, fs))) (hM : zCt l D base dd yX4_undo w_X4_undo [.ref a] H n mc ms (zRT (some (.int r)) S)) :
    zCt l D base 14 yL_undo w_L_undo [.ref a] H n 11 235 (zRT (some (.int r)) S) := by
  refine zCt.ofH (by decide) (Nat.le_of_ble_eq_true rfl) (fun Sx V X hV hE hXc => ?_)
  show V 0 [(0, .ref a)] [] H n 0 0
  refine hV.aload_n 0 dL_undo_0 rfl ?_
  refine hV.callV3 (rest := []) dL_undo_1 hM my_X4_undo kv_L_44 hx rfl rfl rfl (show dd + 1 ≤ 14 by omega) (show 64 * (dd + 1) ≤ 64 * 14 by omega) (Nat.le_of_ble_eq_true rfl) (show 0 + mc ≤ 11 by omega) (show 0 + ms ≤ 235 by omega) (st2 := [.int r]) rfl rfl rfl (fun H1 n1 hn hs => ?_)
  refine hV.istore_n (ls2 := [(1, .int r), (0, .ref a)]) dL_undo_4 (by decide) rfl ?_
  refine hV.goto (tgt := 12) dL_undo_5 (by decide) ?_
  refine hV.iload_n 0 dL_undo_12 rfl ?_
  exact hE.1 dL_undo_13 rfl rfl (show 0 + mc ≤ 11 by omega) (show 0 + ms ≤ 235 by omega) (zRTi rfl hs)
theorem WL_undo_x1 {l : Launch} {D : va_G} {base : Nat} {H : zH} {n a : Nat} {fs : List Value} {dd mc ms : Nat} (q1 : dd ≤ 13) (q2 : mc ≤ 11) (q3 : ms ≤ 235) (hx : H a = some (.inr (4, fs))) (hM : zCt l D base dd yX4_undo w_X4_undo [.ref a] H n mc ms (zTX "java/lang/IllegalStateException" H n)) :
    zCt l D base 14 yL_undo w_L_undo [.ref a] H n 11 235 (zRT (some (.int (-33))) (fun H2 n2 => H2 = H ∧ n ≤ n2)) := by
  refine zCt.ofH (by decide) (Nat.le_of_ble_eq_true rfl) (fun Sx V X hV hE hXc => ?_)
  show V 0 [(0, .ref a)] [] H n 0 0
  refine hV.aload_n 0 dL_undo_0 rfl ?_
  refine hV.callV (rest := []) dL_undo_1 hM my_X4_undo kv_L_44 hx rfl rfl rfl (show dd + 1 ≤ 14 by omega) (show 64 * (dd + 1) ≤ 64 * 14 by omega) (Nat.le_of_ble_eq_true rfl) (show 0 + mc ≤ 11 by omega) (show 0 + ms ≤ 235 by omega) (fun v H2 n2 hn hp => zTX_v hp) (fun E2 H2 n2 hn hp => ?_)
  obtain ⟨rfl, rfl, h3⟩ := zTX_x hp
  refine hXc (nm := "java/lang/IllegalStateException") [] ⟨0, 5, 8, 39⟩ [] rfl (fun z hz => absurd hz (List.not_mem_nil)) (by decide) (by decide) wl_39 wc_39 (fun q => ?_)
  show V 8 [(0, .ref a)] [.ref q] H2 n2 (0 + mc) (0 + ms)
  refine hV.astore_n (ls2 := [(2, .ref q), (0, .ref a)]) dL_undo_8 (by decide) rfl ?_
  refine hV.bipush (v := (-33)) dL_undo_9 (by decide) ?_
  exact hE.1 dL_undo_11 rfl rfl (show 0 + mc ≤ 11 by omega) (show 0 + ms ≤ 235 by omega) (zRTi rfl ⟨rfl, h3⟩)
theorem WL_restore_ok {l : Launch} {D : va_G} {base : Nat} {H : zH} {n a : Nat} {fs : List Value} {dd mc ms : Nat} {r : Int32} {S : zH → Nat → Prop} (q1 : dd ≤ 13) (q2 : mc ≤ 11) (q3 : ms ≤ 235) (hx : H a = some (.inr (4, fs))) (hM : zCt l D base dd yX4_restore w_X4_restore [.ref a] H n mc ms (zRT (some (.int r)) S)) :
    zCt l D base 14 yL_restore w_L_restore [.ref a] H n 11 235 (zRT (some (.int r)) S) := by
  refine zCt.ofH (by decide) (Nat.le_of_ble_eq_true rfl) (fun Sx V X hV hE hXc => ?_)
  show V 0 [(0, .ref a)] [] H n 0 0
  refine hV.aload_n 0 dL_restore_0 rfl ?_
  refine hV.callV3 (rest := []) dL_restore_1 hM my_X4_restore kv_L_48 hx rfl rfl rfl (show dd + 1 ≤ 14 by omega) (show 64 * (dd + 1) ≤ 64 * 14 by omega) (Nat.le_of_ble_eq_true rfl) (show 0 + mc ≤ 11 by omega) (show 0 + ms ≤ 235 by omega) (st2 := [.int r]) rfl rfl rfl (fun H1 n1 hn hs => ?_)
  refine hV.istore_n (ls2 := [(1, .int r), (0, .ref a)]) dL_restore_4 (by decide) rfl ?_
  refine hV.goto (tgt := 12) dL_restore_5 (by decide) ?_
  refine hV.iload_n 0 dL_restore_12 rfl ?_
  exact hE.1 dL_restore_13 rfl rfl (show 0 + mc ≤ 11 by omega) (show 0 + ms ≤ 235 by omega) (zRTi rfl hs)
theorem WL_restore_x1 {l : Launch} {D : va_G} {base : Nat} {H : zH} {n a : Nat} {fs : List Value} {dd mc ms : Nat} (q1 : dd ≤ 13) (q2 : mc ≤ 11) (q3 : ms ≤ 235) (hx : H a = some (.inr (4, fs))) (hM : zCt l D base dd yX4_restore w_X4_restore [.ref a] H n mc ms (zTX "java/lang/IllegalStateException" H n)) :
    zCt l D base 14 yL_restore w_L_restore [.ref a] H n 11 235 (zRT (some (.int (-33))) (fun H2 n2 => H2 = H ∧ n ≤ n2)) := by
  refine zCt.ofH (by decide) (Nat.le_of_ble_eq_true rfl) (fun Sx V X hV hE hXc => ?_)
  show V 0 [(0, .ref a)] [] H n 0 0
  refine hV.aload_n 0 dL_restore_0 rfl ?_
  refine hV.callV (rest := []) dL_restore_1 hM my_X4_restore kv_L_48 hx rfl rfl rfl (show dd + 1 ≤ 14 by omega) (show 64 * (dd + 1) ≤ 64 * 14 by omega) (Nat.le_of_ble_eq_true rfl) (show 0 + mc ≤ 11 by omega) (show 0 + ms ≤ 235 by omega) (fun v H2 n2 hn hp => zTX_v hp) (fun E2 H2 n2 hn hp => ?_)
  obtain ⟨rfl, rfl, h3⟩ := zTX_x hp
  refine hXc (nm := "java/lang/IllegalStateException") [] ⟨0, 5, 8, 39⟩ [] rfl (fun z hz => absurd hz (List.not_mem_nil)) (by decide) (by decide) wl_39 wc_39 (fun q => ?_)
  show V 8 [(0, .ref a)] [.ref q] H2 n2 (0 + mc) (0 + ms)
  refine hV.astore_n (ls2 := [(2, .ref q), (0, .ref a)]) dL_restore_8 (by decide) rfl ?_
  refine hV.bipush (v := (-33)) dL_restore_9 (by decide) ?_
  exact hE.1 dL_restore_11 rfl rfl (show 0 + mc ≤ 11 by omega) (show 0 + ms ≤ 235 by omega) (zRTi rfl ⟨rfl, h3⟩)
