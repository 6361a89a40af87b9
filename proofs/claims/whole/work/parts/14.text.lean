/-! Text: the state machine of the buffer -/
def rngS (c lo hi r : Int32) : Int32 := if c < lo then -1 else if hi < c then -1 else r
def sLet (c : Int32) : Int32 := if c = 36 then 7 else if c = 98 then 4 else if c = 108 then 1 else -1
def sDig (c : Int32) : Int32 := if c = 49 then 8 else if c = 50 then 8 else if c = 51 then 9 else if c < 52 then -1 else if 57 < c then -1 else 10
def sEnd (c : Int32) : Int32 := if c = 59 then 0 else -1
def stp (s c : Int32) : Int32 := if s = 0 then sLet c else if s = 1 then rngS c 48 54 2 else if s = 2 then (if c = 120 then 3 else -1) else if s = 3 then sDig c else if s = 4 then rngS c 48 55 5 else if s = 5 then rngS c 48 54 6
  else if s = 6 then (if c = 60 then 10 else if c = 124 then 10 else if c = 62 then 10 else -1) else if s = 7 then rngS c 49 57 8 else if s = 8 then (if c < 48 then sEnd c else if 57 < c then sEnd c else 10) else if s = 9 then (if c = 48 then 10 else sEnd c) else if s = 10 then sEnd c else -1
def stOk (s : Int32) : Prop := s = -1 ∨ s = 0 ∨ s = 1 ∨ s = 2 ∨ s = 3 ∨ s = 4 ∨ s = 5 ∨ s = 6 ∨ s = 7 ∨ s = 8 ∨ s = 9 ∨ s = 10
theorem sEnd_ok (c : Int32) : stOk (sEnd c) := by unfold sEnd stOk; split <;> simp
theorem rngS_ok (c lo hi r : Int32) (h : stOk r) : stOk (rngS c lo hi r) := by
  unfold rngS; split
  · exact Or.inl rfl
  · split
    · exact Or.inl rfl
    · exact h
theorem stp_ok (s c : Int32) : stOk (stp s c) := by
  unfold stp sLet sDig
  repeat' split
  all_goals first | exact sEnd_ok _ | exact rngS_ok _ _ _ _ (by simp [stOk]) | simp [stOk]
def stN (f : Nat → Int32) : Nat → Int32
  | 0 => 0
  | j + 1 => stp (stN f j) (f j)
theorem stN_ok (f : Nat → Int32) (j : Nat) : stOk (stN f j) := by
  cases j with
  | zero => exact Or.inr (Or.inl rfl)
  | succ j => exact stp_ok _ _
def errAt (f : Nat → Int32) : Nat → Nat → Nat
  | 0, j => j
  | r + 1, j => if stN f (j + 1) = -1 then j else errAt f r (j + 1)
def cAt (f : Nat → Int32) (L p : Nat) : Int32 := if L ≤ p then -1 else f p
def dBl (f : Nat → Int32) (L : Nat) (w : Int32) (p : Nat) : Int32 := if cAt f L p - 48 < 0 then 0 else if w ≤ cAt f L p - 48 then 0 else cAt f L p - 48
def ePart (f : Nat → Int32) (L p : Nat) : Int32 := if p = L then 1 else if cAt f L p = 59 then 1 else 0
def nmF (f : Nat → Int32) (L a : Nat) : Nat → Int32
  | 0 => 0
  | r + 1 => 10 * nmF f L a r + dBl f L 10 (a + r)
def bAt (f : Nat → Int32) (L p : Nat) : Int32 := if cAt f L p = 60 then -1 else if cAt f L p = 62 then 1 else 0

set_option maxRecDepth 100000 in
set_option maxHeartbeats 4000000 in
theorem c_X3_stateBehindEnd {l : Launch} {D : va_G} {base : Nat} (G : l.stackTraces = false) {h : zH} {n : Nat} {c : Int32} :
    zCt l D base 1 yX3_stateBehindEnd w_X3_stateBehindEnd [.int c] (h) n 0 0 (zR (some (.int (sEnd c))) (h) (n)) := by
  refine zCt.of G (by decide) (Nat.le_of_ble_eq_true rfl) (fun Sx V X hV hE hX => ?_)
  show V 0 [(0, .int c)] [] (h) n 0 0
  refine hV.iload_n 0 dX3_stateBehindEnd_0 rfl ?_
  refine hV.bipush (v := 59) dX3_stateBehindEnd_1 (by decide) ?_
  by_cases c3_1 : c = 59
  · refine hV.icmp_ne_f (tgt := 10) dX3_stateBehindEnd_3 (by decide) c3_1 ?_
    refine hV.iconst (v := 0) dX3_stateBehindEnd_6 (by decide) ?_
    refine hV.goto (tgt := 11) dX3_stateBehindEnd_7 (by decide) ?_
    exact hE.1 dX3_stateBehindEnd_11 rfl rfl (by decide) (by decide) (zRi (by simp [sEnd, c3_1]) rfl rfl)
  · refine hV.icmp_ne_t (tgt := 10) dX3_stateBehindEnd_3 (by decide) c3_1 ?_
    refine hV.iconst (v := (-1)) dX3_stateBehindEnd_10 (by decide) ?_
    exact hE.1 dX3_stateBehindEnd_11 rfl rfl (by decide) (by decide) (zRi (by simp [sEnd, c3_1]) rfl rfl)

set_option maxRecDepth 100000 in
set_option maxHeartbeats 4000000 in
theorem c_X3_stateBehindLaunchDigit {l : Launch} {D : va_G} {base : Nat} (G : l.stackTraces = false) {h : zH} {n : Nat} {c : Int32} :
    zCt l D base 1 yX3_stateBehindLaunchDigit w_X3_stateBehindLaunchDigit [.int c] (h) n 0 0 (zR (some (.int (sDig c))) (h) (n)) := by
  refine zCt.of G (by decide) (Nat.le_of_ble_eq_true rfl) (fun Sx V X hV hE hX => ?_)
  show V 0 [(0, .int c)] [] (h) n 0 0
  refine hV.iload_n 0 dX3_stateBehindLaunchDigit_0 rfl ?_
  refine hV.bipush (v := 49) dX3_stateBehindLaunchDigit_1 (by decide) ?_
  by_cases c3_1 : c = 49
  · refine hV.icmp_eq_t (tgt := 12) dX3_stateBehindLaunchDigit_3 (by decide) c3_1 ?_
    refine hV.bipush (v := 8) dX3_stateBehindLaunchDigit_12 (by decide) ?_
    exact hE.1 dX3_stateBehindLaunchDigit_14 rfl rfl (by decide) (by decide) (zRi (by simp [sDig, c3_1]) rfl rfl)
  · refine hV.icmp_eq_f (tgt := 12) dX3_stateBehindLaunchDigit_3 (by decide) c3_1 ?_
    refine hV.iload_n 0 dX3_stateBehindLaunchDigit_6 rfl ?_
    refine hV.bipush (v := 50) dX3_stateBehindLaunchDigit_7 (by decide) ?_
    by_cases c9_2 : c = 50
    · refine hV.icmp_ne_f (tgt := 15) dX3_stateBehindLaunchDigit_9 (by decide) c9_2 ?_
      refine hV.bipush (v := 8) dX3_stateBehindLaunchDigit_12 (by decide) ?_
      exact hE.1 dX3_stateBehindLaunchDigit_14 rfl rfl (by decide) (by decide) (zRi (by simp [sDig, c3_1, c9_2]) rfl rfl)
    · refine hV.icmp_ne_t (tgt := 15) dX3_stateBehindLaunchDigit_9 (by decide) c9_2 ?_
      refine hV.iload_n 0 dX3_stateBehindLaunchDigit_15 rfl ?_
      refine hV.bipush (v := 51) dX3_stateBehindLaunchDigit_16 (by decide) ?_
      by_cases c18_3 : c = 51
      · refine hV.icmp_ne_f (tgt := 24) dX3_stateBehindLaunchDigit_18 (by decide) c18_3 ?_
        refine hV.bipush (v := 9) dX3_stateBehindLaunchDigit_21 (by decide) ?_
        exact hE.1 dX3_stateBehindLaunchDigit_23 rfl rfl (by decide) (by decide) (zRi (by simp [sDig, c3_1, c9_2, c18_3]) rfl rfl)
      · refine hV.icmp_ne_t (tgt := 24) dX3_stateBehindLaunchDigit_18 (by decide) c18_3 ?_
        refine hV.iload_n 0 dX3_stateBehindLaunchDigit_24 rfl ?_
        refine hV.bipush (v := 52) dX3_stateBehindLaunchDigit_25 (by decide) ?_
        by_cases c27_4 : c < 52
        · refine hV.icmp_lt_t (tgt := 41) dX3_stateBehindLaunchDigit_27 (by decide) c27_4 ?_
          refine hV.iconst (v := (-1)) dX3_stateBehindLaunchDigit_41 (by decide) ?_
          exact hE.1 dX3_stateBehindLaunchDigit_42 rfl rfl (by decide) (by decide) (zRi (by simp [sDig, c3_1, c9_2, c18_3, c27_4]) rfl rfl)
        · refine hV.icmp_lt_f (tgt := 41) dX3_stateBehindLaunchDigit_27 (by decide) c27_4 ?_
          refine hV.iload_n 0 dX3_stateBehindLaunchDigit_30 rfl ?_
          refine hV.bipush (v := 57) dX3_stateBehindLaunchDigit_31 (by decide) ?_
          by_cases c33_5 : 57 < c
          · refine hV.icmp_gt_t (tgt := 41) dX3_stateBehindLaunchDigit_33 (by decide) c33_5 ?_
            refine hV.iconst (v := (-1)) dX3_stateBehindLaunchDigit_41 (by decide) ?_
            exact hE.1 dX3_stateBehindLaunchDigit_42 rfl rfl (by decide) (by decide) (zRi (by simp [sDig, c3_1, c9_2, c18_3, c27_4, c33_5]) rfl rfl)
          · refine hV.icmp_gt_f (tgt := 41) dX3_stateBehindLaunchDigit_33 (by decide) c33_5 ?_
            refine hV.bipush (v := 10) dX3_stateBehindLaunchDigit_36 (by decide) ?_
            refine hV.goto (tgt := 42) dX3_stateBehindLaunchDigit_38 (by decide) ?_
            exact hE.1 dX3_stateBehindLaunchDigit_42 rfl rfl (by decide) (by decide) (zRi (by simp [sDig, c3_1, c9_2, c18_3, c27_4, c33_5]) rfl rfl)

set_option maxRecDepth 100000 in
set_option maxHeartbeats 4000000 in
theorem c_X3_stateBehindLetter {l : Launch} {D : va_G} {base : Nat} (G : l.stackTraces = false) {h : zH} {n : Nat} {c : Int32} :
    zCt l D base 1 yX3_stateBehindLetter w_X3_stateBehindLetter [.int c] (h) n 0 0 (zR (some (.int (sLet c))) (h) (n)) := by
  refine zCt.of G (by decide) (Nat.le_of_ble_eq_true rfl) (fun Sx V X hV hE hX => ?_)
  show V 0 [(0, .int c)] [] (h) n 0 0
  refine hV.iload_n 0 dX3_stateBehindLetter_0 rfl ?_
  by_cases c1_1 : c = 36
  · skip
    refine hV.lookup (off := 39) (tgt := 40) dX3_stateBehindLetter_1 (by decide) (by rw [c1_1]; decide) (by decide) ?_
    refine hV.bipush (v := 7) dX3_stateBehindLetter_40 (by decide) ?_
    exact hE.1 dX3_stateBehindLetter_42 rfl rfl (by decide) (by decide) (zRi (by simp [sLet, c1_1]) rfl rfl)
  by_cases c1_2 : c = 98
  · skip
    refine hV.lookup (off := 37) (tgt := 38) dX3_stateBehindLetter_1 (by decide) (by rw [c1_2]; decide) (by decide) ?_
    refine hV.iconst (v := 4) dX3_stateBehindLetter_38 (by decide) ?_
    exact hE.1 dX3_stateBehindLetter_39 rfl rfl (by decide) (by decide) (zRi (by simp [sLet, c1_1, c1_2]) rfl rfl)
  by_cases c1_3 : c = 108
  · skip
    refine hV.lookup (off := 35) (tgt := 36) dX3_stateBehindLetter_1 (by decide) (by rw [c1_3]; decide) (by decide) ?_
    refine hV.iconst (v := 1) dX3_stateBehindLetter_36 (by decide) ?_
    exact hE.1 dX3_stateBehindLetter_37 rfl rfl (by decide) (by decide) (zRi (by simp [sLet, c1_1, c1_2, c1_3]) rfl rfl)
  refine hV.lookup (off := 42) (tgt := 43) dX3_stateBehindLetter_1 (by decide) ((lv_osw c1_1 (by decide)).trans ((lv_osw c1_2 (by decide)).trans ((lv_osw c1_3 (by decide)).trans rfl))) (by decide) ?_
  refine hV.iconst (v := (-1)) dX3_stateBehindLetter_43 (by decide) ?_
  exact hE.1 dX3_stateBehindLetter_44 rfl rfl (by decide) (by decide) (zRi (by simp [sLet, c1_1, c1_2, c1_3]) rfl rfl)

set_option maxRecDepth 100000 in
set_option maxHeartbeats 4000000 in
theorem c_X3_stateBehind {l : Launch} {D : va_G} {base : Nat} (G : l.stackTraces = false) {h : zH} {n : Nat} {s c : Int32} (hs : stOk s) :
    zCt l D base 2 yX3_stateBehind w_X3_stateBehind [.int s, .int c] (h) n 0 0 (zR (some (.int (stp s c))) (h) (n)) := by
  refine zCt.of G (by decide) (Nat.le_of_ble_eq_true rfl) (fun Sx V X hV hE hX => ?_)
  show V 0 [(0, .int s), (1, .int c)] [] (h) n 0 0
  rcases hs with rfl | rfl | rfl | rfl | rfl | rfl | rfl | rfl | rfl | rfl | rfl | rfl
  · skip
    show V 0 [(0, .int (-1)), (1, .int c)] [] (h) n 0 0
    refine hV.iload_n 0 dX3_stateBehind_0 rfl ?_
    refine hV.tblout (tgt := 224) dX3_stateBehind_1 (by decide) (by decide) ?_
    refine hV.iconst (v := (-1)) dX3_stateBehind_224 (by decide) ?_
    exact hE.1 dX3_stateBehind_225 rfl rfl (by decide) (by decide) (zRi (by simp [stp, rngS]) rfl rfl)
  · skip
    show V 0 [(0, .int 0), (1, .int c)] [] (h) n 0 0
    refine hV.iload_n 0 dX3_stateBehind_0 rfl ?_
    refine hV.tblin (off := 59) (tgt := 60) dX3_stateBehind_1 (by decide) (by decide) (by decide) (by decide) ?_
    refine hV.iload_n 1 dX3_stateBehind_60 rfl ?_
    refine hV.callS1 (rest := []) dX3_stateBehind_61 (c_X3_stateBehindLetter G) my_X3_stateBehindLetter ks_X3_23 rfl rfl (Nat.le_of_ble_eq_true rfl) (Nat.le_of_ble_eq_true rfl) (Nat.le_of_ble_eq_true rfl) (Nat.le_of_ble_eq_true rfl) (Nat.le_of_ble_eq_true rfl) (st2 := [.int (sLet c)]) (k2 := 0) (g2 := 0) rfl rfl rfl ?_
    exact hE.1 dX3_stateBehind_64 rfl rfl (by decide) (by decide) (zRi (by simp [stp, rngS]) rfl rfl)
  · skip
    show V 0 [(0, .int 1), (1, .int c)] [] (h) n 0 0
    refine hV.iload_n 0 dX3_stateBehind_0 rfl ?_
    refine hV.tblin (off := 64) (tgt := 65) dX3_stateBehind_1 (by decide) (by decide) (by decide) (by decide) ?_
    refine hV.iload_n 1 dX3_stateBehind_65 rfl ?_
    refine hV.bipush (v := 48) dX3_stateBehind_66 (by decide) ?_
    by_cases c68_1 : c < 48
    · refine hV.icmp_lt_t (tgt := 81) dX3_stateBehind_68 (by decide) c68_1 ?_
      refine hV.iconst (v := (-1)) dX3_stateBehind_81 (by decide) ?_
      exact hE.1 dX3_stateBehind_82 rfl rfl (by decide) (by decide) (zRi (by simp [stp, rngS, c68_1]) rfl rfl)
    · refine hV.icmp_lt_f (tgt := 81) dX3_stateBehind_68 (by decide) c68_1 ?_
      refine hV.iload_n 1 dX3_stateBehind_71 rfl ?_
      refine hV.bipush (v := 54) dX3_stateBehind_72 (by decide) ?_
      by_cases c74_2 : 54 < c
      · refine hV.icmp_gt_t (tgt := 81) dX3_stateBehind_74 (by decide) c74_2 ?_
        refine hV.iconst (v := (-1)) dX3_stateBehind_81 (by decide) ?_
        exact hE.1 dX3_stateBehind_82 rfl rfl (by decide) (by decide) (zRi (by simp [stp, rngS, c68_1, c74_2]) rfl rfl)
      · refine hV.icmp_gt_f (tgt := 81) dX3_stateBehind_74 (by decide) c74_2 ?_
        refine hV.iconst (v := 2) dX3_stateBehind_77 (by decide) ?_
        refine hV.goto (tgt := 82) dX3_stateBehind_78 (by decide) ?_
        exact hE.1 dX3_stateBehind_82 rfl rfl (by decide) (by decide) (zRi (by simp [stp, rngS, c68_1, c74_2]) rfl rfl)
  · skip
    show V 0 [(0, .int 2), (1, .int c)] [] (h) n 0 0
    refine hV.iload_n 0 dX3_stateBehind_0 rfl ?_
    refine hV.tblin (off := 82) (tgt := 83) dX3_stateBehind_1 (by decide) (by decide) (by decide) (by decide) ?_
    refine hV.iload_n 1 dX3_stateBehind_83 rfl ?_
    refine hV.bipush (v := 120) dX3_stateBehind_84 (by decide) ?_
    by_cases c86_3 : c = 120
    · refine hV.icmp_ne_f (tgt := 93) dX3_stateBehind_86 (by decide) c86_3 ?_
      refine hV.iconst (v := 3) dX3_stateBehind_89 (by decide) ?_
      refine hV.goto (tgt := 94) dX3_stateBehind_90 (by decide) ?_
      exact hE.1 dX3_stateBehind_94 rfl rfl (by decide) (by decide) (zRi (by simp [stp, rngS, c86_3]) rfl rfl)
    · refine hV.icmp_ne_t (tgt := 93) dX3_stateBehind_86 (by decide) c86_3 ?_
      refine hV.iconst (v := (-1)) dX3_stateBehind_93 (by decide) ?_
      exact hE.1 dX3_stateBehind_94 rfl rfl (by decide) (by decide) (zRi (by simp [stp, rngS, c86_3]) rfl rfl)
  · skip
    show V 0 [(0, .int 3), (1, .int c)] [] (h) n 0 0
    refine hV.iload_n 0 dX3_stateBehind_0 rfl ?_
    refine hV.tblin (off := 94) (tgt := 95) dX3_stateBehind_1 (by decide) (by decide) (by decide) (by decide) ?_
    refine hV.iload_n 1 dX3_stateBehind_95 rfl ?_
    refine hV.callS1 (rest := []) dX3_stateBehind_96 (c_X3_stateBehindLaunchDigit G) my_X3_stateBehindLaunchDigit ks_X3_27 rfl rfl (Nat.le_of_ble_eq_true rfl) (Nat.le_of_ble_eq_true rfl) (Nat.le_of_ble_eq_true rfl) (Nat.le_of_ble_eq_true rfl) (Nat.le_of_ble_eq_true rfl) (st2 := [.int (sDig c)]) (k2 := 0) (g2 := 0) rfl rfl rfl ?_
    exact hE.1 dX3_stateBehind_99 rfl rfl (by decide) (by decide) (zRi (by simp [stp, rngS]) rfl rfl)
  · skip
    show V 0 [(0, .int 4), (1, .int c)] [] (h) n 0 0
    refine hV.iload_n 0 dX3_stateBehind_0 rfl ?_
    refine hV.tblin (off := 99) (tgt := 100) dX3_stateBehind_1 (by decide) (by decide) (by decide) (by decide) ?_
    refine hV.iload_n 1 dX3_stateBehind_100 rfl ?_
    refine hV.bipush (v := 48) dX3_stateBehind_101 (by decide) ?_
    by_cases c103_4 : c < 48
    · refine hV.icmp_lt_t (tgt := 116) dX3_stateBehind_103 (by decide) c103_4 ?_
      refine hV.iconst (v := (-1)) dX3_stateBehind_116 (by decide) ?_
      exact hE.1 dX3_stateBehind_117 rfl rfl (by decide) (by decide) (zRi (by simp [stp, rngS, c103_4]) rfl rfl)
    · refine hV.icmp_lt_f (tgt := 116) dX3_stateBehind_103 (by decide) c103_4 ?_
      refine hV.iload_n 1 dX3_stateBehind_106 rfl ?_
      refine hV.bipush (v := 55) dX3_stateBehind_107 (by decide) ?_
      by_cases c109_5 : 55 < c
      · refine hV.icmp_gt_t (tgt := 116) dX3_stateBehind_109 (by decide) c109_5 ?_
        refine hV.iconst (v := (-1)) dX3_stateBehind_116 (by decide) ?_
        exact hE.1 dX3_stateBehind_117 rfl rfl (by decide) (by decide) (zRi (by simp [stp, rngS, c103_4, c109_5]) rfl rfl)
      · refine hV.icmp_gt_f (tgt := 116) dX3_stateBehind_109 (by decide) c109_5 ?_
        refine hV.iconst (v := 5) dX3_stateBehind_112 (by decide) ?_
        refine hV.goto (tgt := 117) dX3_stateBehind_113 (by decide) ?_
        exact hE.1 dX3_stateBehind_117 rfl rfl (by decide) (by decide) (zRi (by simp [stp, rngS, c103_4, c109_5]) rfl rfl)
  · skip
    show V 0 [(0, .int 5), (1, .int c)] [] (h) n 0 0
    refine hV.iload_n 0 dX3_stateBehind_0 rfl ?_
    refine hV.tblin (off := 117) (tgt := 118) dX3_stateBehind_1 (by decide) (by decide) (by decide) (by decide) ?_
    refine hV.iload_n 1 dX3_stateBehind_118 rfl ?_
    refine hV.bipush (v := 48) dX3_stateBehind_119 (by decide) ?_
    by_cases c121_6 : c < 48
    · refine hV.icmp_lt_t (tgt := 135) dX3_stateBehind_121 (by decide) c121_6 ?_
      refine hV.iconst (v := (-1)) dX3_stateBehind_135 (by decide) ?_
      exact hE.1 dX3_stateBehind_136 rfl rfl (by decide) (by decide) (zRi (by simp [stp, rngS, c121_6]) rfl rfl)
    · refine hV.icmp_lt_f (tgt := 135) dX3_stateBehind_121 (by decide) c121_6 ?_
      refine hV.iload_n 1 dX3_stateBehind_124 rfl ?_
      refine hV.bipush (v := 54) dX3_stateBehind_125 (by decide) ?_
      by_cases c127_7 : 54 < c
      · refine hV.icmp_gt_t (tgt := 135) dX3_stateBehind_127 (by decide) c127_7 ?_
        refine hV.iconst (v := (-1)) dX3_stateBehind_135 (by decide) ?_
        exact hE.1 dX3_stateBehind_136 rfl rfl (by decide) (by decide) (zRi (by simp [stp, rngS, c121_6, c127_7]) rfl rfl)
      · refine hV.icmp_gt_f (tgt := 135) dX3_stateBehind_127 (by decide) c127_7 ?_
        refine hV.bipush (v := 6) dX3_stateBehind_130 (by decide) ?_
        refine hV.goto (tgt := 136) dX3_stateBehind_132 (by decide) ?_
        exact hE.1 dX3_stateBehind_136 rfl rfl (by decide) (by decide) (zRi (by simp [stp, rngS, c121_6, c127_7]) rfl rfl)
  · skip
    show V 0 [(0, .int 6), (1, .int c)] [] (h) n 0 0
    refine hV.iload_n 0 dX3_stateBehind_0 rfl ?_
    refine hV.tblin (off := 136) (tgt := 137) dX3_stateBehind_1 (by decide) (by decide) (by decide) (by decide) ?_
    refine hV.iload_n 1 dX3_stateBehind_137 rfl ?_
    refine hV.bipush (v := 60) dX3_stateBehind_138 (by decide) ?_
    by_cases c140_8 : c = 60
    · refine hV.icmp_eq_t (tgt := 155) dX3_stateBehind_140 (by decide) c140_8 ?_
      refine hV.bipush (v := 10) dX3_stateBehind_155 (by decide) ?_
      refine hV.goto (tgt := 161) dX3_stateBehind_157 (by decide) ?_
      exact hE.1 dX3_stateBehind_161 rfl rfl (by decide) (by decide) (zRi (by simp [stp, rngS, c140_8]) rfl rfl)
    · refine hV.icmp_eq_f (tgt := 155) dX3_stateBehind_140 (by decide) c140_8 ?_
      refine hV.iload_n 1 dX3_stateBehind_143 rfl ?_
      refine hV.bipush (v := 124) dX3_stateBehind_144 (by decide) ?_
      by_cases c146_9 : c = 124
      · refine hV.icmp_eq_t (tgt := 155) dX3_stateBehind_146 (by decide) c146_9 ?_
        refine hV.bipush (v := 10) dX3_stateBehind_155 (by decide) ?_
        refine hV.goto (tgt := 161) dX3_stateBehind_157 (by decide) ?_
        exact hE.1 dX3_stateBehind_161 rfl rfl (by decide) (by decide) (zRi (by simp [stp, rngS, c140_8, c146_9]) rfl rfl)
      · refine hV.icmp_eq_f (tgt := 155) dX3_stateBehind_146 (by decide) c146_9 ?_
        refine hV.iload_n 1 dX3_stateBehind_149 rfl ?_
        refine hV.bipush (v := 62) dX3_stateBehind_150 (by decide) ?_
        by_cases c152_10 : c = 62
        · refine hV.icmp_ne_f (tgt := 160) dX3_stateBehind_152 (by decide) c152_10 ?_
          refine hV.bipush (v := 10) dX3_stateBehind_155 (by decide) ?_
          refine hV.goto (tgt := 161) dX3_stateBehind_157 (by decide) ?_
          exact hE.1 dX3_stateBehind_161 rfl rfl (by decide) (by decide) (zRi (by simp [stp, rngS, c140_8, c146_9, c152_10]) rfl rfl)
        · refine hV.icmp_ne_t (tgt := 160) dX3_stateBehind_152 (by decide) c152_10 ?_
          refine hV.iconst (v := (-1)) dX3_stateBehind_160 (by decide) ?_
          exact hE.1 dX3_stateBehind_161 rfl rfl (by decide) (by decide) (zRi (by simp [stp, rngS, c140_8, c146_9, c152_10]) rfl rfl)
  · skip
    show V 0 [(0, .int 7), (1, .int c)] [] (h) n 0 0
    refine hV.iload_n 0 dX3_stateBehind_0 rfl ?_
    refine hV.tblin (off := 161) (tgt := 162) dX3_stateBehind_1 (by decide) (by decide) (by decide) (by decide) ?_
    refine hV.iload_n 1 dX3_stateBehind_162 rfl ?_
    refine hV.bipush (v := 49) dX3_stateBehind_163 (by decide) ?_
    by_cases c165_11 : c < 49
    · refine hV.icmp_lt_t (tgt := 179) dX3_stateBehind_165 (by decide) c165_11 ?_
      refine hV.iconst (v := (-1)) dX3_stateBehind_179 (by decide) ?_
      exact hE.1 dX3_stateBehind_180 rfl rfl (by decide) (by decide) (zRi (by simp [stp, rngS, c165_11]) rfl rfl)
    · refine hV.icmp_lt_f (tgt := 179) dX3_stateBehind_165 (by decide) c165_11 ?_
      refine hV.iload_n 1 dX3_stateBehind_168 rfl ?_
      refine hV.bipush (v := 57) dX3_stateBehind_169 (by decide) ?_
      by_cases c171_12 : 57 < c
      · refine hV.icmp_gt_t (tgt := 179) dX3_stateBehind_171 (by decide) c171_12 ?_
        refine hV.iconst (v := (-1)) dX3_stateBehind_179 (by decide) ?_
        exact hE.1 dX3_stateBehind_180 rfl rfl (by decide) (by decide) (zRi (by simp [stp, rngS, c165_11, c171_12]) rfl rfl)
      · refine hV.icmp_gt_f (tgt := 179) dX3_stateBehind_171 (by decide) c171_12 ?_
        refine hV.bipush (v := 8) dX3_stateBehind_174 (by decide) ?_
        refine hV.goto (tgt := 180) dX3_stateBehind_176 (by decide) ?_
        exact hE.1 dX3_stateBehind_180 rfl rfl (by decide) (by decide) (zRi (by simp [stp, rngS, c165_11, c171_12]) rfl rfl)
  · skip
    show V 0 [(0, .int 8), (1, .int c)] [] (h) n 0 0
    refine hV.iload_n 0 dX3_stateBehind_0 rfl ?_
    refine hV.tblin (off := 180) (tgt := 181) dX3_stateBehind_1 (by decide) (by decide) (by decide) (by decide) ?_
    refine hV.iload_n 1 dX3_stateBehind_181 rfl ?_
    refine hV.bipush (v := 48) dX3_stateBehind_182 (by decide) ?_
    by_cases c184_13 : c < 48
    · refine hV.icmp_lt_t (tgt := 198) dX3_stateBehind_184 (by decide) c184_13 ?_
      refine hV.iload_n 1 dX3_stateBehind_198 rfl ?_
      refine hV.callS1 (rest := []) dX3_stateBehind_199 (c_X3_stateBehindEnd G) my_X3_stateBehindEnd ks_X3_30 rfl rfl (Nat.le_of_ble_eq_true rfl) (Nat.le_of_ble_eq_true rfl) (Nat.le_of_ble_eq_true rfl) (Nat.le_of_ble_eq_true rfl) (Nat.le_of_ble_eq_true rfl) (st2 := [.int (sEnd c)]) (k2 := 0) (g2 := 0) rfl rfl rfl ?_
      exact hE.1 dX3_stateBehind_202 rfl rfl (by decide) (by decide) (zRi (by simp [stp, rngS, c184_13]) rfl rfl)
    · refine hV.icmp_lt_f (tgt := 198) dX3_stateBehind_184 (by decide) c184_13 ?_
      refine hV.iload_n 1 dX3_stateBehind_187 rfl ?_
      refine hV.bipush (v := 57) dX3_stateBehind_188 (by decide) ?_
      by_cases c190_14 : 57 < c
      · refine hV.icmp_gt_t (tgt := 198) dX3_stateBehind_190 (by decide) c190_14 ?_
        refine hV.iload_n 1 dX3_stateBehind_198 rfl ?_
        refine hV.callS1 (rest := []) dX3_stateBehind_199 (c_X3_stateBehindEnd G) my_X3_stateBehindEnd ks_X3_30 rfl rfl (Nat.le_of_ble_eq_true rfl) (Nat.le_of_ble_eq_true rfl) (Nat.le_of_ble_eq_true rfl) (Nat.le_of_ble_eq_true rfl) (Nat.le_of_ble_eq_true rfl) (st2 := [.int (sEnd c)]) (k2 := 0) (g2 := 0) rfl rfl rfl ?_
        exact hE.1 dX3_stateBehind_202 rfl rfl (by decide) (by decide) (zRi (by simp [stp, rngS, c184_13, c190_14]) rfl rfl)
      · refine hV.icmp_gt_f (tgt := 198) dX3_stateBehind_190 (by decide) c190_14 ?_
        refine hV.bipush (v := 10) dX3_stateBehind_193 (by decide) ?_
        refine hV.goto (tgt := 202) dX3_stateBehind_195 (by decide) ?_
        exact hE.1 dX3_stateBehind_202 rfl rfl (by decide) (by decide) (zRi (by simp [stp, rngS, c184_13, c190_14]) rfl rfl)
  · skip
    show V 0 [(0, .int 9), (1, .int c)] [] (h) n 0 0
    refine hV.iload_n 0 dX3_stateBehind_0 rfl ?_
    refine hV.tblin (off := 202) (tgt := 203) dX3_stateBehind_1 (by decide) (by decide) (by decide) (by decide) ?_
    refine hV.iload_n 1 dX3_stateBehind_203 rfl ?_
    refine hV.bipush (v := 48) dX3_stateBehind_204 (by decide) ?_
    by_cases c206_15 : c = 48
    · refine hV.icmp_ne_f (tgt := 214) dX3_stateBehind_206 (by decide) c206_15 ?_
      refine hV.bipush (v := 10) dX3_stateBehind_209 (by decide) ?_
      refine hV.goto (tgt := 218) dX3_stateBehind_211 (by decide) ?_
      exact hE.1 dX3_stateBehind_218 rfl rfl (by decide) (by decide) (zRi (by simp [stp, rngS, c206_15]) rfl rfl)
    · refine hV.icmp_ne_t (tgt := 214) dX3_stateBehind_206 (by decide) c206_15 ?_
      refine hV.iload_n 1 dX3_stateBehind_214 rfl ?_
      refine hV.callS1 (rest := []) dX3_stateBehind_215 (c_X3_stateBehindEnd G) my_X3_stateBehindEnd ks_X3_30 rfl rfl (Nat.le_of_ble_eq_true rfl) (Nat.le_of_ble_eq_true rfl) (Nat.le_of_ble_eq_true rfl) (Nat.le_of_ble_eq_true rfl) (Nat.le_of_ble_eq_true rfl) (st2 := [.int (sEnd c)]) (k2 := 0) (g2 := 0) rfl rfl rfl ?_
      exact hE.1 dX3_stateBehind_218 rfl rfl (by decide) (by decide) (zRi (by simp [stp, rngS, c206_15]) rfl rfl)
  · skip
    show V 0 [(0, .int 10), (1, .int c)] [] (h) n 0 0
    refine hV.iload_n 0 dX3_stateBehind_0 rfl ?_
    refine hV.tblin (off := 218) (tgt := 219) dX3_stateBehind_1 (by decide) (by decide) (by decide) (by decide) ?_
    refine hV.iload_n 1 dX3_stateBehind_219 rfl ?_
    refine hV.callS1 (rest := []) dX3_stateBehind_220 (c_X3_stateBehindEnd G) my_X3_stateBehindEnd ks_X3_30 rfl rfl (Nat.le_of_ble_eq_true rfl) (Nat.le_of_ble_eq_true rfl) (Nat.le_of_ble_eq_true rfl) (Nat.le_of_ble_eq_true rfl) (Nat.le_of_ble_eq_true rfl) (st2 := [.int (sEnd c)]) (k2 := 0) (g2 := 0) rfl rfl rfl ?_
    exact hE.1 dX3_stateBehind_223 rfl rfl (by decide) (by decide) (zRi (by simp [stp, rngS]) rfl rfl)

set_option maxRecDepth 100000 in
set_option maxHeartbeats 4000000 in
theorem c_X3_add {l : Launch} {D : va_G} {base : Nat} (G : l.stackTraces = false) {h : zH} {n : Nat} {b L : Nat} {β : zB} {φ : Nat → Int32} (hL : φ 0 = nI L) (hL2 : L ≤ 60) {v : Int32} :
    zCt l D base 1 yX3_add w_X3_add [.ref b, .int v] (setT h b φ β) n 0 0 (zR (some (.int (if L < 60 then 1 else 0))) (setT h b (if L < 60 then va_up φ 0 (nI (L + 1)) else φ) (if L < 60 then up2 β 0 L v else β)) (n)) := by
  refine zCt.of G (by decide) (Nat.le_of_ble_eq_true rfl) (fun Sx V X hV hE hX => ?_)
  show V 0 [(0, .ref b), (1, .int v)] [] (setT h b φ β) n 0 0
  refine hV.aload_n 0 dX3_add_0 rfl ?_
  refine hV.getf (v := .int (φ 0)) dX3_add_1 fl_X3_15 T_o rfl ?_
  refine zTop (v := nI L) hL ?_
  refine hV.bipush (v := 60) dX3_add_4 (by decide) ?_
  by_cases c6_1 : L < 60
  · refine hV.icmp_lt_t (tgt := 11) dX3_add_6 (by decide) ((nI_ltI (a := L) (b := 60) (by omega) (by omega)).mpr c6_1) ?_
    refine hV.aload_n 0 dX3_add_11 rfl ?_
    refine hV.getf (v := .ref (b + 1)) dX3_add_12 fl_X3_9 T_o rfl ?_
    refine hV.aload_n 0 dX3_add_15 rfl ?_
    refine hV.getf (v := .int (φ 0)) dX3_add_16 fl_X3_15 T_o rfl ?_
    refine zTop (v := nI L) hL ?_
    refine hV.iload_n 1 dX3_add_19 rfl ?_
    refine hV.iast (j := L) dX3_add_20 T_a0 (zix_nI (by omega)) (by omega) T_p0 ?_
    refine hV.aload_n 0 dX3_add_21 rfl ?_
    refine hV.dup dX3_add_22 rfl ?_
    refine hV.getf (v := .int (φ 0)) dX3_add_23 fl_X3_15 T_o rfl ?_
    refine zTop (v := nI L) hL ?_
    refine hV.iconst (v := 1) dX3_add_26 (by decide) ?_
    refine hV.iaddN (a := L) (b := 1) dX3_add_27 ?_
    refine hV.putf dX3_add_28 fp_X3_15 T_o (Nat.le_of_ble_eq_true rfl) rfl rfl T_f0 ?_
    refine hV.iconst (v := 1) dX3_add_31 (by decide) ?_
    exact hE.1 dX3_add_32 rfl rfl (by decide) (by decide) (zRi (by simp [c6_1]) (by simp [c6_1]) rfl)
  · refine hV.icmp_lt_f (tgt := 11) dX3_add_6 (by decide) (fun q => absurd ((nI_ltI (a := L) (b := 60) (by omega) (by omega)).mp q) c6_1) ?_
    refine hV.iconst (v := 0) dX3_add_9 (by decide) ?_
    exact hE.1 dX3_add_10 rfl rfl (by decide) (by decide) (zRi (by simp [c6_1]) (by simp [c6_1]) rfl)

set_option maxRecDepth 100000 in
set_option maxHeartbeats 4000000 in
theorem c_X3_clear {l : Launch} {D : va_G} {base : Nat} (G : l.stackTraces = false) {h : zH} {n : Nat} {b : Nat} {β : zB} {φ : Nat → Int32} :
    zCt l D base 1 yX3_clear w_X3_clear [.ref b] (setT h b φ β) n 0 0 (zR (some (.int (φ 0))) (setT h b (va_up φ 0 0) β) (n)) := by
  refine zCt.of G (by decide) (Nat.le_of_ble_eq_true rfl) (fun Sx V X hV hE hX => ?_)
  show V 0 [(0, .ref b)] [] (setT h b φ β) n 0 0
  refine hV.aload_n 0 dX3_clear_0 rfl ?_
  refine hV.getf (v := .int (φ 0)) dX3_clear_1 fl_X3_15 T_o rfl ?_
  refine hV.istore_n (ls2 := [(1, .int (φ 0)), (0, .ref b)]) dX3_clear_4 (by decide) rfl ?_
  refine hV.aload_n 1 dX3_clear_5 rfl ?_
  refine hV.iconst (v := 0) dX3_clear_6 (by decide) ?_
  refine hV.putf dX3_clear_7 fp_X3_15 T_o (Nat.le_of_ble_eq_true rfl) rfl rfl T_f0 ?_
  refine hV.iload_n 0 dX3_clear_10 rfl ?_
  exact hE.1 dX3_clear_11 rfl rfl (by decide) (by decide) (zRi rfl rfl rfl)

set_option maxRecDepth 100000 in
set_option maxHeartbeats 4000000 in
theorem c_X3_codeAt {l : Launch} {D : va_G} {base : Nat} (G : l.stackTraces = false) {h : zH} {n : Nat} {b L : Nat} {β : zB} {φ : Nat → Int32} (hL : φ 0 = nI L) (hL2 : L ≤ 60) {p : Nat} (hp : p < 2 ^ 31) :
    zCt l D base 1 yX3_codeAt w_X3_codeAt [.ref b, .int (nI p)] (setT h b φ β) n 0 0 (zR (some (.int (cAt (β 0) L p))) (setT h b φ β) (n)) := by
  refine zCt.of G (by decide) (Nat.le_of_ble_eq_true rfl) (fun Sx V X hV hE hX => ?_)
  show V 0 [(0, .ref b), (1, .int (nI p))] [] (setT h b φ β) n 0 0
  refine hV.iload_n 1 dX3_codeAt_0 rfl ?_
  refine hV.if_lt_f (tgt := 21) dX3_codeAt_1 (by decide) (nI_pos (by omega)) ?_
  refine hV.iload_n 1 dX3_codeAt_4 rfl ?_
  refine hV.aload_n 0 dX3_codeAt_5 rfl ?_
  refine hV.getf (v := .int (φ 0)) dX3_codeAt_6 fl_X3_15 T_o rfl ?_
  refine zTop (v := nI L) hL ?_
  by_cases c9_1 : L ≤ p
  · refine hV.icmp_ge_t (tgt := 21) dX3_codeAt_9 (by decide) ((nI_leI (a := L) (b := p) (by omega) (by omega)).mpr c9_1) ?_
    refine hV.iconst (v := (-1)) dX3_codeAt_21 (by decide) ?_
    exact hE.1 dX3_codeAt_22 rfl rfl (by decide) (by decide) (zRi (by simp [cAt, c9_1]) rfl rfl)
  · refine hV.icmp_ge_f (tgt := 21) dX3_codeAt_9 (by decide) (fun q => absurd ((nI_leI (a := L) (b := p) (by omega) (by omega)).mp q) c9_1) ?_
    refine hV.aload_n 0 dX3_codeAt_12 rfl ?_
    refine hV.getf (v := .ref (b + 1)) dX3_codeAt_13 fl_X3_9 T_o rfl ?_
    refine hV.iload_n 1 dX3_codeAt_16 rfl ?_
    refine hV.iald (j := p) dX3_codeAt_17 T_a0 (zix_nI (by omega)) (by omega) ?_
    refine hV.goto (tgt := 22) dX3_codeAt_18 (by decide) ?_
    exact hE.1 dX3_codeAt_22 rfl rfl (by decide) (by decide) (zRi (by simp [cAt, c9_1]) rfl rfl)

set_option maxRecDepth 100000 in
set_option maxHeartbeats 4000000 in
theorem c_X3_endsPart {l : Launch} {D : va_G} {base : Nat} (G : l.stackTraces = false) {h : zH} {n : Nat} {b L : Nat} {β : zB} {φ : Nat → Int32} (hL : φ 0 = nI L) (hL2 : L ≤ 60) {p : Nat} (hp : p < 2 ^ 31) :
    zCt l D base 2 yX3_endsPart w_X3_endsPart [.ref b, .int (nI p)] (setT h b φ β) n 0 0 (zR (some (.int (ePart (β 0) L p))) (setT h b φ β) (n)) := by
  refine zCt.of G (by decide) (Nat.le_of_ble_eq_true rfl) (fun Sx V X hV hE hX => ?_)
  show V 0 [(0, .ref b), (1, .int (nI p))] [] (setT h b φ β) n 0 0
  refine hV.iload_n 1 dX3_endsPart_0 rfl ?_
  refine hV.aload_n 0 dX3_endsPart_1 rfl ?_
  refine hV.getf (v := .int (φ 0)) dX3_endsPart_2 fl_X3_15 T_o rfl ?_
  refine zTop (v := nI L) hL ?_
  by_cases c5_1 : p = L
  · refine hV.icmp_eq_t (tgt := 18) dX3_endsPart_5 (by decide) ((nI_eq (a := p) (b := L) (by omega) (by omega)).mpr c5_1) ?_
    refine hV.iconst (v := 1) dX3_endsPart_18 (by decide) ?_
    refine hV.goto (tgt := 23) dX3_endsPart_19 (by decide) ?_
    exact hE.1 dX3_endsPart_23 rfl rfl (by decide) (by decide) (zRi (by simp [ePart, c5_1]) rfl rfl)
  · refine hV.icmp_eq_f (tgt := 18) dX3_endsPart_5 (by decide) (fun q => absurd ((nI_eq (a := p) (b := L) (by omega) (by omega)).mp q) c5_1) ?_
    refine hV.aload_n 0 dX3_endsPart_8 rfl ?_
    refine hV.iload_n 1 dX3_endsPart_9 rfl ?_
    refine hV.callV1 (rest := []) dX3_endsPart_10 (c_X3_codeAt G (p := p) hL hL2 (by omega)) my_X3_codeAt kv_X3_33 T_o rfl rfl rfl (Nat.le_of_ble_eq_true rfl) (Nat.le_of_ble_eq_true rfl) (Nat.le_of_ble_eq_true rfl) (Nat.le_of_ble_eq_true rfl) (Nat.le_of_ble_eq_true rfl) (st2 := [.int (cAt (β 0) L p)]) (k2 := 0) (g2 := 0) rfl rfl rfl ?_
    refine hV.bipush (v := 59) dX3_endsPart_13 (by decide) ?_
    by_cases c15_2 : (cAt (β 0) L p) = 59
    · refine hV.icmp_ne_f (tgt := 22) dX3_endsPart_15 (by decide) c15_2 ?_
      refine hV.iconst (v := 1) dX3_endsPart_18 (by decide) ?_
      refine hV.goto (tgt := 23) dX3_endsPart_19 (by decide) ?_
      exact hE.1 dX3_endsPart_23 rfl rfl (by decide) (by decide) (zRi (by simp [ePart, c5_1, c15_2]) rfl rfl)
    · refine hV.icmp_ne_t (tgt := 22) dX3_endsPart_15 (by decide) c15_2 ?_
      refine hV.iconst (v := 0) dX3_endsPart_22 (by decide) ?_
      exact hE.1 dX3_endsPart_23 rfl rfl (by decide) (by decide) (zRi (by simp [ePart, c5_1, c15_2]) rfl rfl)

set_option maxRecDepth 100000 in
set_option maxHeartbeats 4000000 in
theorem c_X3_digitBelow {l : Launch} {D : va_G} {base : Nat} (G : l.stackTraces = false) {h : zH} {n : Nat} {b L : Nat} {β : zB} {φ : Nat → Int32} (hL : φ 0 = nI L) (hL2 : L ≤ 60) {p : Nat} {w : Int32} (hp : p < 2 ^ 31) :
    zCt l D base 2 yX3_digitBelow w_X3_digitBelow [.ref b, .int w, .int (nI p)] (setT h b φ β) n 0 0 (zR (some (.int (dBl (β 0) L w p))) (setT h b φ β) (n)) := by
  refine zCt.of G (by decide) (Nat.le_of_ble_eq_true rfl) (fun Sx V X hV hE hX => ?_)
  show V 0 [(0, .ref b), (1, .int w), (2, .int (nI p))] [] (setT h b φ β) n 0 0
  refine hV.aload_n 0 dX3_digitBelow_0 rfl ?_
  refine hV.iload_n 2 dX3_digitBelow_1 rfl ?_
  refine hV.callV1 (rest := []) dX3_digitBelow_2 (c_X3_codeAt G (p := p) hL hL2 (by omega)) my_X3_codeAt kv_X3_33 T_o rfl rfl rfl (Nat.le_of_ble_eq_true rfl) (Nat.le_of_ble_eq_true rfl) (Nat.le_of_ble_eq_true rfl) (Nat.le_of_ble_eq_true rfl) (Nat.le_of_ble_eq_true rfl) (st2 := [.int (cAt (β 0) L p)]) (k2 := 0) (g2 := 0) rfl rfl rfl ?_
  refine hV.bipush (v := 48) dX3_digitBelow_5 (by decide) ?_
  refine hV.isub dX3_digitBelow_7 ?_
  refine hV.istore_n (ls2 := [(3, .int ((cAt (β 0) L p) - 48)), (0, .ref b), (1, .int w), (2, .int (nI p))]) dX3_digitBelow_8 (by decide) rfl ?_
  refine hV.iload_n 0 dX3_digitBelow_9 rfl ?_
  by_cases c10_1 : ((cAt (β 0) L p) - 48) < 0
  · refine hV.if_lt_t (tgt := 22) dX3_digitBelow_10 (by decide) c10_1 ?_
    refine hV.iconst (v := 0) dX3_digitBelow_22 (by decide) ?_
    exact hE.1 dX3_digitBelow_23 rfl rfl (by decide) (by decide) (zRi (by simp [dBl, c10_1]) rfl rfl)
  · refine hV.if_lt_f (tgt := 22) dX3_digitBelow_10 (by decide) c10_1 ?_
    refine hV.iload_n 0 dX3_digitBelow_13 rfl ?_
    refine hV.iload_n 2 dX3_digitBelow_14 rfl ?_
    by_cases c15_2 : w ≤ ((cAt (β 0) L p) - 48)
    · refine hV.icmp_ge_t (tgt := 22) dX3_digitBelow_15 (by decide) c15_2 ?_
      refine hV.iconst (v := 0) dX3_digitBelow_22 (by decide) ?_
      exact hE.1 dX3_digitBelow_23 rfl rfl (by decide) (by decide) (zRi (by simp [dBl, c10_1, c15_2]) rfl rfl)
    · refine hV.icmp_ge_f (tgt := 22) dX3_digitBelow_15 (by decide) c15_2 ?_
      refine hV.iload_n 0 dX3_digitBelow_18 rfl ?_
      refine hV.goto (tgt := 23) dX3_digitBelow_19 (by decide) ?_
      exact hE.1 dX3_digitBelow_23 rfl rfl (by decide) (by decide) (zRi (by simp [dBl, c10_1, c15_2]) rfl rfl)

set_option maxRecDepth 100000 in
set_option maxHeartbeats 4000000 in
theorem c_X3_bendAt {l : Launch} {D : va_G} {base : Nat} (G : l.stackTraces = false) {h : zH} {n : Nat} {b L : Nat} {β : zB} {φ : Nat → Int32} (hL : φ 0 = nI L) (hL2 : L ≤ 60) {p : Nat} (hp : p < 2 ^ 31) :
    zCt l D base 2 yX3_bendAt w_X3_bendAt [.ref b, .int (nI p)] (setT h b φ β) n 0 0 (zR (some (.int (bAt (β 0) L p))) (setT h b φ β) (n)) := by
  refine zCt.of G (by decide) (Nat.le_of_ble_eq_true rfl) (fun Sx V X hV hE hX => ?_)
  show V 0 [(0, .ref b), (1, .int (nI p))] [] (setT h b φ β) n 0 0
  refine hV.aload_n 0 dX3_bendAt_0 rfl ?_
  refine hV.iload_n 1 dX3_bendAt_1 rfl ?_
  refine hV.callV1 (rest := []) dX3_bendAt_2 (c_X3_codeAt G (p := p) hL hL2 (by omega)) my_X3_codeAt kv_X3_33 T_o rfl rfl rfl (Nat.le_of_ble_eq_true rfl) (Nat.le_of_ble_eq_true rfl) (Nat.le_of_ble_eq_true rfl) (Nat.le_of_ble_eq_true rfl) (Nat.le_of_ble_eq_true rfl) (st2 := [.int (cAt (β 0) L p)]) (k2 := 0) (g2 := 0) rfl rfl rfl ?_
  by_cases c5_1 : (cAt (β 0) L p) = 60
  · skip
    refine hV.lookup (off := 27) (tgt := 32) dX3_bendAt_5 (by decide) (by rw [c5_1]; decide) (by decide) ?_
    refine hV.iconst (v := (-1)) dX3_bendAt_32 (by decide) ?_
    exact hE.1 dX3_bendAt_33 rfl rfl (by decide) (by decide) (zRi (by simp [bAt, c5_1]) rfl rfl)
  by_cases c5_2 : (cAt (β 0) L p) = 62
  · skip
    refine hV.lookup (off := 29) (tgt := 34) dX3_bendAt_5 (by decide) (by rw [c5_2]; decide) (by decide) ?_
    refine hV.iconst (v := 1) dX3_bendAt_34 (by decide) ?_
    exact hE.1 dX3_bendAt_35 rfl rfl (by decide) (by decide) (zRi (by simp [bAt, c5_1, c5_2]) rfl rfl)
  refine hV.lookup (off := 31) (tgt := 36) dX3_bendAt_5 (by decide) ((lv_osw c5_1 (by decide)).trans ((lv_osw c5_2 (by decide)).trans rfl)) (by decide) ?_
  refine hV.iconst (v := 0) dX3_bendAt_36 (by decide) ?_
  exact hE.1 dX3_bendAt_37 rfl rfl (by decide) (by decide) (zRi (by simp [bAt, c5_1, c5_2]) rfl rfl)

set_option maxRecDepth 100000 in
set_option maxHeartbeats 4000000 in
theorem c_X3_numberIn {l : Launch} {D : va_G} {base : Nat} (G : l.stackTraces = false) {h : zH} {n : Nat} {b L : Nat} {β : zB} {φ : Nat → Int32} (hL : φ 0 = nI L) (hL2 : L ≤ 60) {p u : Nat} (hp : p < 2 ^ 30) (hu : u < 2 ^ 30) :
    zCt l D base 3 yX3_numberIn w_X3_numberIn [.ref b, .int (nI p), .int (nI u)] (setT h b φ β) n 0 0 (zR (some (.int (nmF (β 0) L p (u - p)))) (setT h b φ β) (n)) := by
  refine zCt.of G (by decide) (Nat.le_of_ble_eq_true rfl) (fun Sx V X hV hE hX => ?_)
  show V 0 [(0, .ref b), (1, .int (nI p)), (2, .int (nI u))] [] (setT h b φ β) n 0 0
  refine hV.iconst (v := 0) dX3_numberIn_0 (by decide) ?_
  refine hV.istore_n (ls2 := [(3, .int 0), (0, .ref b), (1, .int (nI p)), (2, .int (nI u))]) dX3_numberIn_1 (by decide) rfl ?_
  refine hV.iload_n 2 dX3_numberIn_2 rfl ?_
  refine hV.istore (ls2 := [(4, .int (nI p)), (3, .int 0), (0, .ref b), (1, .int (nI p)), (2, .int (nI u))]) dX3_numberIn_3 (by decide) rfl ?_
  rcases Nat.lt_or_ge u p with hup | hup
  · skip
    refine hV.iload 0 dX3_numberIn_5 rfl ?_
    refine hV.iload_n 4 dX3_numberIn_7 rfl ?_
    refine hV.icmp_ge_t (tgt := 31) dX3_numberIn_8 (by decide) ((nI_leI (a := u) (b := p) (by omega) (by omega)).mpr (by omega)) ?_
    refine hV.iload_n 1 dX3_numberIn_31 rfl ?_
    exact hE.1 dX3_numberIn_32 rfl rfl (by decide) (by decide) (zRi (by rw [show u - p = 0 by omega]; rfl) rfl rfl)
  · skip
    have loop : ∀ (r i : Nat) (s : Int32), i + r = u - p → (s = nmF (β 0) L p i) → V 5 [(4, .int (nI (p + i))), (3, .int s), (0, .ref b), (1, .int (nI p)), (2, .int (nI u))] [] (setT h b φ β) n 0 0 := by
      intro r
      induction r with
      | zero =>
        intro i s hi hs
        refine hV.iload 0 dX3_numberIn_5 rfl ?_
        refine hV.iload_n 4 dX3_numberIn_7 rfl ?_
        refine hV.icmp_ge_t (tgt := 31) dX3_numberIn_8 (by decide) ((nI_leI (a := u) (b := p + i) (by omega) (by omega)).mpr (by omega)) ?_
        refine hV.iload_n 1 dX3_numberIn_31 rfl ?_
        exact hE.1 dX3_numberIn_32 rfl rfl (by decide) (by decide) (zRi (by have e : i = u - p := (by omega); rw [hs, e]) rfl rfl)
      | succ r ih =>
        intro i s hi hs
        refine hV.iload 0 dX3_numberIn_5 rfl ?_
        refine hV.iload_n 4 dX3_numberIn_7 rfl ?_
        refine hV.icmp_ge_f (tgt := 31) dX3_numberIn_8 (by decide) (fun q => absurd ((nI_leI (a := u) (b := p + i) (by omega) (by omega)).mp q) (by omega)) ?_
        refine hV.bipush (v := 10) dX3_numberIn_11 (by decide) ?_
        refine hV.iload_n 1 dX3_numberIn_13 rfl ?_
        refine hV.imul dX3_numberIn_14 ?_
        refine hV.aload_n 2 dX3_numberIn_15 rfl ?_
        refine hV.bipush (v := 10) dX3_numberIn_16 (by decide) ?_
        refine hV.iload 0 dX3_numberIn_18 rfl ?_
        refine hV.callV1 (rest := [.int (10 * s)]) dX3_numberIn_20 (c_X3_digitBelow G (p := p + i) (w := 10) hL hL2 (by omega)) my_X3_digitBelow kv_X3_36 T_o rfl rfl rfl (Nat.le_of_ble_eq_true rfl) (Nat.le_of_ble_eq_true rfl) (Nat.le_of_ble_eq_true rfl) (Nat.le_of_ble_eq_true rfl) (Nat.le_of_ble_eq_true rfl) (st2 := [.int (dBl (β 0) L 10 (p + i)), .int (10 * s)]) (k2 := 0) (g2 := 0) rfl rfl rfl ?_
        refine hV.iadd dX3_numberIn_23 ?_
        refine hV.istore_n (ls2 := [(3, .int ((10 * s) + (dBl (β 0) L 10 (p + i)))), (4, .int (nI (p + i))), (0, .ref b), (1, .int (nI p)), (2, .int (nI u))]) dX3_numberIn_24 (by decide) rfl ?_
        refine hV.iinc 1 (v := nI (p + i + 1)) (ls2 := [(4, .int (nI (p + i + 1))), (3, .int ((10 * s) + (dBl (β 0) L 10 (p + i)))), (0, .ref b), (1, .int (nI p)), (2, .int (nI u))]) dX3_numberIn_25 rfl (nI_1 _) (by decide) rfl ?_
        refine hV.goto (tgt := 5) dX3_numberIn_28 (by decide) ?_
        exact ih (i + 1) _ (by omega) (by rw [hs]; rfl)
    exact loop (u - p) 0 _ (by omega) rfl

set_option maxRecDepth 100000 in
set_option maxHeartbeats 4000000 in
theorem c_X3_placeOfError {l : Launch} {D : va_G} {base : Nat} (G : l.stackTraces = false) {h : zH} {n : Nat} {b L : Nat} {β : zB} {φ : Nat → Int32} (hL : φ 0 = nI L) (hL2 : L ≤ 60) :
    zCt l D base 3 yX3_placeOfError w_X3_placeOfError [.ref b] (setT h b φ β) n 0 0 (zR (some (.int (nI (errAt (β 0) L 0)))) (setT h b φ β) (n)) := by
  refine zCt.of G (by decide) (Nat.le_of_ble_eq_true rfl) (fun Sx V X hV hE hX => ?_)
  show V 0 [(0, .ref b)] [] (setT h b φ β) n 0 0
  refine hV.iconst (v := 0) dX3_placeOfError_0 (by decide) ?_
  refine hV.istore_n (ls2 := [(1, .int 0), (0, .ref b)]) dX3_placeOfError_1 (by decide) rfl ?_
  refine hV.iconst (v := 0) dX3_placeOfError_2 (by decide) ?_
  refine hV.istore_n (ls2 := [(2, .int 0), (1, .int 0), (0, .ref b)]) dX3_placeOfError_3 (by decide) rfl ?_
  have loop : ∀ (k j : Nat) (s : Int32), j + k = L → (s = stN (β 0) j) → (errAt (β 0) k j = errAt (β 0) L 0) → V 4 [(2, .int (nI j)), (1, .int s), (0, .ref b)] [] (setT h b φ β) n 0 0 := by
    intro k
    induction k with
    | zero =>
      intro j s hj hs he
      refine hV.iload_n 0 dX3_placeOfError_4 rfl ?_
      refine hV.aload_n 2 dX3_placeOfError_5 rfl ?_
      refine hV.getf (v := .int (φ 0)) dX3_placeOfError_6 fl_X3_15 T_o rfl ?_
      refine zTop (v := nI L) hL ?_
      refine hV.icmp_ge_t (tgt := 36) dX3_placeOfError_9 (by decide) ((nI_leI (a := L) (b := j) (by omega) (by omega)).mpr (by omega)) ?_
      refine hV.aload_n 2 dX3_placeOfError_36 rfl ?_
      refine hV.getf (v := .int (φ 0)) dX3_placeOfError_37 fl_X3_15 T_o rfl ?_
      refine zTop (v := nI L) hL ?_
      exact hE.1 dX3_placeOfError_40 rfl rfl (by decide) (by decide) (zRi (by rw [← he]; simp only [errAt]; rw [show j = L by omega]) rfl rfl)
    | succ k ih =>
      intro j s hj hs he
      refine hV.iload_n 0 dX3_placeOfError_4 rfl ?_
      refine hV.aload_n 2 dX3_placeOfError_5 rfl ?_
      refine hV.getf (v := .int (φ 0)) dX3_placeOfError_6 fl_X3_15 T_o rfl ?_
      refine zTop (v := nI L) hL ?_
      refine hV.icmp_ge_f (tgt := 36) dX3_placeOfError_9 (by decide) (fun q => absurd ((nI_leI (a := L) (b := j) (by omega) (by omega)).mp q) (by omega)) ?_
      refine hV.iload_n 1 dX3_placeOfError_12 rfl ?_
      refine hV.aload_n 2 dX3_placeOfError_13 rfl ?_
      refine hV.getf (v := .ref (b + 1)) dX3_placeOfError_14 fl_X3_9 T_o rfl ?_
      refine hV.iload_n 0 dX3_placeOfError_17 rfl ?_
      refine hV.iald (j := j) dX3_placeOfError_18 T_a0 (zix_nI (by omega)) (by omega) ?_
      refine hV.callS1 (rest := []) dX3_placeOfError_19 (c_X3_stateBehind G (s := s) (by rw [hs]; exact stN_ok _ _)) my_X3_stateBehind ks_X3_19 rfl rfl (Nat.le_of_ble_eq_true rfl) (Nat.le_of_ble_eq_true rfl) (Nat.le_of_ble_eq_true rfl) (Nat.le_of_ble_eq_true rfl) (Nat.le_of_ble_eq_true rfl) (st2 := [.int (stp s (β 0 j))]) (k2 := 0) (g2 := 0) rfl rfl rfl ?_
      refine hV.istore_n (ls2 := [(1, .int (stp s (β 0 j))), (2, .int (nI j)), (0, .ref b)]) dX3_placeOfError_22 (by decide) rfl ?_
      refine hV.iload_n 0 dX3_placeOfError_23 rfl ?_
      refine hV.iconst (v := (-1)) dX3_placeOfError_24 (by decide) ?_
      by_cases c25_1 : (stp s (β 0 j)) = (-1)
      · refine hV.icmp_ne_f (tgt := 30) dX3_placeOfError_25 (by decide) c25_1 ?_
        refine hV.iload_n 1 dX3_placeOfError_28 rfl ?_
        exact hE.1 dX3_placeOfError_29 rfl rfl (by decide) (by decide) (zRi (by rw [← he]; simp only [errAt]; rw [if_pos (by simpa [stN, ← hs] using c25_1)]) rfl rfl)
      · refine hV.icmp_ne_t (tgt := 30) dX3_placeOfError_25 (by decide) c25_1 ?_
        refine hV.iinc 1 (v := nI (j + 1)) (ls2 := [(2, .int (nI (j + 1))), (1, .int (stp s (β 0 j))), (0, .ref b)]) dX3_placeOfError_30 rfl (nI_1 _) (by decide) rfl ?_
        refine hV.goto (tgt := 4) dX3_placeOfError_33 (by decide) ?_
        exact ih (j + 1) _ (by omega) (by rw [hs]; rfl) (by rw [← he]; simp only [errAt]; rw [if_neg (by simpa [stN, ← hs] using c25_1)])
  exact loop (L) 0 _ (by omega) rfl rfl

set_option maxRecDepth 100000 in
set_option maxHeartbeats 4000000 in
theorem c_X3_isComplete {l : Launch} {D : va_G} {base : Nat} (G : l.stackTraces = false) {h : zH} {n : Nat} {b L : Nat} {β : zB} {φ : Nat → Int32} (hL : φ 0 = nI L) (hL2 : L ≤ 60) :
    zCt l D base 3 yX3_isComplete w_X3_isComplete [.ref b] (setT h b φ β) n 0 0 (zR (some (.int (if stN (β 0) L < 8 then 0 else 1))) (setT h b φ β) (n)) := by
  refine zCt.of G (by decide) (Nat.le_of_ble_eq_true rfl) (fun Sx V X hV hE hX => ?_)
  show V 0 [(0, .ref b)] [] (setT h b φ β) n 0 0
  refine hV.iconst (v := 0) dX3_isComplete_0 (by decide) ?_
  refine hV.istore_n (ls2 := [(1, .int 0), (0, .ref b)]) dX3_isComplete_1 (by decide) rfl ?_
  refine hV.iconst (v := 0) dX3_isComplete_2 (by decide) ?_
  refine hV.istore_n (ls2 := [(2, .int 0), (1, .int 0), (0, .ref b)]) dX3_isComplete_3 (by decide) rfl ?_
  have loop : ∀ (k j : Nat) (s : Int32), j + k = L → (s = stN (β 0) j) → V 4 [(2, .int (nI j)), (1, .int s), (0, .ref b)] [] (setT h b φ β) n 0 0 := by
    intro k
    induction k with
    | zero =>
      intro j s hj hs
      refine hV.iload_n 0 dX3_isComplete_4 rfl ?_
      refine hV.aload_n 2 dX3_isComplete_5 rfl ?_
      refine hV.getf (v := .int (φ 0)) dX3_isComplete_6 fl_X3_15 T_o rfl ?_
      refine zTop (v := nI L) hL ?_
      refine hV.icmp_ge_t (tgt := 29) dX3_isComplete_9 (by decide) ((nI_leI (a := L) (b := j) (by omega) (by omega)).mpr (by omega)) ?_
      refine hV.iload_n 1 dX3_isComplete_29 rfl ?_
      refine hV.bipush (v := 8) dX3_isComplete_30 (by decide) ?_
      by_cases c32_1 : s < 8
      · refine hV.icmp_lt_t (tgt := 39) dX3_isComplete_32 (by decide) c32_1 ?_
        refine hV.iconst (v := 0) dX3_isComplete_39 (by decide) ?_
        exact hE.1 dX3_isComplete_40 rfl rfl (by decide) (by decide) (zRi (by have e : j = L := (by omega); subst e; rw [← hs]; simp [c32_1]) rfl rfl)
      · refine hV.icmp_lt_f (tgt := 39) dX3_isComplete_32 (by decide) c32_1 ?_
        refine hV.iconst (v := 1) dX3_isComplete_35 (by decide) ?_
        refine hV.goto (tgt := 40) dX3_isComplete_36 (by decide) ?_
        exact hE.1 dX3_isComplete_40 rfl rfl (by decide) (by decide) (zRi (by have e : j = L := (by omega); subst e; rw [← hs]; simp [c32_1]) rfl rfl)
    | succ k ih =>
      intro j s hj hs
      refine hV.iload_n 0 dX3_isComplete_4 rfl ?_
      refine hV.aload_n 2 dX3_isComplete_5 rfl ?_
      refine hV.getf (v := .int (φ 0)) dX3_isComplete_6 fl_X3_15 T_o rfl ?_
      refine zTop (v := nI L) hL ?_
      refine hV.icmp_ge_f (tgt := 29) dX3_isComplete_9 (by decide) (fun q => absurd ((nI_leI (a := L) (b := j) (by omega) (by omega)).mp q) (by omega)) ?_
      refine hV.iload_n 1 dX3_isComplete_12 rfl ?_
      refine hV.aload_n 2 dX3_isComplete_13 rfl ?_
      refine hV.getf (v := .ref (b + 1)) dX3_isComplete_14 fl_X3_9 T_o rfl ?_
      refine hV.iload_n 0 dX3_isComplete_17 rfl ?_
      refine hV.iald (j := j) dX3_isComplete_18 T_a0 (zix_nI (by omega)) (by omega) ?_
      refine hV.callS1 (rest := []) dX3_isComplete_19 (c_X3_stateBehind G (s := s) (by rw [hs]; exact stN_ok _ _)) my_X3_stateBehind ks_X3_19 rfl rfl (Nat.le_of_ble_eq_true rfl) (Nat.le_of_ble_eq_true rfl) (Nat.le_of_ble_eq_true rfl) (Nat.le_of_ble_eq_true rfl) (Nat.le_of_ble_eq_true rfl) (st2 := [.int (stp s (β 0 j))]) (k2 := 0) (g2 := 0) rfl rfl rfl ?_
      refine hV.istore_n (ls2 := [(1, .int (stp s (β 0 j))), (2, .int (nI j)), (0, .ref b)]) dX3_isComplete_22 (by decide) rfl ?_
      refine hV.iinc 1 (v := nI (j + 1)) (ls2 := [(2, .int (nI (j + 1))), (1, .int (stp s (β 0 j))), (0, .ref b)]) dX3_isComplete_23 rfl (nI_1 _) (by decide) rfl ?_
      refine hV.goto (tgt := 4) dX3_isComplete_26 (by decide) ?_
      exact ih (j + 1) _ (by omega) (by rw [hs]; rfl)
  exact loop (L) 0 _ (by omega) rfl
