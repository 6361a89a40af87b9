/-! The reference, 5: ways, what a launch would bring -/
theorem up2_in {μ : zB} {j k i : Nat} {f g : Nat → Int32} {x : Int32} (h : j ≠ k) : up2 (sa (sa μ j f) k g) j i x = sa (sa μ j (va_up f i x)) k g := by
  funext a; unfold up2 sa
  by_cases h1 : a = j
  · simp [h1, h]
  · by_cases h2 : a = k
    · simp [h1, h2, h.symm]
    · simp [h1, h2]
theorem sa2_self (μ : zB) : sa (sa μ 5 (μ 5)) 6 (μ 6) = μ := by rw [sa_self]; exact sa_self μ 6
def pinF (z : zZ) : Nat → Int32 := fun k => z (20 + k)
def ehF (d : Nat → Int32) (c i : Nat) : Nat → Int32 := fun k => if k < i then (if k = c then 1 else 0) else d k
theorem ehF_0 (d : Nat → Int32) (c : Nat) : ehF d c 0 = d := by funext k; unfold ehF; rw [if_neg (by omega)]
theorem ehF_s (d : Nat → Int32) (c i : Nat) : va_up (ehF d c i) i (if i = c then 1 else 0) = ehF d c (i + 1) := by
  funext k
  unfold va_up ehF
  by_cases h1 : k = i
  · subst h1; simp
  · by_cases h2 : k < i
    · simp [h1, h2, show k < i + 1 by omega]
    · simp [h1, h2, show ¬ k < i + 1 by omega]
def fwS (z : zZ) (r : Nat) (q : (Nat → Int32) × (Nat → Int32)) : (Nat → Int32) × (Nat → Int32) := (cpz q.1 (rowN (pinF z) q.1 r (filF q.2 7 0) 7) 7, rowN (pinF z) q.1 r (filF q.2 7 0) 7)
def fwN (z : zZ) (q : (Nat → Int32) × (Nat → Int32)) : Nat → (Nat → Int32) × (Nat → Int32)
  | 0 => q
  | r + 1 => fwS z r (fwN z q r)
def fwQ (z : zZ) (c : Nat) (x y : Nat → Int32) : (Nat → Int32) × (Nat → Int32) := fwN z (ehF x c 7, y) 8
theorem lchZ_hi (z : zZ) {c i : Nat} (hc : c < 7) (hi : 175 ≤ i) : lchZ z c i = z i := by
  unfold lchZ lz5
  show va_up _ _ _ i = _
  rw [va_ne (by omega), comeZ_keep _ _ (Or.inr (by omega)) (by omega) (lzA_lt z hc), ← lzA_eq, falN_keep _ (by omega) 8 (by omega), lz2_keep (by omega)]
theorem cpz_back {w a z : Nat → Int32} (h : ∀ i, 175 ≤ i → w i = z i) : cpz w (cpz a z 175) 175 = z := by
  funext k
  unfold cpz
  by_cases h1 : k < 175
  · rw [if_pos h1, if_pos h1]
  · rw [if_neg h1, h k (by omega)]
def ldV (z : zZ) (c w : Nat) : Int32 := if w = 0 then lchZ z c 12 else if w = 1 then lchZr z c else if w = 2 then lchZ z c 7 else lchZ z c 10
def ltN (c : Nat) : Nat → zZ × Nat → zZ × Nat
  | 0, q => q
  | k + 1, q => if q.1 10 = 0 then ltN c k (lchZ q.1 c, q.2 + 1) else q
def ltV (z : zZ) (c : Nat) : Int32 := if 200 < (ltN c 201 (z, 0)).2 then -1 else nI (ltN c 201 (z, 0)).2
def smN (z : zZ) (w : Nat → Int32) : Nat → Int32
  | 0 => 0
  | p + 1 => smN z w p + (if isOpenZ z p = 0 then 0 else w p * z (132 + 5 * p + 1))
def alN (w : Nat → Int32) : Nat → Int32
  | 0 => 0
  | p + 1 => alN w p + w p
def msV (z : zZ) (w : Nat → Int32) : Int32 := smN z w 7 * 1000 / alN w 7
/-- ways of a column, whatever the rows held before -/
def wv (z : zZ) (c : Nat) : Nat → Int32 := (fwQ z c (fun _ => 0) (fun _ => 0)).1
theorem rowN_ind {f g g2 : Nat → Int32} {r : Nat} {x x2 : Nat → Int32} (hg : ∀ k, k < 7 → g k = g2 k) (hx : ∀ k, k < 7 → x k = x2 k) : ∀ c, c ≤ 7 → ∀ k, k < 7 → rowN f g r x c k = rowN f g2 r x2 c k := by
  intro c
  induction c with
  | zero => intro _ k hk; exact hx k hk
  | succ c ih =>
    intro hc k hk
    have ih := ih (by omega)
    have hup : ∀ (a b : Nat → Int32), (∀ k, k < 7 → a k = b k) → ∀ (i : Nat), i < 7 → ∀ k, k < 7 → va_up a i (a i + g c) k = va_up b i (b i + g2 c) k := by
      intro a b hab i hi k hk
      unfold va_up
      rw [hab i hi, hg c (by omega), hab k hk]
    have h1 : ∀ k, k < 7 → (if 0 < f (r * 7 + c) then rowN f g r x c else va_up (rowN f g r x c) (bnc c (-1)) (rowN f g r x c (bnc c (-1)) + g c)) k = (if 0 < f (r * 7 + c) then rowN f g2 r x2 c else va_up (rowN f g2 r x2 c) (bnc c (-1)) (rowN f g2 r x2 c (bnc c (-1)) + g2 c)) k := by
      intro k hk
      split
      · exact ih k hk
      · exact hup _ _ ih _ (bnc_lt (by omega)) k hk
    simp only [rowN]
    split
    · exact h1 k hk
    · exact hup _ _ h1 _ (bnc_lt (by omega)) k hk
theorem fwN_ind {z : zZ} {q q2 : (Nat → Int32) × (Nat → Int32)} (h : ∀ k, k < 7 → q.1 k = q2.1 k) : ∀ r k, k < 7 → (fwN z q r).1 k = (fwN z q2 r).1 k := by
  intro r
  induction r with
  | zero => exact h
  | succ r ih =>
    intro k hk
    show cpz _ _ 7 k = cpz _ _ 7 k
    unfold cpz
    rw [if_pos hk, if_pos hk]
    refine rowN_ind ih (fun k hk => ?_) 7 (by omega) k hk
    unfold filF
    rw [if_pos hk, if_pos hk]
theorem fwQ_wv {z : zZ} {c : Nat} {x y : Nat → Int32} {k : Nat} (hk : k < 7) : (fwQ z c x y).1 k = wv z c k := by
  refine fwN_ind (fun k hk => ?_) 8 k hk
  show ehF x c 7 k = ehF (fun _ => 0) c 7 k
  unfold ehF
  rw [if_pos hk, if_pos hk]
theorem smN_ind {z : zZ} {w w2 : Nat → Int32} (h : ∀ k, k < 7 → w k = w2 k) : ∀ p, p ≤ 7 → smN z w p = smN z w2 p := by
  intro p
  induction p with
  | zero => intro _; rfl
  | succ p ih => intro hp; simp only [smN]; rw [ih (by omega), h p (by omega)]
theorem alN_ind {w w2 : Nat → Int32} (h : ∀ k, k < 7 → w k = w2 k) : ∀ p, p ≤ 7 → alN w p = alN w2 p := by
  intro p
  induction p with
  | zero => intro _; rfl
  | succ p ih => intro hp; simp only [alN]; rw [ih (by omega), h p (by omega)]
theorem msV_ind {z : zZ} {w w2 : Nat → Int32} (h : ∀ k, k < 7 → w k = w2 k) : msV z w = msV z w2 := by
  unfold msV
  rw [smN_ind h 7 (by omega), alN_ind h 7 (by omega)]
/-- best column and its measure over the columns below i -/
def bcN (z : zZ) : Nat → Int32 × Int32
  | 0 => (-1, -1)
  | c + 1 => if msV z (wv z c) ≤ (bcN z c).2 then bcN z c else (nI c, msV z (wv z c))

set_option maxRecDepth 100000 in
set_option maxHeartbeats 4000000 in
theorem c_X5_findWays {l : Launch} {D : va_G} {base : Nat} (G : l.stackTraces = false) {h : zH} {n : Nat} {b : Nat} {μ : zB} {φ : Nat → Int32} {c : Nat} (hc : c < 7) :
    zCt l D base 4 yX5_findWays w_X5_findWays [.ref b, .int (nI c)] (setM h b φ μ) n 0 0 (zR none (setM h b φ (sa (sa μ 5 ((fwQ (μ 0) c (μ 5) (μ 6)).1)) 6 ((fwQ (μ 0) c (μ 5) (μ 6)).2))) n) := by
  refine zCt.of G (by decide) (Nat.le_of_ble_eq_true rfl) (fun Sx V X hV hE hX => ?_)
  show V 0 [(0, .ref b), (1, .int (nI c))] [] (setM h b φ μ) n 0 0
  refine hV.iconst (v := 0) dX5_findWays_0 (by decide) ?_
  refine hV.istore_n (ls2 := [(2, .int 0), (0, .ref b), (1, .int (nI c))]) dX5_findWays_1 (by decide) rfl ?_
  refine zHeap (h2 := setM h b φ (sa μ 5 (ehF (μ 5) c 0))) (by rw [ehF_0, sa_self]) ?_
  have loop : ∀ (r1 i : Nat) , i + r1 = 7 → V 2 [(2, .int (nI i)), (0, .ref b), (1, .int (nI c))] [] (setM h b φ (sa μ 5 (ehF (μ 5) c i))) n 0 0 := by
    intro r1
    induction r1 with
    | zero =>
      intro i  hi 
      refine hV.iload_n 0 dX5_findWays_2 rfl ?_
      refine hV.bipush (v := 7) dX5_findWays_3 (by decide) ?_
      refine hV.icmp_ge_t (tgt := 30) dX5_findWays_5 (by decide) ((nI_leI (a := 7) (b := i) (by omega) (by omega)).mpr (by omega)) ?_
      have e7 : i = 7 := (by omega)
      subst e7
      refine zHeap (h2 := setM h b φ (sa (sa μ 5 (ehF (μ 5) c 7)) 6 (μ 6))) (by exact congrArg (fun z => setM h b φ z) (sa_self (sa μ 5 (ehF (μ 5) c 7)) 6).symm) ?_
      refine hV.pick [1, 2] (ls2 := [(0, .ref b), (1, .int (nI c))]) rfl ?_
      refine hV.iconst (v := 0) dX5_findWays_30 (by decide) ?_
      refine hV.istore_n (ls2 := [(2, .int 0), (0, .ref b), (1, .int (nI c))]) dX5_findWays_31 (by decide) rfl ?_
      have loop : ∀ (k r : Nat) (x y : Nat → Int32), r + k = 8 → ((x, y) = fwN (μ 0) (ehF (μ 5) c 7, μ 6) r) → V 32 [(2, .int (nI r)), (0, .ref b), (1, .int (nI c))] [] (setM h b φ (sa (sa μ 5 x) 6 y)) n 0 0 := by
        intro k
        induction k with
        | zero =>
          intro r x y hr he
          refine hV.iload_n 0 dX5_findWays_32 rfl ?_
          refine hV.bipush (v := 8) dX5_findWays_33 (by decide) ?_
          refine hV.icmp_ge_t (tgt := 165) dX5_findWays_35 (by decide) ((nI_leI (a := 8) (b := r) (by omega) (by omega)).mpr (by omega)) ?_
          exact hE.2.2.2 dX5_findWays_165 rfl (by decide) (by decide) (zRv (by have e : r = 8 := (by omega); subst e; unfold fwQ; rw [← he]) rfl)
        | succ k ih =>
          intro r x y hr he
          refine hV.iload_n 0 dX5_findWays_32 rfl ?_
          refine hV.bipush (v := 8) dX5_findWays_33 (by decide) ?_
          refine hV.icmp_ge_f (tgt := 165) dX5_findWays_35 (by decide) (fun q => absurd ((nI_leI (a := 8) (b := r) (by omega) (by omega)).mp q) (by omega)) ?_
          refine hV.iconst (v := 0) dX5_findWays_38 (by decide) ?_
          refine hV.istore_n (ls2 := [(3, .int 0), (2, .int (nI r)), (0, .ref b), (1, .int (nI c))]) dX5_findWays_39 (by decide) rfl ?_
          refine zHeap (h2 := setM h b φ (sa (sa μ 5 x) 6 (filF y 0 0))) (by rw [filF_0]) ?_
          have loop2 : ∀ (r2 i : Nat) , i + r2 = 7 → V 40 [(3, .int (nI i)), (2, .int (nI r)), (0, .ref b), (1, .int (nI c))] [] (setM h b φ (sa (sa μ 5 x) 6 (filF y i 0))) n 0 0 := by
            intro r2
            induction r2 with
            | zero =>
              intro i  hi 
              refine hV.iload_n 0 dX5_findWays_40 rfl ?_
              refine hV.bipush (v := 7) dX5_findWays_41 (by decide) ?_
              refine hV.icmp_ge_t (tgt := 59) dX5_findWays_43 (by decide) ((nI_leI (a := 7) (b := i) (by omega) (by omega)).mpr (by omega)) ?_
              have e7 : i = 7 := (by omega)
              rw [e7]
              refine hV.pick [1, 2, 3] (ls2 := [(2, .int (nI r)), (0, .ref b), (1, .int (nI c))]) rfl ?_
              clear e7
              refine hV.iconst (v := 0) dX5_findWays_59 (by decide) ?_
              refine hV.istore_n (ls2 := [(3, .int 0), (2, .int (nI r)), (0, .ref b), (1, .int (nI c))]) dX5_findWays_60 (by decide) rfl ?_
              have loop3 : ∀ (r3 d : Nat) (w : Nat → Int32), d + r3 = 7 → (w = rowN (pinF (μ 0)) x r (filF y 7 0) d) → V 61 [(3, .int (nI d)), (2, .int (nI r)), (0, .ref b), (1, .int (nI c))] [] (setM h b φ (sa (sa μ 5 x) 6 w)) n 0 0 := by
                intro r3
                induction r3 with
                | zero =>
                  intro d w hd hw
                  refine hV.iload_n 0 dX5_findWays_61 rfl ?_
                  refine hV.bipush (v := 7) dX5_findWays_62 (by decide) ?_
                  refine hV.icmp_ge_t (tgt := 133) dX5_findWays_64 (by decide) ((nI_leI (a := 7) (b := d) (by omega) (by omega)).mpr (by omega)) ?_
                  have e7 : d = 7 := (by omega)
                  rw [e7] at hw
                  clear e7
                  refine hV.pick [1, 2, 3] (ls2 := [(2, .int (nI r)), (0, .ref b), (1, .int (nI c))]) rfl ?_
                  refine hV.iconst (v := 0) dX5_findWays_133 (by decide) ?_
                  refine hV.istore_n (ls2 := [(3, .int 0), (2, .int (nI r)), (0, .ref b), (1, .int (nI c))]) dX5_findWays_134 (by decide) rfl ?_
                  refine zHeap (h2 := setM h b φ (sa (sa μ 5 (cpz x w 0)) 6 w)) (by rw [cpz_0]) ?_
                  have loop4 : ∀ (r4 i : Nat) , i + r4 = 7 → V 135 [(3, .int (nI i)), (2, .int (nI r)), (0, .ref b), (1, .int (nI c))] [] (setM h b φ (sa (sa μ 5 (cpz x w i)) 6 w)) n 0 0 := by
                    intro r4
                    induction r4 with
                    | zero =>
                      intro i  hi 
                      refine hV.iload_n 0 dX5_findWays_135 rfl ?_
                      refine hV.bipush (v := 7) dX5_findWays_136 (by decide) ?_
                      refine hV.icmp_ge_t (tgt := 159) dX5_findWays_138 (by decide) ((nI_leI (a := 7) (b := i) (by omega) (by omega)).mpr (by omega)) ?_
                      have e7 : i = 7 := (by omega)
                      refine hV.iinc 1 (v := nI (r + 1)) (ls2 := [(2, .int (nI (r + 1))), (3, .int (nI i)), (0, .ref b), (1, .int (nI c))]) dX5_findWays_159 rfl (nI_1 _) (by decide) rfl ?_
                      refine hV.goto (tgt := 32) dX5_findWays_162 (by decide) ?_
                      refine hV.pick [0, 2, 3] (ls2 := [(2, .int (nI (r + 1))), (0, .ref b), (1, .int (nI c))]) rfl ?_
                      exact ih (r + 1) _ _ (by omega) (by show _ = fwS (μ 0) r (fwN (μ 0) (ehF (μ 5) c 7, μ 6) r); rw [← he, e7]; simp only [fwS]; rw [← hw])
                    | succ r4 ih =>
                      intro i  hi 
                      refine hV.iload_n 0 dX5_findWays_135 rfl ?_
                      refine hV.bipush (v := 7) dX5_findWays_136 (by decide) ?_
                      refine hV.icmp_ge_f (tgt := 159) dX5_findWays_138 (by decide) (fun q => absurd ((nI_leI (a := 7) (b := i) (by omega) (by omega)).mp q) (by omega)) ?_
                      refine hV.aload_n 2 dX5_findWays_141 rfl ?_
                      refine hV.getf (v := .ref (b + 6)) dX5_findWays_142 fl_X5_25 M_o rfl ?_
                      refine hV.iload_n 0 dX5_findWays_145 rfl ?_
                      refine hV.aload_n 2 dX5_findWays_146 rfl ?_
                      refine hV.getf (v := .ref (b + 7)) dX5_findWays_147 fl_X5_28 M_o rfl ?_
                      refine hV.iload_n 0 dX5_findWays_150 rfl ?_
                      refine hV.iald (j := i) dX5_findWays_151 M_a6 (zix_nI (by omega)) (by omega) ?_
                      refine zTop (v := w i) rfl ?_
                      refine hV.iast (j := i) dX5_findWays_152 M_a5 (zix_nI (by omega)) (by omega) M_p5 ?_
                      refine hV.iinc 0 (v := nI (i + 1)) (ls2 := [(3, .int (nI (i + 1))), (2, .int (nI r)), (0, .ref b), (1, .int (nI c))]) dX5_findWays_153 rfl (nI_1 _) (by decide) rfl ?_
                      refine hV.goto (tgt := 135) dX5_findWays_156 (by decide) ?_
                      refine zHeap (h2 := setM h b φ (sa (sa μ 5 (va_up (cpz x w i) i (w i))) 6 w)) (by first | rw [up2_in (by decide)] | (simp only [up2_sa, sa_z, sa_at]; try rfl)) ?_
                      refine zHeap (h2 := setM h b φ (sa (sa μ 5 (cpz x w (i + 1))) 6 w)) (by rw [cpz_s]) ?_
                      exact ih (i + 1) (by omega)
                  exact loop4 (7) 0 (by omega)
                | succ r3 ih =>
                  intro d w hd hw
                  refine hV.iload_n 0 dX5_findWays_61 rfl ?_
                  refine hV.bipush (v := 7) dX5_findWays_62 (by decide) ?_
                  refine hV.icmp_ge_f (tgt := 133) dX5_findWays_64 (by decide) (fun q => absurd ((nI_leI (a := 7) (b := d) (by omega) (by omega)).mp q) (by omega)) ?_
                  refine hV.aload_n 2 dX5_findWays_67 rfl ?_
                  refine hV.bipush (v := 7) dX5_findWays_68 (by decide) ?_
                  refine hV.iload_n 1 dX5_findWays_70 rfl ?_
                  refine hV.imulN (a := 7) (b := r) dX5_findWays_71 ?_
                  refine hV.iload_n 0 dX5_findWays_72 rfl ?_
                  refine hV.iaddN (a := 7 * r) (b := d) dX5_findWays_73 ?_
                  refine hV.callV1 (rest := []) dX5_findWays_74 (c_X5_lean G (i := (7 * r) + d) (by omega)) my_X5_lean kv_X5_53 M_o rfl rfl rfl (Nat.le_of_ble_eq_true rfl) (Nat.le_of_ble_eq_true rfl) (Nat.le_of_ble_eq_true rfl) (Nat.le_of_ble_eq_true rfl) (Nat.le_of_ble_eq_true rfl) (st2 := [.int ((μ 0) (20 + ((7 * r) + d)))]) (k2 := 0) (g2 := 0) rfl rfl rfl ?_
                  refine zTop (v := pinF (μ 0) (r * 7 + d)) (by unfold pinF; rw [Nat.mul_comm]) ?_
                  refine hV.istore (ls2 := [(4, .int (pinF (μ 0) (r * 7 + d))), (3, .int (nI d)), (2, .int (nI r)), (0, .ref b), (1, .int (nI c))]) dX5_findWays_77 (by decide) rfl ?_
                  refine hV.iload 0 dX5_findWays_79 rfl ?_
                  by_cases c81_1 : 0 < (pinF (μ 0) (r * 7 + d))
                  · refine hV.if_gt_t (tgt := 103) dX5_findWays_81 (by decide) c81_1 ?_
                    refine hV.iload 0 dX5_findWays_103 rfl ?_
                    by_cases c105_2 : (pinF (μ 0) (r * 7 + d)) < 0
                    · refine hV.if_lt_t (tgt := 127) dX5_findWays_105 (by decide) c105_2 ?_
                      refine hV.iinc 1 (v := nI (d + 1)) (ls2 := [(3, .int (nI (d + 1))), (4, .int (pinF (μ 0) (r * 7 + d))), (2, .int (nI r)), (0, .ref b), (1, .int (nI c))]) dX5_findWays_127 rfl (nI_1 _) (by decide) rfl ?_
                      refine hV.goto (tgt := 61) dX5_findWays_130 (by decide) ?_
                      refine hV.pick [0, 2, 3, 4] (ls2 := [(3, .int (nI (d + 1))), (2, .int (nI r)), (0, .ref b), (1, .int (nI c))]) rfl ?_
                      exact ih (d + 1) _ (by omega) (by simp only [rowN, ← hw, c81_1, c105_2, if_true, if_false])
                    · refine hV.if_lt_f (tgt := 127) dX5_findWays_105 (by decide) c105_2 ?_
                      refine hV.aload_n 3 dX5_findWays_108 rfl ?_
                      refine hV.getf (v := .ref (b + 7)) dX5_findWays_109 fl_X5_28 M_o rfl ?_
                      refine hV.iload_n 1 dX5_findWays_112 rfl ?_
                      refine hV.iconst (v := 1) dX5_findWays_113 (by decide) ?_
                      refine hV.callS1 (rest := [.ref (b + 7)]) dX5_findWays_114 (c_X5_beside G (c := d) (s := 1) (by omega) (Or.inl rfl)) my_X5_beside ks_X5_85 rfl rfl (Nat.le_of_ble_eq_true rfl) (Nat.le_of_ble_eq_true rfl) (Nat.le_of_ble_eq_true rfl) (Nat.le_of_ble_eq_true rfl) (Nat.le_of_ble_eq_true rfl) (st2 := [.int (nI (bnc d 1)), .ref (b + 7)]) (k2 := 0) (g2 := 0) rfl rfl rfl ?_
                      have hbn3 := bnc_lt (c := d) (s := 1) (by omega)
                      refine hV.dup2 dX5_findWays_117 rfl rfl ?_
                      refine hV.iald (j := bnc d 1) dX5_findWays_118 M_a6 (zix_nI (by omega)) (by omega) ?_
                      refine zTop (v := w (bnc d 1)) rfl ?_
                      refine hV.aload_n 3 dX5_findWays_119 rfl ?_
                      refine hV.getf (v := .ref (b + 6)) dX5_findWays_120 fl_X5_25 M_o rfl ?_
                      refine hV.iload_n 1 dX5_findWays_123 rfl ?_
                      refine hV.iald (j := d) dX5_findWays_124 M_a5 (zix_nI (by omega)) (by omega) ?_
                      refine zTop (v := x d) rfl ?_
                      refine hV.iadd dX5_findWays_125 ?_
                      refine hV.iast (j := bnc d 1) dX5_findWays_126 M_a6 (zix_nI (by omega)) (by omega) M_p6 ?_
                      refine hV.iinc 1 (v := nI (d + 1)) (ls2 := [(3, .int (nI (d + 1))), (4, .int (pinF (μ 0) (r * 7 + d))), (2, .int (nI r)), (0, .ref b), (1, .int (nI c))]) dX5_findWays_127 rfl (nI_1 _) (by decide) rfl ?_
                      refine hV.goto (tgt := 61) dX5_findWays_130 (by decide) ?_
                      refine hV.pick [0, 2, 3, 4] (ls2 := [(3, .int (nI (d + 1))), (2, .int (nI r)), (0, .ref b), (1, .int (nI c))]) rfl ?_
                      refine zHeap (h2 := setM h b φ (sa (sa μ 5 x) 6 (va_up w (bnc d 1) ((w (bnc d 1)) + (x d))))) (by first | rw [up2_in (by decide)] | (simp only [up2_sa, sa_z, sa_at]; try rfl)) ?_
                      exact ih (d + 1) _ (by omega) (by simp only [rowN, ← hw, c81_1, c105_2, if_true, if_false])
                  · refine hV.if_gt_f (tgt := 103) dX5_findWays_81 (by decide) c81_1 ?_
                    refine hV.aload_n 3 dX5_findWays_84 rfl ?_
                    refine hV.getf (v := .ref (b + 7)) dX5_findWays_85 fl_X5_28 M_o rfl ?_
                    refine hV.iload_n 1 dX5_findWays_88 rfl ?_
                    refine hV.iconst (v := (-1)) dX5_findWays_89 (by decide) ?_
                    refine hV.callS1 (rest := [.ref (b + 7)]) dX5_findWays_90 (c_X5_beside G (c := d) (s := (-1)) (by omega) (Or.inr rfl)) my_X5_beside ks_X5_85 rfl rfl (Nat.le_of_ble_eq_true rfl) (Nat.le_of_ble_eq_true rfl) (Nat.le_of_ble_eq_true rfl) (Nat.le_of_ble_eq_true rfl) (Nat.le_of_ble_eq_true rfl) (st2 := [.int (nI (bnc d (-1))), .ref (b + 7)]) (k2 := 0) (g2 := 0) rfl rfl rfl ?_
                    have hbn4 := bnc_lt (c := d) (s := (-1)) (by omega)
                    refine hV.dup2 dX5_findWays_93 rfl rfl ?_
                    refine hV.iald (j := bnc d (-1)) dX5_findWays_94 M_a6 (zix_nI (by omega)) (by omega) ?_
                    refine zTop (v := w (bnc d (-1))) rfl ?_
                    refine hV.aload_n 3 dX5_findWays_95 rfl ?_
                    refine hV.getf (v := .ref (b + 6)) dX5_findWays_96 fl_X5_25 M_o rfl ?_
                    refine hV.iload_n 1 dX5_findWays_99 rfl ?_
                    refine hV.iald (j := d) dX5_findWays_100 M_a5 (zix_nI (by omega)) (by omega) ?_
                    refine zTop (v := x d) rfl ?_
                    refine hV.iadd dX5_findWays_101 ?_
                    refine hV.iast (j := bnc d (-1)) dX5_findWays_102 M_a6 (zix_nI (by omega)) (by omega) M_p6 ?_
                    refine zHeap (h2 := setM h b φ (sa (sa μ 5 x) 6 (va_up w (bnc d (-1)) ((w (bnc d (-1))) + (x d))))) (by first | rw [up2_in (by decide)] | (simp only [up2_sa, sa_z, sa_at]; try rfl)) ?_
                    refine hV.iload 0 dX5_findWays_103 rfl ?_
                    by_cases c105_5 : (pinF (μ 0) (r * 7 + d)) < 0
                    · refine hV.if_lt_t (tgt := 127) dX5_findWays_105 (by decide) c105_5 ?_
                      refine hV.iinc 1 (v := nI (d + 1)) (ls2 := [(3, .int (nI (d + 1))), (4, .int (pinF (μ 0) (r * 7 + d))), (2, .int (nI r)), (0, .ref b), (1, .int (nI c))]) dX5_findWays_127 rfl (nI_1 _) (by decide) rfl ?_
                      refine hV.goto (tgt := 61) dX5_findWays_130 (by decide) ?_
                      refine hV.pick [0, 2, 3, 4] (ls2 := [(3, .int (nI (d + 1))), (2, .int (nI r)), (0, .ref b), (1, .int (nI c))]) rfl ?_
                      exact ih (d + 1) _ (by omega) (by simp only [rowN, ← hw, c81_1, c105_5, if_true, if_false])
                    · refine hV.if_lt_f (tgt := 127) dX5_findWays_105 (by decide) c105_5 ?_
                      refine hV.aload_n 3 dX5_findWays_108 rfl ?_
                      refine hV.getf (v := .ref (b + 7)) dX5_findWays_109 fl_X5_28 M_o rfl ?_
                      refine hV.iload_n 1 dX5_findWays_112 rfl ?_
                      refine hV.iconst (v := 1) dX5_findWays_113 (by decide) ?_
                      refine hV.callS1 (rest := [.ref (b + 7)]) dX5_findWays_114 (c_X5_beside G (c := d) (s := 1) (by omega) (Or.inl rfl)) my_X5_beside ks_X5_85 rfl rfl (Nat.le_of_ble_eq_true rfl) (Nat.le_of_ble_eq_true rfl) (Nat.le_of_ble_eq_true rfl) (Nat.le_of_ble_eq_true rfl) (Nat.le_of_ble_eq_true rfl) (st2 := [.int (nI (bnc d 1)), .ref (b + 7)]) (k2 := 0) (g2 := 0) rfl rfl rfl ?_
                      have hbn6 := bnc_lt (c := d) (s := 1) (by omega)
                      refine hV.dup2 dX5_findWays_117 rfl rfl ?_
                      refine hV.iald (j := bnc d 1) dX5_findWays_118 M_a6 (zix_nI (by omega)) (by omega) ?_
                      refine zTop (v := (va_up w (bnc d (-1)) ((w (bnc d (-1))) + (x d))) (bnc d 1)) (congrFun (sa_at _ _ _) _) ?_
                      refine hV.aload_n 3 dX5_findWays_119 rfl ?_
                      refine hV.getf (v := .ref (b + 6)) dX5_findWays_120 fl_X5_25 M_o rfl ?_
                      refine hV.iload_n 1 dX5_findWays_123 rfl ?_
                      refine hV.iald (j := d) dX5_findWays_124 M_a5 (zix_nI (by omega)) (by omega) ?_
                      refine zTop (v := x d) rfl ?_
                      refine hV.iadd dX5_findWays_125 ?_
                      refine hV.iast (j := bnc d 1) dX5_findWays_126 M_a6 (zix_nI (by omega)) (by omega) M_p6 ?_
                      refine hV.iinc 1 (v := nI (d + 1)) (ls2 := [(3, .int (nI (d + 1))), (4, .int (pinF (μ 0) (r * 7 + d))), (2, .int (nI r)), (0, .ref b), (1, .int (nI c))]) dX5_findWays_127 rfl (nI_1 _) (by decide) rfl ?_
                      refine hV.goto (tgt := 61) dX5_findWays_130 (by decide) ?_
                      refine hV.pick [0, 2, 3, 4] (ls2 := [(3, .int (nI (d + 1))), (2, .int (nI r)), (0, .ref b), (1, .int (nI c))]) rfl ?_
                      refine zHeap (h2 := setM h b φ (sa (sa μ 5 x) 6 (va_up (va_up w (bnc d (-1)) ((w (bnc d (-1))) + (x d))) (bnc d 1) (((va_up w (bnc d (-1)) ((w (bnc d (-1))) + (x d))) (bnc d 1)) + (x d))))) (by first | rw [up2_in (by decide)] | (simp only [up2_sa, sa_z, sa_at]; try rfl)) ?_
                      exact ih (d + 1) _ (by omega) (by simp only [rowN, ← hw, c81_1, c105_5, if_true, if_false])
              exact loop3 (7) 0 _ (by omega) rfl
            | succ r2 ih =>
              intro i  hi 
              refine hV.iload_n 0 dX5_findWays_40 rfl ?_
              refine hV.bipush (v := 7) dX5_findWays_41 (by decide) ?_
              refine hV.icmp_ge_f (tgt := 59) dX5_findWays_43 (by decide) (fun q => absurd ((nI_leI (a := 7) (b := i) (by omega) (by omega)).mp q) (by omega)) ?_
              refine hV.aload_n 2 dX5_findWays_46 rfl ?_
              refine hV.getf (v := .ref (b + 7)) dX5_findWays_47 fl_X5_28 M_o rfl ?_
              refine hV.iload_n 0 dX5_findWays_50 rfl ?_
              refine hV.iconst (v := 0) dX5_findWays_51 (by decide) ?_
              refine hV.iast (j := i) dX5_findWays_52 M_a6 (zix_nI (by omega)) (by omega) M_p6 ?_
              refine hV.iinc 0 (v := nI (i + 1)) (ls2 := [(3, .int (nI (i + 1))), (2, .int (nI r)), (0, .ref b), (1, .int (nI c))]) dX5_findWays_53 rfl (nI_1 _) (by decide) rfl ?_
              refine hV.goto (tgt := 40) dX5_findWays_56 (by decide) ?_
              refine zHeap (h2 := setM h b φ (sa (sa μ 5 x) 6 (va_up (filF y i 0) i 0))) (by first | rw [up2_in (by decide)] | (simp only [up2_sa, sa_z, sa_at]; try rfl)) ?_
              refine zHeap (h2 := setM h b φ (sa (sa μ 5 x) 6 (filF y (i + 1) 0))) (by rw [filF_s]) ?_
              exact ih (i + 1) (by omega)
          exact loop2 (7) 0 (by omega)
      exact loop (8) 0 _ _ (by omega) rfl
    | succ r1 ih =>
      intro i  hi 
      refine hV.iload_n 0 dX5_findWays_2 rfl ?_
      refine hV.bipush (v := 7) dX5_findWays_3 (by decide) ?_
      refine hV.icmp_ge_f (tgt := 30) dX5_findWays_5 (by decide) (fun q => absurd ((nI_leI (a := 7) (b := i) (by omega) (by omega)).mp q) (by omega)) ?_
      refine hV.aload_n 1 dX5_findWays_8 rfl ?_
      refine hV.getf (v := .ref (b + 6)) dX5_findWays_9 fl_X5_25 M_o rfl ?_
      refine hV.iload_n 0 dX5_findWays_12 rfl ?_
      refine hV.iload_n 0 dX5_findWays_13 rfl ?_
      refine hV.iload_n 2 dX5_findWays_14 rfl ?_
      by_cases c15_7 : i = c
      · refine hV.icmp_ne_f (tgt := 22) dX5_findWays_15 (by decide) ((nI_eq (a := i) (b := c) (by omega) (by omega)).mpr c15_7) ?_
        refine hV.iconst (v := 1) dX5_findWays_18 (by decide) ?_
        refine hV.goto (tgt := 23) dX5_findWays_19 (by decide) ?_
        refine hV.iast (j := i) dX5_findWays_23 M_a5 (zix_nI (by omega)) (by omega) M_p5 ?_
        refine hV.iinc 0 (v := nI (i + 1)) (ls2 := [(2, .int (nI (i + 1))), (0, .ref b), (1, .int (nI c))]) dX5_findWays_24 rfl (nI_1 _) (by decide) rfl ?_
        refine hV.goto (tgt := 2) dX5_findWays_27 (by decide) ?_
        refine zHeap (h2 := setM h b φ (sa μ 5 (va_up (ehF (μ 5) c i) i 1))) (by simp only [up2_sa, sa_z, sa_at]; try rfl) ?_
        refine zHeap (h2 := setM h b φ (sa μ 5 (ehF (μ 5) c (i + 1)))) (by rw [← ehF_s, if_pos c15_7]) ?_
        exact ih (i + 1) (by omega)
      · refine hV.icmp_ne_t (tgt := 22) dX5_findWays_15 (by decide) (fun q => absurd ((nI_eq (a := i) (b := c) (by omega) (by omega)).mp q) c15_7) ?_
        refine hV.iconst (v := 0) dX5_findWays_22 (by decide) ?_
        refine hV.iast (j := i) dX5_findWays_23 M_a5 (zix_nI (by omega)) (by omega) M_p5 ?_
        refine hV.iinc 0 (v := nI (i + 1)) (ls2 := [(2, .int (nI (i + 1))), (0, .ref b), (1, .int (nI c))]) dX5_findWays_24 rfl (nI_1 _) (by decide) rfl ?_
        refine hV.goto (tgt := 2) dX5_findWays_27 (by decide) ?_
        refine zHeap (h2 := setM h b φ (sa μ 5 (va_up (ehF (μ 5) c i) i 0))) (by simp only [up2_sa, sa_z, sa_at]; try rfl) ?_
        refine zHeap (h2 := setM h b φ (sa μ 5 (ehF (μ 5) c (i + 1)))) (by rw [← ehF_s, if_neg c15_7]) ?_
        exact ih (i + 1) (by omega)
  exact loop (7) 0 (by omega)

set_option maxRecDepth 100000 in
set_option maxHeartbeats 4000000 in
theorem c_X5_waysTo {l : Launch} {D : va_G} {base : Nat} (G : l.stackTraces = false) {h : zH} {n : Nat} {b : Nat} {μ : zB} {φ : Nat → Int32} {c p : Nat} (hc : c < 7) (hp : p < 7) :
    zCt l D base 5 yX5_waysTo w_X5_waysTo [.ref b, .int (nI c), .int (nI p)] (setM h b φ μ) n 0 0 (zR (some (.int (wv (μ 0) c p))) (setM h b φ (sa (sa μ 5 ((fwQ (μ 0) c (μ 5) (μ 6)).1)) 6 ((fwQ (μ 0) c (μ 5) (μ 6)).2))) n) := by
  refine zCt.of G (by decide) (Nat.le_of_ble_eq_true rfl) (fun Sx V X hV hE hX => ?_)
  show V 0 [(0, .ref b), (1, .int (nI c)), (2, .int (nI p))] [] (setM h b φ μ) n 0 0
  refine hV.aload_n 0 dX5_waysTo_0 rfl ?_
  refine hV.iload_n 1 dX5_waysTo_1 rfl ?_
  refine hV.callV1 (rest := []) dX5_waysTo_2 (c_X5_findWays G (c := c) (by omega)) my_X5_findWays kv_X5_152 M_o rfl rfl rfl (Nat.le_of_ble_eq_true rfl) (Nat.le_of_ble_eq_true rfl) (Nat.le_of_ble_eq_true rfl) (Nat.le_of_ble_eq_true rfl) (Nat.le_of_ble_eq_true rfl) (st2 := []) (k2 := 0) (g2 := 0) rfl rfl rfl ?_
  refine zHeap (h2 := setM h b φ (sa (sa μ 5 ((fwQ (μ 0) c (μ 5) (μ 6)).1)) 6 ((fwQ (μ 0) c (μ 5) (μ 6)).2))) rfl ?_
  refine hV.aload_n 0 dX5_waysTo_5 rfl ?_
  refine hV.getf (v := .ref (b + 6)) dX5_waysTo_6 fl_X5_25 M_o rfl ?_
  refine hV.iload_n 2 dX5_waysTo_9 rfl ?_
  refine hV.iald (j := p) dX5_waysTo_10 M_a5 (zix_nI (by omega)) (by omega) ?_
  refine zTop (v := ((fwQ (μ 0) c (μ 5) (μ 6)).1) p) (by simp [up2, sa, va_up]) ?_
  exact hE.1 dX5_waysTo_11 rfl rfl (by decide) (by decide) (zRi (fwQ_wv hp) rfl rfl)

set_option maxRecDepth 100000 in
set_option maxHeartbeats 4000000 in
theorem c_X5_launched {l : Launch} {D : va_G} {base : Nat} (G : l.stackTraces = false) {h : zH} {n : Nat} {b : Nat} {μ : zB} {φ : Nat → Int32} {c w : Nat} (hc : c < 7) (hw : w < 4) (hx0 : xOk (μ 0)) (hp0 : pinZ (μ 0)) :
    zCt l D base 6 yX5_launched w_X5_launched [.ref b, .int (nI c), .int (nI w)] (setM h b φ μ) n 0 0 (zR (some (.int (ldV (μ 0) c w))) (setM h b φ (sa μ 1 (cpz (μ 1) (μ 0) 175))) n) := by
  refine zCt.of G (by decide) (Nat.le_of_ble_eq_true rfl) (fun Sx V X hV hE hX => ?_)
  show V 0 [(0, .ref b), (1, .int (nI c)), (2, .int (nI w))] [] (setM h b φ μ) n 0 0
  rcases (show w = 0 ∨ w = 1 ∨ w = 2 ∨ w = 3 by omega) with rfl | rfl | rfl | rfl
  · skip
    show V 0 [(0, .ref b), (1, .int (nI c)), (2, .int 0)] [] (setM h b φ μ) n 0 0
    refine hV.aload_n 0 dX5_launched_0 rfl ?_
    refine hV.callV1 (rest := []) dX5_launched_1 (c_X5_putAside G) my_X5_putAside kv_X5_162 M_o rfl rfl rfl (Nat.le_of_ble_eq_true rfl) (Nat.le_of_ble_eq_true rfl) (Nat.le_of_ble_eq_true rfl) (Nat.le_of_ble_eq_true rfl) (Nat.le_of_ble_eq_true rfl) (st2 := []) (k2 := 0) (g2 := 0) rfl rfl rfl ?_
    refine zHeap (h2 := setM h b φ (sa μ 1 (cpz (μ 1) (μ 0) 175))) rfl ?_
    refine hV.aload_n 0 dX5_launched_4 rfl ?_
    refine hV.iload_n 1 dX5_launched_5 rfl ?_
    refine hV.callV1 (rest := []) dX5_launched_6 (c_X5_doLaunch G (c := c) (by omega) hx0 hp0) my_X5_doLaunch kv_X5_103 M_o rfl rfl rfl (Nat.le_of_ble_eq_true rfl) (Nat.le_of_ble_eq_true rfl) (Nat.le_of_ble_eq_true rfl) (Nat.le_of_ble_eq_true rfl) (Nat.le_of_ble_eq_true rfl) (st2 := [.int (lchZr (μ 0) c)]) (k2 := 0) (g2 := 0) rfl rfl rfl ?_
    refine zHeap (h2 := setM h b φ (sa (sa μ 1 (cpz (μ 1) (μ 0) 175)) 0 (lchZ (μ 0) c))) rfl ?_
    refine hV.istore_n (ls2 := [(3, .int (lchZr (μ 0) c)), (0, .ref b), (1, .int (nI c)), (2, .int 0)]) dX5_launched_9 (by decide) rfl ?_
    refine hV.iload_n 3 dX5_launched_10 rfl ?_
    refine hV.if_ne_f (tgt := 24) dX5_launched_11 (by decide) (by decide) ?_
    refine hV.aload_n 1 dX5_launched_14 rfl ?_
    refine hV.getf (v := .ref (b + 1)) dX5_launched_15 fl_X5_7 M_o rfl ?_
    refine hV.bipush (v := 12) dX5_launched_18 (by decide) ?_
    refine hV.iald (j := 12) dX5_launched_20 M_a0 ⟨by decide, by decide⟩ (by decide) ?_
    refine zTop (v := (lchZ (μ 0) c) 12) (congrFun (sa_at _ _ _) _) ?_
    refine hV.goto (tgt := 55) dX5_launched_21 (by decide) ?_
    refine hV.istore (ls2 := [(4, .int ((lchZ (μ 0) c) 12)), (3, .int (lchZr (μ 0) c)), (0, .ref b), (1, .int (nI c)), (2, .int 0)]) dX5_launched_55 (by decide) rfl ?_
    refine hV.aload_n 2 dX5_launched_57 rfl ?_
    refine hV.callV1 (rest := []) dX5_launched_58 (c_X5_putBack G) my_X5_putBack kv_X5_165 M_o rfl rfl rfl (Nat.le_of_ble_eq_true rfl) (Nat.le_of_ble_eq_true rfl) (Nat.le_of_ble_eq_true rfl) (Nat.le_of_ble_eq_true rfl) (Nat.le_of_ble_eq_true rfl) (st2 := []) (k2 := 0) (g2 := 0) rfl rfl rfl ?_
    refine zHeap (h2 := setM h b φ (sa μ 1 (cpz (μ 1) (μ 0) 175))) (by refine congrArg (fun z => setM h b φ z) ?_; rw [sa_z]; show sa _ 0 (cpz (lchZ (μ 0) c) (cpz (μ 1) (μ 0) 175) 175) = _; rw [cpz_back (fun i hi => lchZ_hi _ hc hi)]; exact sa_self (sa μ 1 (cpz (μ 1) (μ 0) 175)) 0) ?_
    refine hV.iload 0 dX5_launched_61 rfl ?_
    exact hE.1 dX5_launched_63 rfl rfl (by decide) (by decide) (zRi (by simp [ldV]) rfl rfl)
  · skip
    show V 0 [(0, .ref b), (1, .int (nI c)), (2, .int 1)] [] (setM h b φ μ) n 0 0
    refine hV.aload_n 0 dX5_launched_0 rfl ?_
    refine hV.callV1 (rest := []) dX5_launched_1 (c_X5_putAside G) my_X5_putAside kv_X5_162 M_o rfl rfl rfl (Nat.le_of_ble_eq_true rfl) (Nat.le_of_ble_eq_true rfl) (Nat.le_of_ble_eq_true rfl) (Nat.le_of_ble_eq_true rfl) (Nat.le_of_ble_eq_true rfl) (st2 := []) (k2 := 0) (g2 := 0) rfl rfl rfl ?_
    refine zHeap (h2 := setM h b φ (sa μ 1 (cpz (μ 1) (μ 0) 175))) rfl ?_
    refine hV.aload_n 0 dX5_launched_4 rfl ?_
    refine hV.iload_n 1 dX5_launched_5 rfl ?_
    refine hV.callV1 (rest := []) dX5_launched_6 (c_X5_doLaunch G (c := c) (by omega) hx0 hp0) my_X5_doLaunch kv_X5_103 M_o rfl rfl rfl (Nat.le_of_ble_eq_true rfl) (Nat.le_of_ble_eq_true rfl) (Nat.le_of_ble_eq_true rfl) (Nat.le_of_ble_eq_true rfl) (Nat.le_of_ble_eq_true rfl) (st2 := [.int (lchZr (μ 0) c)]) (k2 := 0) (g2 := 0) rfl rfl rfl ?_
    refine zHeap (h2 := setM h b φ (sa (sa μ 1 (cpz (μ 1) (μ 0) 175)) 0 (lchZ (μ 0) c))) rfl ?_
    refine hV.istore_n (ls2 := [(3, .int (lchZr (μ 0) c)), (0, .ref b), (1, .int (nI c)), (2, .int 1)]) dX5_launched_9 (by decide) rfl ?_
    refine hV.iload_n 3 dX5_launched_10 rfl ?_
    refine hV.if_ne_t (tgt := 24) dX5_launched_11 (by decide) (by decide) ?_
    refine hV.iload_n 3 dX5_launched_24 rfl ?_
    refine hV.iconst (v := 1) dX5_launched_25 (by decide) ?_
    refine hV.icmp_ne_f (tgt := 33) dX5_launched_26 (by decide) (by decide) ?_
    refine hV.iload_n 0 dX5_launched_29 rfl ?_
    refine hV.goto (tgt := 55) dX5_launched_30 (by decide) ?_
    refine hV.istore (ls2 := [(4, .int (lchZr (μ 0) c)), (3, .int (lchZr (μ 0) c)), (0, .ref b), (1, .int (nI c)), (2, .int 1)]) dX5_launched_55 (by decide) rfl ?_
    refine hV.aload_n 2 dX5_launched_57 rfl ?_
    refine hV.callV1 (rest := []) dX5_launched_58 (c_X5_putBack G) my_X5_putBack kv_X5_165 M_o rfl rfl rfl (Nat.le_of_ble_eq_true rfl) (Nat.le_of_ble_eq_true rfl) (Nat.le_of_ble_eq_true rfl) (Nat.le_of_ble_eq_true rfl) (Nat.le_of_ble_eq_true rfl) (st2 := []) (k2 := 0) (g2 := 0) rfl rfl rfl ?_
    refine zHeap (h2 := setM h b φ (sa μ 1 (cpz (μ 1) (μ 0) 175))) (by refine congrArg (fun z => setM h b φ z) ?_; rw [sa_z]; show sa _ 0 (cpz (lchZ (μ 0) c) (cpz (μ 1) (μ 0) 175) 175) = _; rw [cpz_back (fun i hi => lchZ_hi _ hc hi)]; exact sa_self (sa μ 1 (cpz (μ 1) (μ 0) 175)) 0) ?_
    refine hV.iload 0 dX5_launched_61 rfl ?_
    exact hE.1 dX5_launched_63 rfl rfl (by decide) (by decide) (zRi (by simp [ldV]) rfl rfl)
  · skip
    show V 0 [(0, .ref b), (1, .int (nI c)), (2, .int 2)] [] (setM h b φ μ) n 0 0
    refine hV.aload_n 0 dX5_launched_0 rfl ?_
    refine hV.callV1 (rest := []) dX5_launched_1 (c_X5_putAside G) my_X5_putAside kv_X5_162 M_o rfl rfl rfl (Nat.le_of_ble_eq_true rfl) (Nat.le_of_ble_eq_true rfl) (Nat.le_of_ble_eq_true rfl) (Nat.le_of_ble_eq_true rfl) (Nat.le_of_ble_eq_true rfl) (st2 := []) (k2 := 0) (g2 := 0) rfl rfl rfl ?_
    refine zHeap (h2 := setM h b φ (sa μ 1 (cpz (μ 1) (μ 0) 175))) rfl ?_
    refine hV.aload_n 0 dX5_launched_4 rfl ?_
    refine hV.iload_n 1 dX5_launched_5 rfl ?_
    refine hV.callV1 (rest := []) dX5_launched_6 (c_X5_doLaunch G (c := c) (by omega) hx0 hp0) my_X5_doLaunch kv_X5_103 M_o rfl rfl rfl (Nat.le_of_ble_eq_true rfl) (Nat.le_of_ble_eq_true rfl) (Nat.le_of_ble_eq_true rfl) (Nat.le_of_ble_eq_true rfl) (Nat.le_of_ble_eq_true rfl) (st2 := [.int (lchZr (μ 0) c)]) (k2 := 0) (g2 := 0) rfl rfl rfl ?_
    refine zHeap (h2 := setM h b φ (sa (sa μ 1 (cpz (μ 1) (μ 0) 175)) 0 (lchZ (μ 0) c))) rfl ?_
    refine hV.istore_n (ls2 := [(3, .int (lchZr (μ 0) c)), (0, .ref b), (1, .int (nI c)), (2, .int 2)]) dX5_launched_9 (by decide) rfl ?_
    refine hV.iload_n 3 dX5_launched_10 rfl ?_
    refine hV.if_ne_t (tgt := 24) dX5_launched_11 (by decide) (by decide) ?_
    refine hV.iload_n 3 dX5_launched_24 rfl ?_
    refine hV.iconst (v := 1) dX5_launched_25 (by decide) ?_
    refine hV.icmp_ne_t (tgt := 33) dX5_launched_26 (by decide) (by decide) ?_
    refine hV.iload_n 3 dX5_launched_33 rfl ?_
    refine hV.iconst (v := 2) dX5_launched_34 (by decide) ?_
    refine hV.icmp_ne_f (tgt := 48) dX5_launched_35 (by decide) (by decide) ?_
    refine hV.aload_n 1 dX5_launched_38 rfl ?_
    refine hV.getf (v := .ref (b + 1)) dX5_launched_39 fl_X5_7 M_o rfl ?_
    refine hV.bipush (v := 7) dX5_launched_42 (by decide) ?_
    refine hV.iald (j := 7) dX5_launched_44 M_a0 ⟨by decide, by decide⟩ (by decide) ?_
    refine zTop (v := (lchZ (μ 0) c) 7) (congrFun (sa_at _ _ _) _) ?_
    refine hV.goto (tgt := 55) dX5_launched_45 (by decide) ?_
    refine hV.istore (ls2 := [(4, .int ((lchZ (μ 0) c) 7)), (3, .int (lchZr (μ 0) c)), (0, .ref b), (1, .int (nI c)), (2, .int 2)]) dX5_launched_55 (by decide) rfl ?_
    refine hV.aload_n 2 dX5_launched_57 rfl ?_
    refine hV.callV1 (rest := []) dX5_launched_58 (c_X5_putBack G) my_X5_putBack kv_X5_165 M_o rfl rfl rfl (Nat.le_of_ble_eq_true rfl) (Nat.le_of_ble_eq_true rfl) (Nat.le_of_ble_eq_true rfl) (Nat.le_of_ble_eq_true rfl) (Nat.le_of_ble_eq_true rfl) (st2 := []) (k2 := 0) (g2 := 0) rfl rfl rfl ?_
    refine zHeap (h2 := setM h b φ (sa μ 1 (cpz (μ 1) (μ 0) 175))) (by refine congrArg (fun z => setM h b φ z) ?_; rw [sa_z]; show sa _ 0 (cpz (lchZ (μ 0) c) (cpz (μ 1) (μ 0) 175) 175) = _; rw [cpz_back (fun i hi => lchZ_hi _ hc hi)]; exact sa_self (sa μ 1 (cpz (μ 1) (μ 0) 175)) 0) ?_
    refine hV.iload 0 dX5_launched_61 rfl ?_
    exact hE.1 dX5_launched_63 rfl rfl (by decide) (by decide) (zRi (by simp [ldV]) rfl rfl)
  · skip
    show V 0 [(0, .ref b), (1, .int (nI c)), (2, .int 3)] [] (setM h b φ μ) n 0 0
    refine hV.aload_n 0 dX5_launched_0 rfl ?_
    refine hV.callV1 (rest := []) dX5_launched_1 (c_X5_putAside G) my_X5_putAside kv_X5_162 M_o rfl rfl rfl (Nat.le_of_ble_eq_true rfl) (Nat.le_of_ble_eq_true rfl) (Nat.le_of_ble_eq_true rfl) (Nat.le_of_ble_eq_true rfl) (Nat.le_of_ble_eq_true rfl) (st2 := []) (k2 := 0) (g2 := 0) rfl rfl rfl ?_
    refine zHeap (h2 := setM h b φ (sa μ 1 (cpz (μ 1) (μ 0) 175))) rfl ?_
    refine hV.aload_n 0 dX5_launched_4 rfl ?_
    refine hV.iload_n 1 dX5_launched_5 rfl ?_
    refine hV.callV1 (rest := []) dX5_launched_6 (c_X5_doLaunch G (c := c) (by omega) hx0 hp0) my_X5_doLaunch kv_X5_103 M_o rfl rfl rfl (Nat.le_of_ble_eq_true rfl) (Nat.le_of_ble_eq_true rfl) (Nat.le_of_ble_eq_true rfl) (Nat.le_of_ble_eq_true rfl) (Nat.le_of_ble_eq_true rfl) (st2 := [.int (lchZr (μ 0) c)]) (k2 := 0) (g2 := 0) rfl rfl rfl ?_
    refine zHeap (h2 := setM h b φ (sa (sa μ 1 (cpz (μ 1) (μ 0) 175)) 0 (lchZ (μ 0) c))) rfl ?_
    refine hV.istore_n (ls2 := [(3, .int (lchZr (μ 0) c)), (0, .ref b), (1, .int (nI c)), (2, .int 3)]) dX5_launched_9 (by decide) rfl ?_
    refine hV.iload_n 3 dX5_launched_10 rfl ?_
    refine hV.if_ne_t (tgt := 24) dX5_launched_11 (by decide) (by decide) ?_
    refine hV.iload_n 3 dX5_launched_24 rfl ?_
    refine hV.iconst (v := 1) dX5_launched_25 (by decide) ?_
    refine hV.icmp_ne_t (tgt := 33) dX5_launched_26 (by decide) (by decide) ?_
    refine hV.iload_n 3 dX5_launched_33 rfl ?_
    refine hV.iconst (v := 2) dX5_launched_34 (by decide) ?_
    refine hV.icmp_ne_t (tgt := 48) dX5_launched_35 (by decide) (by decide) ?_
    refine hV.aload_n 1 dX5_launched_48 rfl ?_
    refine hV.getf (v := .ref (b + 1)) dX5_launched_49 fl_X5_7 M_o rfl ?_
    refine hV.bipush (v := 10) dX5_launched_52 (by decide) ?_
    refine hV.iald (j := 10) dX5_launched_54 M_a0 ⟨by decide, by decide⟩ (by decide) ?_
    refine zTop (v := (lchZ (μ 0) c) 10) (congrFun (sa_at _ _ _) _) ?_
    refine hV.istore (ls2 := [(4, .int ((lchZ (μ 0) c) 10)), (3, .int (lchZr (μ 0) c)), (0, .ref b), (1, .int (nI c)), (2, .int 3)]) dX5_launched_55 (by decide) rfl ?_
    refine hV.aload_n 2 dX5_launched_57 rfl ?_
    refine hV.callV1 (rest := []) dX5_launched_58 (c_X5_putBack G) my_X5_putBack kv_X5_165 M_o rfl rfl rfl (Nat.le_of_ble_eq_true rfl) (Nat.le_of_ble_eq_true rfl) (Nat.le_of_ble_eq_true rfl) (Nat.le_of_ble_eq_true rfl) (Nat.le_of_ble_eq_true rfl) (st2 := []) (k2 := 0) (g2 := 0) rfl rfl rfl ?_
    refine zHeap (h2 := setM h b φ (sa μ 1 (cpz (μ 1) (μ 0) 175))) (by refine congrArg (fun z => setM h b φ z) ?_; rw [sa_z]; show sa _ 0 (cpz (lchZ (μ 0) c) (cpz (μ 1) (μ 0) 175) 175) = _; rw [cpz_back (fun i hi => lchZ_hi _ hc hi)]; exact sa_self (sa μ 1 (cpz (μ 1) (μ 0) 175)) 0) ?_
    refine hV.iload 0 dX5_launched_61 rfl ?_
    exact hE.1 dX5_launched_63 rfl rfl (by decide) (by decide) (zRi (by simp [ldV]) rfl rfl)

set_option maxRecDepth 100000 in
set_option maxHeartbeats 4000000 in
theorem c_X5_launchesToOpen {l : Launch} {D : va_G} {base : Nat} (G : l.stackTraces = false) {h : zH} {n : Nat} {b : Nat} {μ : zB} {φ : Nat → Int32} {c : Nat} (hc : c < 7) (hx0 : xOk (μ 0)) (hp0 : pinZ (μ 0)) :
    zCt l D base 6 yX5_launchesToOpen w_X5_launchesToOpen [.ref b, .int (nI c)] (setM h b φ μ) n 0 0 (zR (some (.int (ltV (μ 0) c))) (setM h b φ (sa μ 1 (cpz (μ 1) (μ 0) 175))) n) := by
  refine zCt.of G (by decide) (Nat.le_of_ble_eq_true rfl) (fun Sx V X hV hE hX => ?_)
  show V 0 [(0, .ref b), (1, .int (nI c))] [] (setM h b φ μ) n 0 0
  refine hV.aload_n 0 dX5_launchesToOpen_0 rfl ?_
  refine hV.callV1 (rest := []) dX5_launchesToOpen_1 (c_X5_putAside G) my_X5_putAside kv_X5_162 M_o rfl rfl rfl (Nat.le_of_ble_eq_true rfl) (Nat.le_of_ble_eq_true rfl) (Nat.le_of_ble_eq_true rfl) (Nat.le_of_ble_eq_true rfl) (Nat.le_of_ble_eq_true rfl) (st2 := []) (k2 := 0) (g2 := 0) rfl rfl rfl ?_
  refine zHeap (h2 := setM h b φ (sa μ 1 (cpz (μ 1) (μ 0) 175))) rfl ?_
  refine hV.iconst (v := 0) dX5_launchesToOpen_4 (by decide) ?_
  refine hV.istore_n (ls2 := [(2, .int 0), (0, .ref b), (1, .int (nI c))]) dX5_launchesToOpen_5 (by decide) rfl ?_
  refine zHeap (h2 := setM h b φ (sa (sa μ 1 (cpz (μ 1) (μ 0) 175)) 0 (μ 0))) (by exact congrArg (fun z => setM h b φ z) (sa_self (sa μ 1 (cpz (μ 1) (μ 0) 175)) 0).symm) ?_
  have loop : ∀ (k m : Nat) (z : zZ), m + k = 201 → (ltN c k (z, m) = ltN c 201 (μ 0, 0)) → (xOk z) → (pinZ z) → (∀ i, 175 ≤ i → z i = μ 0 i) → V 6 [(2, .int (nI m)), (0, .ref b), (1, .int (nI c))] [] (setM h b φ (sa (sa μ 1 (cpz (μ 1) (μ 0) 175)) 0 z)) n 0 0 := by
    intro k
    induction k with
    | zero =>
      intro m z hm he hx hp hz
      refine hV.aload_n 1 dX5_launchesToOpen_6 rfl ?_
      refine hV.getf (v := .ref (b + 1)) dX5_launchesToOpen_7 fl_X5_7 M_o rfl ?_
      refine hV.bipush (v := 10) dX5_launchesToOpen_10 (by decide) ?_
      refine hV.iald (j := 10) dX5_launchesToOpen_12 M_a0 ⟨by decide, by decide⟩ (by decide) ?_
      refine zTop (v := z 10) rfl ?_
      by_cases c13_1 : (z 10) = 0
      · refine hV.if_ne_f (tgt := 35) dX5_launchesToOpen_13 (by decide) c13_1 ?_
        refine hV.iload_n 0 dX5_launchesToOpen_16 rfl ?_
        refine hV.sipush (v := 200) dX5_launchesToOpen_17 (by decide) ?_
        refine hV.icmp_gt_t (tgt := 35) dX5_launchesToOpen_20 (by decide) ((nI_ltI (a := 200) (b := m) (by omega) (by omega)).mpr (by omega)) ?_
        refine hV.aload_n 1 dX5_launchesToOpen_35 rfl ?_
        refine hV.callV1 (rest := []) dX5_launchesToOpen_36 (c_X5_putBack G) my_X5_putBack kv_X5_165 M_o rfl rfl rfl (Nat.le_of_ble_eq_true rfl) (Nat.le_of_ble_eq_true rfl) (Nat.le_of_ble_eq_true rfl) (Nat.le_of_ble_eq_true rfl) (Nat.le_of_ble_eq_true rfl) (st2 := []) (k2 := 0) (g2 := 0) rfl rfl rfl ?_
        refine zHeap (h2 := setM h b φ (sa μ 1 (cpz (μ 1) (μ 0) 175))) (by refine congrArg (fun z => setM h b φ z) ?_; rw [sa_z]; show sa _ 0 (cpz z (cpz (μ 1) (μ 0) 175) 175) = _; rw [cpz_back hz]; exact sa_self (sa μ 1 (cpz (μ 1) (μ 0) 175)) 0) ?_
        refine hV.iload_n 0 dX5_launchesToOpen_39 rfl ?_
        refine hV.sipush (v := 200) dX5_launchesToOpen_40 (by decide) ?_
        by_cases c43_2 : 200 < m
        · refine hV.icmp_gt_t (tgt := 50) dX5_launchesToOpen_43 (by decide) ((nI_ltI (a := 200) (b := m) (by omega) (by omega)).mpr c43_2) ?_
          refine hV.iconst (v := (-1)) dX5_launchesToOpen_50 (by decide) ?_
          exact hE.1 dX5_launchesToOpen_51 rfl rfl (by decide) (by decide) (zRi (by first | (exfalso; omega) | (have e9 : (ltN c 201 (μ 0, 0)).2 = m := (by rw [← he]; first | (simp only [ltN]; rw [if_neg (by assumption)]) | rfl); unfold ltV; rw [e9]; first | rw [if_neg (by omega)] | rw [if_pos (by omega)])) rfl rfl)
        · refine hV.icmp_gt_f (tgt := 50) dX5_launchesToOpen_43 (by decide) (fun q => absurd ((nI_ltI (a := 200) (b := m) (by omega) (by omega)).mp q) c43_2) ?_
          refine hV.iload_n 0 dX5_launchesToOpen_46 rfl ?_
          refine hV.goto (tgt := 51) dX5_launchesToOpen_47 (by decide) ?_
          exact hE.1 dX5_launchesToOpen_51 rfl rfl (by decide) (by decide) (zRi (by first | (exfalso; omega) | (have e9 : (ltN c 201 (μ 0, 0)).2 = m := (by rw [← he]; first | (simp only [ltN]; rw [if_neg (by assumption)]) | rfl); unfold ltV; rw [e9]; first | rw [if_neg (by omega)] | rw [if_pos (by omega)])) rfl rfl)
      · refine hV.if_ne_t (tgt := 35) dX5_launchesToOpen_13 (by decide) c13_1 ?_
        refine hV.aload_n 1 dX5_launchesToOpen_35 rfl ?_
        refine hV.callV1 (rest := []) dX5_launchesToOpen_36 (c_X5_putBack G) my_X5_putBack kv_X5_165 M_o rfl rfl rfl (Nat.le_of_ble_eq_true rfl) (Nat.le_of_ble_eq_true rfl) (Nat.le_of_ble_eq_true rfl) (Nat.le_of_ble_eq_true rfl) (Nat.le_of_ble_eq_true rfl) (st2 := []) (k2 := 0) (g2 := 0) rfl rfl rfl ?_
        refine zHeap (h2 := setM h b φ (sa μ 1 (cpz (μ 1) (μ 0) 175))) (by refine congrArg (fun z => setM h b φ z) ?_; rw [sa_z]; show sa _ 0 (cpz z (cpz (μ 1) (μ 0) 175) 175) = _; rw [cpz_back hz]; exact sa_self (sa μ 1 (cpz (μ 1) (μ 0) 175)) 0) ?_
        refine hV.iload_n 0 dX5_launchesToOpen_39 rfl ?_
        refine hV.sipush (v := 200) dX5_launchesToOpen_40 (by decide) ?_
        by_cases c43_3 : 200 < m
        · refine hV.icmp_gt_t (tgt := 50) dX5_launchesToOpen_43 (by decide) ((nI_ltI (a := 200) (b := m) (by omega) (by omega)).mpr c43_3) ?_
          refine hV.iconst (v := (-1)) dX5_launchesToOpen_50 (by decide) ?_
          exact hE.1 dX5_launchesToOpen_51 rfl rfl (by decide) (by decide) (zRi (by first | (exfalso; omega) | (have e9 : (ltN c 201 (μ 0, 0)).2 = m := (by rw [← he]; first | (simp only [ltN]; rw [if_neg (by assumption)]) | rfl); unfold ltV; rw [e9]; first | rw [if_neg (by omega)] | rw [if_pos (by omega)])) rfl rfl)
        · refine hV.icmp_gt_f (tgt := 50) dX5_launchesToOpen_43 (by decide) (fun q => absurd ((nI_ltI (a := 200) (b := m) (by omega) (by omega)).mp q) c43_3) ?_
          refine hV.iload_n 0 dX5_launchesToOpen_46 rfl ?_
          refine hV.goto (tgt := 51) dX5_launchesToOpen_47 (by decide) ?_
          exact hE.1 dX5_launchesToOpen_51 rfl rfl (by decide) (by decide) (zRi (by first | (exfalso; omega) | (have e9 : (ltN c 201 (μ 0, 0)).2 = m := (by rw [← he]; first | (simp only [ltN]; rw [if_neg (by assumption)]) | rfl); unfold ltV; rw [e9]; first | rw [if_neg (by omega)] | rw [if_pos (by omega)])) rfl rfl)
    | succ k ih =>
      intro m z hm he hx hp hz
      refine hV.aload_n 1 dX5_launchesToOpen_6 rfl ?_
      refine hV.getf (v := .ref (b + 1)) dX5_launchesToOpen_7 fl_X5_7 M_o rfl ?_
      refine hV.bipush (v := 10) dX5_launchesToOpen_10 (by decide) ?_
      refine hV.iald (j := 10) dX5_launchesToOpen_12 M_a0 ⟨by decide, by decide⟩ (by decide) ?_
      refine zTop (v := z 10) rfl ?_
      by_cases c13_4 : (z 10) = 0
      · refine hV.if_ne_f (tgt := 35) dX5_launchesToOpen_13 (by decide) c13_4 ?_
        refine hV.iload_n 0 dX5_launchesToOpen_16 rfl ?_
        refine hV.sipush (v := 200) dX5_launchesToOpen_17 (by decide) ?_
        refine hV.icmp_gt_f (tgt := 35) dX5_launchesToOpen_20 (by decide) (fun q => absurd ((nI_ltI (a := 200) (b := m) (by omega) (by omega)).mp q) (by omega)) ?_
        refine hV.aload_n 1 dX5_launchesToOpen_23 rfl ?_
        refine hV.iload_n 2 dX5_launchesToOpen_24 rfl ?_
        refine hV.callV1 (rest := []) dX5_launchesToOpen_25 (c_X5_doLaunch G (c := c) (by omega) hx hp) my_X5_doLaunch kv_X5_103 M_o rfl rfl rfl (Nat.le_of_ble_eq_true rfl) (Nat.le_of_ble_eq_true rfl) (Nat.le_of_ble_eq_true rfl) (Nat.le_of_ble_eq_true rfl) (Nat.le_of_ble_eq_true rfl) (st2 := [.int (lchZr z c)]) (k2 := 0) (g2 := 0) rfl rfl rfl ?_
        refine zHeap (h2 := setM h b φ (sa (sa μ 1 (cpz (μ 1) (μ 0) 175)) 0 (lchZ z c))) (by rw [sa_z]; rfl) ?_
        refine hV.pop dX5_launchesToOpen_28 rfl ?_
        refine hV.iinc 0 (v := nI (m + 1)) (ls2 := [(2, .int (nI (m + 1))), (0, .ref b), (1, .int (nI c))]) dX5_launchesToOpen_29 rfl (nI_1 _) (by decide) rfl ?_
        refine hV.goto (tgt := 6) dX5_launchesToOpen_32 (by decide) ?_
        exact ih (m + 1) _ (by omega) (by rw [← he]; simp only [ltN]; rw [if_pos c13_4]) (lchZ_x hx hc) (pinZ_of hp (fun i h1 h2 => lchZ_keep _ hc h1 (by omega))) (fun i hi => (lchZ_hi _ hc hi).trans (hz i hi))
      · refine hV.if_ne_t (tgt := 35) dX5_launchesToOpen_13 (by decide) c13_4 ?_
        refine hV.aload_n 1 dX5_launchesToOpen_35 rfl ?_
        refine hV.callV1 (rest := []) dX5_launchesToOpen_36 (c_X5_putBack G) my_X5_putBack kv_X5_165 M_o rfl rfl rfl (Nat.le_of_ble_eq_true rfl) (Nat.le_of_ble_eq_true rfl) (Nat.le_of_ble_eq_true rfl) (Nat.le_of_ble_eq_true rfl) (Nat.le_of_ble_eq_true rfl) (st2 := []) (k2 := 0) (g2 := 0) rfl rfl rfl ?_
        refine zHeap (h2 := setM h b φ (sa μ 1 (cpz (μ 1) (μ 0) 175))) (by refine congrArg (fun z => setM h b φ z) ?_; rw [sa_z]; show sa _ 0 (cpz z (cpz (μ 1) (μ 0) 175) 175) = _; rw [cpz_back hz]; exact sa_self (sa μ 1 (cpz (μ 1) (μ 0) 175)) 0) ?_
        refine hV.iload_n 0 dX5_launchesToOpen_39 rfl ?_
        refine hV.sipush (v := 200) dX5_launchesToOpen_40 (by decide) ?_
        by_cases c43_5 : 200 < m
        · refine hV.icmp_gt_t (tgt := 50) dX5_launchesToOpen_43 (by decide) ((nI_ltI (a := 200) (b := m) (by omega) (by omega)).mpr c43_5) ?_
          refine hV.iconst (v := (-1)) dX5_launchesToOpen_50 (by decide) ?_
          exact hE.1 dX5_launchesToOpen_51 rfl rfl (by decide) (by decide) (zRi (by first | (exfalso; omega) | (have e9 : (ltN c 201 (μ 0, 0)).2 = m := (by rw [← he]; first | (simp only [ltN]; rw [if_neg (by assumption)]) | rfl); unfold ltV; rw [e9]; first | rw [if_neg (by omega)] | rw [if_pos (by omega)])) rfl rfl)
        · refine hV.icmp_gt_f (tgt := 50) dX5_launchesToOpen_43 (by decide) (fun q => absurd ((nI_ltI (a := 200) (b := m) (by omega) (by omega)).mp q) c43_5) ?_
          refine hV.iload_n 0 dX5_launchesToOpen_46 rfl ?_
          refine hV.goto (tgt := 51) dX5_launchesToOpen_47 (by decide) ?_
          exact hE.1 dX5_launchesToOpen_51 rfl rfl (by decide) (by decide) (zRi (by first | (exfalso; omega) | (have e9 : (ltN c 201 (μ 0, 0)).2 = m := (by rw [← he]; first | (simp only [ltN]; rw [if_neg (by assumption)]) | rfl); unfold ltV; rw [e9]; first | rw [if_neg (by omega)] | rw [if_pos (by omega)])) rfl rfl)
  exact loop (201) 0 (μ 0) (by omega) rfl hx0 hp0 (fun _ _ => rfl)

