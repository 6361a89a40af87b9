/-! The works of a text; the share -/
theorem nI_nn {p : Nat} (h : p < 2 ^ 30) : (0 : Int32) ≤ nI p := nI_pos' (by omega)
theorem feN_ok {f : Nat → Int32} {L k a : Nat} (ha : a ≤ L) (hL : L ≤ 60) (h : ¬ 0 ≤ feN f L (k + 1) a) : ∃ p, rpS f L a = (true, p) ∧ a < p ∧ p ≤ L ∧ (p + 1 ≤ L → ¬ 0 ≤ feN f L k (p + 1)) := by
  have hb := rpS_b f ha
  simp only [feN] at h
  generalize hq : rpS f L a = q at h hb
  obtain ⟨ok, p⟩ := q
  cases ok with
  | false => rw [if_neg Bool.false_ne_true] at h; exact absurd (nI_nn (by have := hb.2.1; simp only [] at this; omega)) h
  | true =>
    have hb3 := hb.2.2 rfl
    simp only [] at hb3 h
    rw [if_pos trivial] at h
    refine ⟨p, rfl, hb3.1, hb3.2, fun h2 => ?_⟩
    rw [if_neg (by omega)] at h
    by_cases h3 : f p = 59
    · rw [if_pos h3] at h; exact h
    · rw [if_neg h3] at h; exact absurd (nI_nn (by omega)) h
def wkN (f : Nat → Int32) (L : Nat) : Nat → Nat → zZ × Int32 × (Nat → Int32) → zZ × Int32 × (Nat → Int32)
  | 0, _, q => q
  | k + 1, a, q => if a < L then wkN f L k ((rpS f L a).2 + 1) ((dpZ (rpP f L a q.2.2) q.1).1, q.2.1 + (dpZ (rpP f L a q.2.2) q.1).2, rpP f L a q.2.2) else q
/-- the numbers in which the works begin -/
def wkF (f : Nat → Int32) (L k : Nat) (φ : Nat → Int32) : Nat → Int32 := va_up (va_up (feP f L (L + 1) 0 φ) 0 0) 1 (nI (recK k))
def wkQ (f : Nat → Int32) (L k : Nat) (z : zZ) (φ : Nat → Int32) : zZ × Int32 × (Nat → Int32) := wkN f L (L + 1) 0 (z, 0, wkF f L k φ)
theorem rpP_0 (f : Nat → Int32) (L a : Nat) (φ : Nat → Int32) {i : Nat} (h : i < 4) : rpP f L a φ i = φ i := rpP_3 f L a φ h
theorem wkN_x {f : Nat → Int32} {L : Nat} (hL : L ≤ 60) : ∀ (k a : Nat) (q : zZ × Int32 × (Nat → Int32)), (a ≤ L → ¬ 0 ≤ feN f L k a) → xOk q.1 → pinZ q.1 → xOk (wkN f L k a q).1 ∧ pinZ (wkN f L k a q).1 ∧ (∀ i, i < 4 → (wkN f L k a q).2.2 i = q.2.2 i) := by
  intro k
  induction k with
  | zero => intro a q _ h1 h2; exact ⟨h1, h2, fun _ _ => rfl⟩
  | succ k ih =>
    intro a q hf h1 h2
    simp only [wkN]
    by_cases ha : a < L
    · rw [if_pos ha]
      obtain ⟨p, hp, hp1, hp2, hp3⟩ := feN_ok (by omega) hL (hf (by omega))
      have hd := dpZ_x (φ := rpP f L a q.2.2) (z := q.1) (rpP_ok f L a q.2.2 (by rw [hp])) h1 h2
      have := ih ((rpS f L a).2 + 1) ((dpZ (rpP f L a q.2.2) q.1).1, q.2.1 + (dpZ (rpP f L a q.2.2) q.1).2, rpP f L a q.2.2) (by rw [hp]; exact hp3) hd.1 hd.2
      exact ⟨this.1, this.2.1, fun i hi => (this.2.2 i hi).trans (rpP_3 f L a q.2.2 hi)⟩
    · rw [if_neg ha]; exact ⟨h1, h2, fun _ _ => rfl⟩

set_option maxRecDepth 100000 in
set_option maxHeartbeats 4000000 in
theorem c_X5_work_x {l : Launch} {D : va_G} {base : Nat} (G : l.stackTraces = false) {h : zH} {n : Nat} {b : Nat} {μ : zB} {φ : Nat → Int32} {L : Nat} (hL : φ 3 = nI L) (hL2 : L ≤ 60) (hbad : 0 ≤ feN (μ 4) L (L + 1) 0) :
    zCt l D base 8 yX5_work w_X5_work [.ref b] (setM h b φ μ) n 0 0 (zR (some (.int 0)) (setM h b (va_up (feP (μ 4) L (L + 1) 0 φ) 0 1) μ) n) := by
  refine zCt.of G (by decide) (Nat.le_of_ble_eq_true rfl) (fun Sx V X hV hE hX => ?_)
  show V 0 [(0, .ref b)] [] (setM h b φ μ) n 0 0
  refine hV.aload_n 0 dX5_work_0 rfl ?_
  refine hV.aload_n 0 dX5_work_1 rfl ?_
  refine hV.callV1 (rest := [.ref b]) dX5_work_2 (c_X5_findError G (by exact hL) hL2) my_X5_findError kv_X5_133 M_o rfl rfl rfl (Nat.le_of_ble_eq_true rfl) (Nat.le_of_ble_eq_true rfl) (Nat.le_of_ble_eq_true rfl) (Nat.le_of_ble_eq_true rfl) (Nat.le_of_ble_eq_true rfl) (st2 := [.int (feN (μ 4) L (L + 1) 0), .ref b]) (k2 := 0) (g2 := 0) rfl rfl rfl ?_
  refine hV.if_ge_t (tgt := 12) dX5_work_5 (by decide) hbad ?_
  refine hV.iconst (v := 1) dX5_work_12 (by decide) ?_
  refine hV.putf dX5_work_13 fp_X5_35 M_o (Nat.le_of_ble_eq_true rfl) rfl rfl M_f0 ?_
  refine hV.aload_n 0 dX5_work_16 rfl ?_
  refine hV.getf (v := .int 1) dX5_work_17 fl_X5_35 M_o rfl ?_
  refine hV.if_le_f (tgt := 25) dX5_work_20 (by decide) (by decide) ?_
  refine hV.iconst (v := 0) dX5_work_23 (by decide) ?_
  exact hE.1 dX5_work_24 rfl rfl (by decide) (by decide) (zRi rfl rfl rfl)

set_option maxRecDepth 100000 in
set_option maxHeartbeats 4000000 in
theorem c_X5_work {l : Launch} {D : va_G} {base : Nat} (G : l.stackTraces = false) {h : zH} {n : Nat} {b : Nat} {μ : zB} {φ : Nat → Int32} {L : Nat} (hL : φ 3 = nI L) (hL2 : L ≤ 60) {k : Nat} (hk : φ 1 = nI k) (hk6 : k ≤ 6) (hx0 : xOk (μ 0)) (hp0 : pinZ (μ 0)) (hok : ¬ 0 ≤ feN (μ 4) L (L + 1) 0) :
    zCt l D base 8 yX5_work w_X5_work [.ref b] (setM h b φ μ) n 0 0 (zR (some (.int ((wkQ (μ 4) L k (μ 0) φ).2.1))) (setM h b (va_up ((wkQ (μ 4) L k (μ 0) φ).2.2) 3 0) (sa (sa μ 2 (recF (μ 2) (μ 0) k)) 0 ((wkQ (μ 4) L k (μ 0) φ).1))) n) := by
  refine zCt.of G (by decide) (Nat.le_of_ble_eq_true rfl) (fun Sx V X hV hE hX => ?_)
  show V 0 [(0, .ref b)] [] (setM h b φ μ) n 0 0
  refine hV.aload_n 0 dX5_work_0 rfl ?_
  refine hV.aload_n 0 dX5_work_1 rfl ?_
  refine hV.callV1 (rest := [.ref b]) dX5_work_2 (c_X5_findError G (by exact hL) hL2) my_X5_findError kv_X5_133 M_o rfl rfl rfl (Nat.le_of_ble_eq_true rfl) (Nat.le_of_ble_eq_true rfl) (Nat.le_of_ble_eq_true rfl) (Nat.le_of_ble_eq_true rfl) (Nat.le_of_ble_eq_true rfl) (st2 := [.int (feN (μ 4) L (L + 1) 0), .ref b]) (k2 := 0) (g2 := 0) rfl rfl rfl ?_
  refine hV.if_ge_f (tgt := 12) dX5_work_5 (by decide) hok ?_
  refine hV.iconst (v := 0) dX5_work_8 (by decide) ?_
  refine hV.goto (tgt := 13) dX5_work_9 (by decide) ?_
  refine hV.putf dX5_work_13 fp_X5_35 M_o (Nat.le_of_ble_eq_true rfl) rfl rfl M_f0 ?_
  refine hV.aload_n 0 dX5_work_16 rfl ?_
  refine hV.getf (v := .int 0) dX5_work_17 fl_X5_35 M_o rfl ?_
  refine hV.if_le_t (tgt := 25) dX5_work_20 (by decide) (by decide) ?_
  refine hV.aload_n 0 dX5_work_25 rfl ?_
  refine hV.callV1 (rest := []) dX5_work_26 (c_X5_record G (k := k) ((feP_3 _ _ (by decide) _ _ _).trans hk) hk6) my_X5_record kv_X5_50 M_o rfl rfl rfl (Nat.le_of_ble_eq_true rfl) (Nat.le_of_ble_eq_true rfl) (Nat.le_of_ble_eq_true rfl) (Nat.le_of_ble_eq_true rfl) (Nat.le_of_ble_eq_true rfl) (st2 := []) (k2 := 0) (g2 := 0) rfl rfl rfl ?_
  refine zHeap (h2 := setM h b (va_up (va_up (feP (μ 4) L (L + 1) 0 φ) 0 0) 1 (nI (recK k))) (sa μ 2 (recF (μ 2) (μ 0) k))) rfl ?_
  refine hV.iconst (v := 0) dX5_work_29 (by decide) ?_
  refine hV.istore_n (ls2 := [(1, .int 0), (0, .ref b)]) dX5_work_30 (by decide) rfl ?_
  refine hV.iconst (v := 0) dX5_work_31 (by decide) ?_
  refine hV.istore_n (ls2 := [(2, .int 0), (1, .int 0), (0, .ref b)]) dX5_work_32 (by decide) rfl ?_
  refine zHeap (h2 := setM h b (wkF (μ 4) L k φ) (sa (sa μ 2 (recF (μ 2) (μ 0) k)) 0 (μ 0))) (by exact congrArg (fun z => setM h b _ z) (sa_self (sa μ 2 (recF (μ 2) (μ 0) k)) 0).symm) ?_
  have loop : ∀ (r a : Nat) (z : zZ) (s : Int32) (ψ : Nat → Int32), L < a + r → (a ≤ L → ¬ 0 ≤ feN (μ 4) L r a) → xOk z → pinZ z → ψ 3 = nI L → a ≤ L + 1 → wkN (μ 4) L r a (z, s, ψ) = wkQ (μ 4) L k (μ 0) φ → V 33 [(2, .int (nI a)), (1, .int s), (0, .ref b)] [] (setM h b ψ (sa (sa μ 2 (recF (μ 2) (μ 0) k)) 0 z)) n 0 0 := by
    intro r
    induction r with
    | zero =>
      intro a z s ψ h1 hf hx hp hψ ha he
      refine hV.iload_n 0 dX5_work_33 rfl ?_
      refine hV.aload_n 2 dX5_work_34 rfl ?_
      refine hV.getf (v := .int (ψ 3)) dX5_work_35 fl_X5_109 M_o rfl ?_
      refine zTop (v := nI L) hψ ?_
      refine hV.icmp_ge_t (tgt := 59) dX5_work_38 (by decide) ((nI_leI (a := L) (b := a) (by omega) (by omega)).mpr (by omega)) ?_
      refine hV.aload_n 2 dX5_work_59 rfl ?_
      refine hV.iconst (v := 0) dX5_work_60 (by decide) ?_
      refine hV.putf dX5_work_61 fp_X5_109 M_o (Nat.le_of_ble_eq_true rfl) rfl rfl M_f3 ?_
      refine hV.iload_n 1 dX5_work_64 rfl ?_
      exact hE.1 dX5_work_65 rfl rfl (by decide) (by decide) (zRi (by rw [← he]; rfl) (by rw [← he]; rfl) rfl)
    | succ r ih =>
      intro a z s ψ h1 hf hx hp hψ ha he
      have hψ2 : rpP (μ 4) L a ψ 3 = nI L := (rpP_3 _ _ _ _ (by decide)).trans hψ
      refine hV.iload_n 0 dX5_work_33 rfl ?_
      refine hV.aload_n 2 dX5_work_34 rfl ?_
      refine hV.getf (v := .int (ψ 3)) dX5_work_35 fl_X5_109 M_o rfl ?_
      refine zTop (v := nI L) hψ ?_
      by_cases c38_1 : L ≤ a
      · refine hV.icmp_ge_t (tgt := 59) dX5_work_38 (by decide) ((nI_leI (a := L) (b := a) (by omega) (by omega)).mpr c38_1) ?_
        refine hV.aload_n 2 dX5_work_59 rfl ?_
        refine hV.iconst (v := 0) dX5_work_60 (by decide) ?_
        refine hV.putf dX5_work_61 fp_X5_109 M_o (Nat.le_of_ble_eq_true rfl) rfl rfl M_f3 ?_
        refine hV.iload_n 1 dX5_work_64 rfl ?_
        exact hE.1 dX5_work_65 rfl rfl (by decide) (by decide) (zRi (by rw [← he]; simp only [wkN]; rw [if_neg (by omega)]) (by rw [← he]; simp only [wkN]; rw [if_neg (by omega)]) rfl)
      · refine hV.icmp_ge_f (tgt := 59) dX5_work_38 (by decide) (fun q => absurd ((nI_leI (a := L) (b := a) (by omega) (by omega)).mp q) c38_1) ?_
        refine hV.aload_n 2 dX5_work_41 rfl ?_
        refine hV.iload_n 0 dX5_work_42 rfl ?_
        obtain ⟨p, hq, hp1, hp2, hp3⟩ := feN_ok (f := μ 4) (k := r) (show a ≤ L by omega) hL2 (hf (by omega))
        refine hV.callV1 (rest := []) dX5_work_43 (c_X5_readPart G (a := a) (by exact hψ) hL2 (by omega)) my_X5_readPart kv_X5_130 M_o rfl rfl rfl (Nat.le_of_ble_eq_true rfl) (Nat.le_of_ble_eq_true rfl) (Nat.le_of_ble_eq_true rfl) (Nat.le_of_ble_eq_true rfl) (Nat.le_of_ble_eq_true rfl) (st2 := [.int (rpE (rpS (μ 4) L a))]) (k2 := 0) (g2 := 0) rfl rfl rfl ?_
        refine zTop (v := nI p) (by rw [hq, rpE_t]) ?_
        refine hV.iconst (v := 1) dX5_work_46 (by decide) ?_
        refine hV.iaddN (a := p) (b := 1) dX5_work_47 ?_
        refine hV.istore_n (ls2 := [(2, .int (nI (p + 1))), (1, .int s), (0, .ref b)]) dX5_work_48 (by decide) rfl ?_
        refine hV.iload_n 1 dX5_work_49 rfl ?_
        refine hV.aload_n 2 dX5_work_50 rfl ?_
        refine hV.callV1 (rest := [.int s]) dX5_work_51 (c_X5_doPart G (rpP_ok (μ 4) L a ψ (by rw [hq])) (by exact hx) (by exact hp)) my_X5_doPart kv_X5_137 M_o rfl rfl rfl (Nat.le_of_ble_eq_true rfl) (Nat.le_of_ble_eq_true rfl) (Nat.le_of_ble_eq_true rfl) (Nat.le_of_ble_eq_true rfl) (Nat.le_of_ble_eq_true rfl) (st2 := [.int ((dpZ (rpP (μ 4) L a ψ) z).2), .int s]) (k2 := 0) (g2 := 0) rfl rfl rfl ?_
        refine zHeap (h2 := setM h b (rpP (μ 4) L a ψ) (sa (sa μ 2 (recF (μ 2) (μ 0) k)) 0 ((dpZ (rpP (μ 4) L a ψ) z).1))) (by rw [sa_z]; rfl) ?_
        refine hV.iadd dX5_work_54 ?_
        refine hV.istore_n (ls2 := [(1, .int (s + ((dpZ (rpP (μ 4) L a ψ) z).2))), (2, .int (nI (p + 1))), (0, .ref b)]) dX5_work_55 (by decide) rfl ?_
        refine hV.goto (tgt := 33) dX5_work_56 (by decide) ?_
        refine hV.pick [1, 0, 2] (ls2 := [(2, .int (nI (p + 1))), (1, .int (s + ((dpZ (rpP (μ 4) L a ψ) z).2))), (0, .ref b)]) rfl ?_
        have hd := dpZ_x (φ := rpP (μ 4) L a ψ) (z := z) (rpP_ok (μ 4) L a ψ (by rw [hq])) hx hp
        exact ih (p + 1) _ _ _ (by omega) hp3 hd.1 hd.2 hψ2 (by omega) (by rw [← he]; simp only [wkN]; rw [if_pos (by omega), hq])
  exact loop (L + 1) 0 (μ 0) 0 (wkF (μ 4) L k φ) (by omega) (fun _ => hok) hx0 hp0 ((feP_3 _ _ (by decide) _ _ _).trans hL) (by omega) rfl

def shV (z : zZ) : UInt64 := if z 3 = 0 then FP.dconst0 else FP.ddiv (FP.i2d (z 4)) (FP.i2d (z 3))

set_option maxRecDepth 100000 in
set_option maxHeartbeats 4000000 in
theorem c_X5_share {l : Launch} {D : va_G} {base : Nat} (G : l.stackTraces = false) {h : zH} {n : Nat} {b : Nat} {μ : zB} {φ : Nat → Int32} (hn : ¬ μ 0 3 = 0 → vf_n64 (FP.ddiv (FP.i2d (μ 0 4)) (FP.i2d (μ 0 3)))) :
    zCt l D base 1 yX5_share w_X5_share [.ref b] (setM h b φ μ) n 0 0 (zR (some (.double (shV (μ 0)))) (setM h b φ μ) n) := by
  refine zCt.of G (by decide) (Nat.le_of_ble_eq_true rfl) (fun Sx V X hV hE hX => ?_)
  show V 0 [(0, .ref b)] [] (setM h b φ μ) n 0 0
  refine hV.aload_n 0 dX5_share_0 rfl ?_
  refine hV.getf (v := .ref (b + 1)) dX5_share_1 fl_X5_7 M_o rfl ?_
  refine hV.iconst (v := 3) dX5_share_4 (by decide) ?_
  refine hV.iald (j := 3) dX5_share_5 M_a0 ⟨by decide, by decide⟩ (by decide) ?_
  by_cases c6_1 : (μ 0 3) = 0
  · refine hV.if_ne_f (tgt := 13) dX5_share_6 (by decide) c6_1 ?_
    refine hV.dconst0 dX5_share_9 ?_
    refine hV.goto (tgt := 28) dX5_share_10 (by decide) ?_
    exact hE.2.2.1 dX5_share_28 rfl (by decide) (by decide) (zRd (by unfold shV; rw [if_pos c6_1]) rfl rfl)
  · refine hV.if_ne_t (tgt := 13) dX5_share_6 (by decide) c6_1 ?_
    refine hV.aload_n 0 dX5_share_13 rfl ?_
    refine hV.getf (v := .ref (b + 1)) dX5_share_14 fl_X5_7 M_o rfl ?_
    refine hV.iconst (v := 4) dX5_share_17 (by decide) ?_
    refine hV.iald (j := 4) dX5_share_18 M_a0 ⟨by decide, by decide⟩ (by decide) ?_
    refine hV.i2d dX5_share_19 ?_
    refine hV.aload_n 0 dX5_share_20 rfl ?_
    refine hV.getf (v := .ref (b + 1)) dX5_share_21 fl_X5_7 M_o rfl ?_
    refine hV.iconst (v := 3) dX5_share_24 (by decide) ?_
    refine hV.iald (j := 3) dX5_share_25 M_a0 ⟨by decide, by decide⟩ (by decide) ?_
    refine hV.i2d dX5_share_26 ?_
    refine hV.ddiv dX5_share_27 (hn (by assumption)) ?_
    exact hE.2.2.1 dX5_share_28 rfl (by decide) (by decide) (zRd (by unfold shV; rw [if_neg c6_1]) rfl rfl)
