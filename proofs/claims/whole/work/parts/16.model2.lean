/-! The reference, 2 -/
theorem va_ne {f : Nat → Int32} {i k : Nat} {x : Int32} (h : k ≠ i) : va_up f i x k = f k := if_neg h
theorem spZ_keep {z : zZ} {i : Nat} (h : 20 ≤ i) : spZ z i = z i := by
  have h4 : ∀ w : zZ, spZ4 w i = w i := fun w => by
    unfold spZ4
    split
    · split
      · rw [va_ne (by omega), va_ne (by omega), va_ne (by omega), va_ne (by omega)]
      · rw [va_ne (by omega)]
    · rw [va_ne (by omega)]
  have hr : ∀ (w : zZ) (m : Int32) (r : Nat), r < 3 → spZr w m r i = w i := fun w m r hr => by
    unfold spZr dZ
    rw [va_ne (by omega), va_ne (by omega)]
  unfold spZ spZ3
  rw [h4, hr _ _ _ (by omega), hr _ _ _ (by omega), hr _ _ _ (by omega)]
  unfold spZ2 spZ1
  rw [va_ne (by omega), va_ne (by omega), va_ne (by omega)]
theorem spZ_x {z : zZ} (h : xOk z) : xOk (spZ z) := by
  have h4 : ∀ w : zZ, xOk w → xOk (spZ4 w) := fun w h => by
    obtain ⟨a, h1, h2⟩ := h
    refine ⟨a, h1, ?_⟩
    unfold spZ4
    split
    · split
      · exact h2
      · exact h2
    · exact h2
  have hr : ∀ (w : zZ) (m : Int32) (r : Nat), xOk w → xOk (spZr w m r) := fun w m r h => by
    unfold spZr
    exact xOk_up (xOk_d h) (by omega)
  unfold spZ spZ3
  refine h4 _ (hr _ _ _ (hr _ _ _ (hr _ _ _ ?_)))
  unfold spZ2 spZ1
  exact xOk_up (xOk_up (xOk_up h (by decide)) (by decide)) (by decide)
theorem lz2_keep {z : zZ} {i : Nat} (h : 20 ≤ i) : lz2 (lz1 z) i = z i := by
  have h1 : lz1 z i = z i := by
    unfold lz1
    rw [va_ne (by omega), va_ne (by omega)]
  unfold lz2
  split
  · exact h1
  · split
    · rw [spZ_keep h]; exact h1
    · exact h1
theorem lz2_x {z : zZ} (h : xOk z) : xOk (lz2 (lz1 z)) := by
  have h1 : xOk (lz1 z) := xOk_up (xOk_up h (by decide)) (by decide)
  unfold lz2
  split
  · exact h1
  · split
    · exact spZ_x h1
    · exact h1
theorem falN_lt (z : zZ) {c : Nat} (hc : c < 7) (r : Nat) : (falN z c r).2 < 7 := by
  induction r with
  | zero => exact hc
  | succ r ih =>
    show (falS _ _ _).2 < 7
    unfold falS
    split <;> exact bnc_lt ih
theorem falN_keep (z : zZ) {c i : Nat} (h0 : 0 ≠ i) (r : Nat) (hi : i < 167 ∨ 167 + r ≤ i) : (falN z c r).1 i = z i := by
  induction r with
  | zero => rfl
  | succ r ih =>
    show (falS _ _ _).1 i = _
    rw [← ih (by omega)]
    unfold falS
    split
    · show dZ _ i = _
      unfold dZ
      rw [va_ne (Ne.symm h0), va_ne (by omega)]
    · show va_up _ _ _ i = _
      rw [va_ne (by omega)]
theorem falN_x {z : zZ} (h : xOk z) (c r : Nat) : xOk (falN z c r).1 := by
  induction r with
  | zero => exact h
  | succ r ih =>
    show xOk (falS _ _ _).1
    unfold falS
    split
    · exact xOk_d (xOk_up ih (by omega))
    · exact xOk_up ih (by omega)
theorem lzA_lt (z : zZ) {c : Nat} (hc : c < 7) : (lzA z c).2 < 7 := by rw [← lzA_eq]; exact falN_lt _ hc 8
theorem lzA_keep (z : zZ) (c : Nat) {i : Nat} (h : 20 ≤ i) (hi : i < 167) : (lzA z c).1 i = z i := by
  rw [← lzA_eq, falN_keep _ (by omega) 8 (by omega), lz2_keep h]
theorem lzA_x {z : zZ} (h : xOk z) (c : Nat) : xOk (lzA z c).1 := by rw [← lzA_eq]; exact falN_x (lz2_x h) c 8
theorem comeZ_keep (z : zZ) (p : Nat) {i : Nat} (h : i = 0 ∨ 20 ≤ i) (hi : i < 132 ∨ 167 ≤ i) (hp : p < 7) : comeZ z p i = z i := by
  have h1 : ∀ o, cz1 z p o i = z i := fun o => by
    unfold cz1
    split
    · rw [va_ne (by omega)]
    · rfl
  have h2 : ∀ (w : zZ) (k o : Int32), cz2 w k o i = w i := fun w k o => by unfold cz2; rw [va_ne (by omega)]
  have h3 : ∀ (w : zZ) (o : Int32), cz3 w o i = w i := fun w o => by unfold cz3; rw [va_ne (by omega)]
  have h4 : ∀ (w : zZ) (o b : Int32), cz4 w o b i = w i := fun w o b => by unfold cz4; rw [va_ne (by omega)]
  have h5 : ∀ (w : zZ) (b : Int32), cz5 w b i = w i := fun w b => by unfold cz5; rw [va_ne (by omega), va_ne (by omega)]
  have h6 : ∀ (w : zZ), cz6 w p i = w i := fun w => by unfold cz6; rw [va_ne (by omega)]
  have h7 : ∀ (w : zZ) (b : Int32), cz7 w p b i = w i := fun w b => by unfold cz7; rw [va_ne (by omega)]
  unfold comeZ czB czA
  rw [va_ne (by omega), h7, h6, h5, h4, h3, h2, h1]
theorem lchZ_keep (z : zZ) {c i : Nat} (hc : c < 7) (h : 20 ≤ i) (hi : i < 132) : lchZ z c i = z i := by
  unfold lchZ lz5
  show va_up _ _ _ i = _
  rw [va_ne (by omega), comeZ_keep _ _ (Or.inr h) (by omega) (lzA_lt z hc), lzA_keep _ _ h (by omega)]
theorem xOk_of {z w : zZ} (h : xOk z) (e : w 0 = z 0) : xOk w := by
  obtain ⟨a, h1, h2⟩ := h
  exact ⟨a, h1, e.trans h2⟩
theorem lchZ_x {z : zZ} (h : xOk z) {c : Nat} (hc : c < 7) : xOk (lchZ z c) := by
  refine xOk_of (lzA_x h c) ?_
  unfold lchZ lz5
  show va_up _ _ _ 0 = _
  rw [va_ne (by decide), comeZ_keep _ _ (Or.inl rfl) (by omega) (lzA_lt z hc)]
theorem pinZ_of {z w : zZ} (h : pinZ z) (e : ∀ i, 20 ≤ i → i < 76 → w i = z i) : pinZ w := fun i hi => by rw [e _ (by omega) (by omega)]; exact h i hi
def cpF (d s : Nat → Int32) (o i : Nat) : Nat → Int32 := fun k => if k < i then s (o + k) else d k
theorem cpF_s (d s : Nat → Int32) (o i : Nat) : va_up (cpF d s o i) i (s (o + i)) = cpF d s o (i + 1) := by
  funext k
  unfold va_up cpF
  by_cases h1 : k = i
  · rw [if_pos h1, if_pos (by omega), h1]
  · rw [if_neg h1]
    by_cases h2 : k < i
    · rw [if_pos h2, if_pos (by omega)]
    · rw [if_neg h2, if_neg (by omega)]
theorem cpF_0 (d s : Nat → Int32) (o : Nat) : cpF d s o 0 = d := by funext k; unfold cpF; rw [if_neg (by omega)]
theorem cpF_ge (d s : Nat → Int32) (o i k : Nat) (h : i ≤ k) : cpF d s o i k = d k := by unfold cpF; rw [if_neg (by omega)]
def cpz (d s : Nat → Int32) (i : Nat) : Nat → Int32 := fun k => if k < i then s k else d k
theorem cpz_s (d s : Nat → Int32) (i : Nat) : va_up (cpz d s i) i (s i) = cpz d s (i + 1) := by
  funext k
  unfold va_up cpz
  by_cases h1 : k = i
  · rw [if_pos h1, if_pos (by omega), h1]
  · rw [if_neg h1]
    by_cases h2 : k < i
    · rw [if_pos h2, if_pos (by omega)]
    · rw [if_neg h2, if_neg (by omega)]
theorem cpz_0 (d s : Nat → Int32) : cpz d s 0 = d := by funext k; unfold cpz; rw [if_neg (by omega)]
def cpO (d s : Nat → Int32) (o i : Nat) : Nat → Int32 := fun k => if o ≤ k ∧ k < o + i then s (k - o) else d k
theorem cpO_s (d s : Nat → Int32) (o i : Nat) : va_up (cpO d s o i) (o + i) (s i) = cpO d s o (i + 1) := by
  funext k
  unfold va_up cpO
  by_cases h1 : k = o + i
  · rw [if_pos h1, if_pos (by omega), h1, show o + i - o = i by omega]
  · rw [if_neg h1]
    by_cases h2 : o ≤ k ∧ k < o + i
    · rw [if_pos h2, if_pos (by omega)]
    · rw [if_neg h2, if_neg (by omega)]
theorem cpO_0 (d s : Nat → Int32) (o : Nat) : cpO d s o 0 = d := by funext k; unfold cpO; rw [if_neg (by omega)]
def recF (sv z : Nat → Int32) (k : Nat) : Nat → Int32 := if k = 6 then cpO (cpF sv sv 175 875) z 875 175 else cpO sv z (175 * k) 175
def recK (k : Nat) : Nat := if k = 6 then 6 else k + 1
theorem va_up2 {f : Nat → Int32} {i : Nat} {x y : Int32} : va_up (va_up f i x) i y = va_up f i y := by
  funext k; unfold va_up; split <;> rfl
theorem va_upv {f : Nat → Int32} {i : Nat} {x : Int32} (h : f i = x) : va_up f i x = f := by
  funext k; unfold va_up; split
  · next e => rw [e, h]
  · rfl
theorem sa_sw {μ : zB} {j k : Nat} {f g f2 : Nat → Int32} (h : j ≠ k) : sa (sa (sa μ j f) k g) j f2 = sa (sa μ k g) j f2 := by
  funext a; unfold sa
  by_cases h1 : a = j
  · simp [h1]
  · by_cases h2 : a = k
    · simp [h1, h2]
    · simp [h1, h2]
def undZ (z sv : Nat → Int32) (k : Nat) : Nat → Int32 := cpF z sv (175 * k) 175

set_option maxRecDepth 100000 in
set_option maxHeartbeats 4000000 in
theorem c_X5_come {l : Launch} {D : va_G} {base : Nat} (G : l.stackTraces = false) {h : zH} {n : Nat} {b : Nat} {μ : zB} {φ : Nat → Int32} {p : Nat} (hp : p < 7) :
    zCt l D base 3 yX5_come w_X5_come [.ref b, .int (nI p)] (setM h b φ μ) n 0 0 (zR (some (.int (comeZr (μ 0) p))) (setM h b φ (sa μ 0 (comeZ (μ 0) p))) n) := by
  refine zCt.of G (by decide) (Nat.le_of_ble_eq_true rfl) (fun Sx V X hV hE hX => ?_)
  show V 0 [(0, .ref b), (1, .int (nI p))] [] (setM h b φ μ) n 0 0
  refine hV.aload_n 0 dX5_come_0 rfl ?_
  refine hV.iload_n 1 dX5_come_1 rfl ?_
  refine hV.callV1 (rest := []) dX5_come_2 (c_X5_isOpen G (p := p) (by omega)) my_X5_isOpen kv_X5_88 M_o rfl rfl rfl (Nat.le_of_ble_eq_true rfl) (Nat.le_of_ble_eq_true rfl) (Nat.le_of_ble_eq_true rfl) (Nat.le_of_ble_eq_true rfl) (Nat.le_of_ble_eq_true rfl) (st2 := [.int (isOpenZ (μ 0) p)]) (k2 := 0) (g2 := 0) rfl rfl rfl ?_
  obtain ⟨o, ho⟩ : ∃ o : Int32, o = isOpenZ (μ 0) p := ⟨_, rfl⟩
  rw [← ho]
  refine hV.istore_n (ls2 := [(2, .int o), (0, .ref b), (1, .int (nI p))]) dX5_come_5 (by decide) rfl ?_
  refine hV.aload_n 1 dX5_come_6 rfl ?_
  refine hV.iload_n 2 dX5_come_7 rfl ?_
  refine hV.iconst (v := 0) dX5_come_8 (by decide) ?_
  refine hV.callV1 (rest := []) dX5_come_9 (c_X5_of G (p := p) (w := 0) (by omega) (by omega)) my_X5_of kv_X5_68 M_o rfl rfl rfl (Nat.le_of_ble_eq_true rfl) (Nat.le_of_ble_eq_true rfl) (Nat.le_of_ble_eq_true rfl) (Nat.le_of_ble_eq_true rfl) (Nat.le_of_ble_eq_true rfl) (st2 := [.int ((μ 0) (132 + 5 * p))]) (k2 := 0) (g2 := 0) rfl rfl rfl ?_
  refine hV.istore_n (ls2 := [(3, .int ((μ 0) (132 + 5 * p))), (2, .int o), (0, .ref b), (1, .int (nI p))]) dX5_come_12 (by decide) rfl ?_
  have J115 : V 115 [(4, .int (czO (μ 0) p o)), (3, .int (μ 0 (132 + 5 * p))), (2, .int o), (0, .ref b), (1, .int (nI p))] [] (setM h b φ (sa μ 0 (cz4 (cz3 (cz2 (cz1 (μ 0) p o) (μ 0 (132 + 5 * p)) o) o) o (czO (μ 0) p o)))) n 0 0 := by
    refine hV.aload_n 3 dX5_come_115 rfl ?_
    refine hV.getf (v := .ref (b + 1)) dX5_come_116 fl_X5_7 M_o rfl ?_
    refine hV.iconst (v := 4) dX5_come_119 (by decide) ?_
    refine hV.dup2 dX5_come_120 rfl rfl ?_
    refine hV.iald (j := 4) dX5_come_121 M_a0 ⟨by decide, by decide⟩ (by decide) ?_
    refine zTop (v := (cz4 (cz3 (cz2 (cz1 (μ 0) p o) (μ 0 (132 + 5 * p)) o) o) o (czO (μ 0) p o)) 4) (congrFun (sa_at _ _ _) _) ?_
    refine hV.iload 0 dX5_come_122 rfl ?_
    refine hV.iadd dX5_come_124 ?_
    refine hV.iast (j := 4) dX5_come_125 M_a0 ⟨by decide, by decide⟩ (by decide) M_p0 ?_
    refine hV.aload_n 3 dX5_come_126 rfl ?_
    refine hV.getf (v := .ref (b + 1)) dX5_come_127 fl_X5_7 M_o rfl ?_
    refine hV.iconst (v := 1) dX5_come_130 (by decide) ?_
    refine hV.dup2 dX5_come_131 rfl rfl ?_
    refine hV.iald (j := 1) dX5_come_132 M_a0 ⟨by decide, by decide⟩ (by decide) ?_
    refine zTop (v := (cz4 (cz3 (cz2 (cz1 (μ 0) p o) (μ 0 (132 + 5 * p)) o) o) o (czO (μ 0) p o)) 1) (by simp [up2, sa, va_up]) ?_
    refine hV.iload 0 dX5_come_133 rfl ?_
    refine hV.iadd dX5_come_135 ?_
    refine hV.iast (j := 1) dX5_come_136 M_a0 ⟨by decide, by decide⟩ (by decide) M_p0 ?_
    refine hV.aload_n 3 dX5_come_137 rfl ?_
    refine hV.iload_n 4 dX5_come_138 rfl ?_
    refine hV.iconst (v := 3) dX5_come_139 (by decide) ?_
    refine hV.aload_n 3 dX5_come_140 rfl ?_
    refine hV.iload_n 4 dX5_come_141 rfl ?_
    refine hV.iconst (v := 3) dX5_come_142 (by decide) ?_
    refine zHeap (h2 := setM h b φ (sa μ 0 (va_up (va_up (cz4 (cz3 (cz2 (cz1 (μ 0) p o) (μ 0 (132 + 5 * p)) o) o) o (czO (μ 0) p o)) 4 (((cz4 (cz3 (cz2 (cz1 (μ 0) p o) (μ 0 (132 + 5 * p)) o) o) o (czO (μ 0) p o)) 4) + (czO (μ 0) p o))) 1 (((cz4 (cz3 (cz2 (cz1 (μ 0) p o) (μ 0 (132 + 5 * p)) o) o) o (czO (μ 0) p o)) 1) + (czO (μ 0) p o))))) (by simp only [up2_sa, sa_z, sa_at]; try rfl) ?_
    refine hV.callV1 (rest := [.int 3, .int (nI p), .ref b]) dX5_come_143 (c_X5_of G (p := p) (w := 3) (by omega) (by omega)) my_X5_of kv_X5_68 M_o rfl rfl rfl (Nat.le_of_ble_eq_true rfl) (Nat.le_of_ble_eq_true rfl) (Nat.le_of_ble_eq_true rfl) (Nat.le_of_ble_eq_true rfl) (Nat.le_of_ble_eq_true rfl) (st2 := [.int ((va_up (va_up (cz4 (cz3 (cz2 (cz1 (μ 0) p o) (μ 0 (132 + 5 * p)) o) o) o (czO (μ 0) p o)) 4 (((cz4 (cz3 (cz2 (cz1 (μ 0) p o) (μ 0 (132 + 5 * p)) o) o) o (czO (μ 0) p o)) 4) + (czO (μ 0) p o))) 1 (((cz4 (cz3 (cz2 (cz1 (μ 0) p o) (μ 0 (132 + 5 * p)) o) o) o (czO (μ 0) p o)) 1) + (czO (μ 0) p o))) (132 + 5 * p + 3)), .int 3, .int (nI p), .ref b]) (k2 := 0) (g2 := 0) rfl rfl rfl ?_
    refine hV.iconst (v := 1) dX5_come_146 (by decide) ?_
    refine hV.iadd dX5_come_147 ?_
    refine hV.callV1 (rest := []) dX5_come_148 (c_X5_put G (p := p) (w := 3) (by omega) (by omega)) my_X5_put kv_X5_31 M_o rfl rfl rfl (Nat.le_of_ble_eq_true rfl) (Nat.le_of_ble_eq_true rfl) (Nat.le_of_ble_eq_true rfl) (Nat.le_of_ble_eq_true rfl) (Nat.le_of_ble_eq_true rfl) (st2 := []) (k2 := 0) (g2 := 0) rfl rfl rfl ?_
    refine zHeap (h2 := setM h b φ (sa μ 0 (va_up (va_up (va_up (cz4 (cz3 (cz2 (cz1 (μ 0) p o) (μ 0 (132 + 5 * p)) o) o) o (czO (μ 0) p o)) 4 (((cz4 (cz3 (cz2 (cz1 (μ 0) p o) (μ 0 (132 + 5 * p)) o) o) o (czO (μ 0) p o)) 4) + (czO (μ 0) p o))) 1 (((cz4 (cz3 (cz2 (cz1 (μ 0) p o) (μ 0 (132 + 5 * p)) o) o) o (czO (μ 0) p o)) 1) + (czO (μ 0) p o))) (132 + 5 * p + 3) (((va_up (va_up (cz4 (cz3 (cz2 (cz1 (μ 0) p o) (μ 0 (132 + 5 * p)) o) o) o (czO (μ 0) p o)) 4 (((cz4 (cz3 (cz2 (cz1 (μ 0) p o) (μ 0 (132 + 5 * p)) o) o) o (czO (μ 0) p o)) 4) + (czO (μ 0) p o))) 1 (((cz4 (cz3 (cz2 (cz1 (μ 0) p o) (μ 0 (132 + 5 * p)) o) o) o (czO (μ 0) p o)) 1) + (czO (μ 0) p o))) (132 + 5 * p + 3)) + 1)))) (by rw [sa_z]; rfl) ?_
    refine hV.aload_n 3 dX5_come_151 rfl ?_
    refine hV.iload_n 4 dX5_come_152 rfl ?_
    refine hV.iconst (v := 4) dX5_come_153 (by decide) ?_
    refine hV.aload_n 3 dX5_come_154 rfl ?_
    refine hV.iload_n 4 dX5_come_155 rfl ?_
    refine hV.iconst (v := 4) dX5_come_156 (by decide) ?_
    refine hV.callV1 (rest := [.int 4, .int (nI p), .ref b]) dX5_come_157 (c_X5_of G (p := p) (w := 4) (by omega) (by omega)) my_X5_of kv_X5_68 M_o rfl rfl rfl (Nat.le_of_ble_eq_true rfl) (Nat.le_of_ble_eq_true rfl) (Nat.le_of_ble_eq_true rfl) (Nat.le_of_ble_eq_true rfl) (Nat.le_of_ble_eq_true rfl) (st2 := [.int ((va_up (va_up (va_up (cz4 (cz3 (cz2 (cz1 (μ 0) p o) (μ 0 (132 + 5 * p)) o) o) o (czO (μ 0) p o)) 4 (((cz4 (cz3 (cz2 (cz1 (μ 0) p o) (μ 0 (132 + 5 * p)) o) o) o (czO (μ 0) p o)) 4) + (czO (μ 0) p o))) 1 (((cz4 (cz3 (cz2 (cz1 (μ 0) p o) (μ 0 (132 + 5 * p)) o) o) o (czO (μ 0) p o)) 1) + (czO (μ 0) p o))) (132 + 5 * p + 3) (((va_up (va_up (cz4 (cz3 (cz2 (cz1 (μ 0) p o) (μ 0 (132 + 5 * p)) o) o) o (czO (μ 0) p o)) 4 (((cz4 (cz3 (cz2 (cz1 (μ 0) p o) (μ 0 (132 + 5 * p)) o) o) o (czO (μ 0) p o)) 4) + (czO (μ 0) p o))) 1 (((cz4 (cz3 (cz2 (cz1 (μ 0) p o) (μ 0 (132 + 5 * p)) o) o) o (czO (μ 0) p o)) 1) + (czO (μ 0) p o))) (132 + 5 * p + 3)) + 1)) (132 + 5 * p + 4)), .int 4, .int (nI p), .ref b]) (k2 := 0) (g2 := 0) rfl rfl rfl ?_
    refine hV.iload 0 dX5_come_160 rfl ?_
    refine hV.iadd dX5_come_162 ?_
    refine hV.callV1 (rest := []) dX5_come_163 (c_X5_put G (p := p) (w := 4) (by omega) (by omega)) my_X5_put kv_X5_31 M_o rfl rfl rfl (Nat.le_of_ble_eq_true rfl) (Nat.le_of_ble_eq_true rfl) (Nat.le_of_ble_eq_true rfl) (Nat.le_of_ble_eq_true rfl) (Nat.le_of_ble_eq_true rfl) (st2 := []) (k2 := 0) (g2 := 0) rfl rfl rfl ?_
    refine zHeap (h2 := setM h b φ (sa μ 0 (va_up (va_up (va_up (va_up (cz4 (cz3 (cz2 (cz1 (μ 0) p o) (μ 0 (132 + 5 * p)) o) o) o (czO (μ 0) p o)) 4 (((cz4 (cz3 (cz2 (cz1 (μ 0) p o) (μ 0 (132 + 5 * p)) o) o) o (czO (μ 0) p o)) 4) + (czO (μ 0) p o))) 1 (((cz4 (cz3 (cz2 (cz1 (μ 0) p o) (μ 0 (132 + 5 * p)) o) o) o (czO (μ 0) p o)) 1) + (czO (μ 0) p o))) (132 + 5 * p + 3) (((va_up (va_up (cz4 (cz3 (cz2 (cz1 (μ 0) p o) (μ 0 (132 + 5 * p)) o) o) o (czO (μ 0) p o)) 4 (((cz4 (cz3 (cz2 (cz1 (μ 0) p o) (μ 0 (132 + 5 * p)) o) o) o (czO (μ 0) p o)) 4) + (czO (μ 0) p o))) 1 (((cz4 (cz3 (cz2 (cz1 (μ 0) p o) (μ 0 (132 + 5 * p)) o) o) o (czO (μ 0) p o)) 1) + (czO (μ 0) p o))) (132 + 5 * p + 3)) + 1)) (132 + 5 * p + 4) (((va_up (va_up (va_up (cz4 (cz3 (cz2 (cz1 (μ 0) p o) (μ 0 (132 + 5 * p)) o) o) o (czO (μ 0) p o)) 4 (((cz4 (cz3 (cz2 (cz1 (μ 0) p o) (μ 0 (132 + 5 * p)) o) o) o (czO (μ 0) p o)) 4) + (czO (μ 0) p o))) 1 (((cz4 (cz3 (cz2 (cz1 (μ 0) p o) (μ 0 (132 + 5 * p)) o) o) o (czO (μ 0) p o)) 1) + (czO (μ 0) p o))) (132 + 5 * p + 3) (((va_up (va_up (cz4 (cz3 (cz2 (cz1 (μ 0) p o) (μ 0 (132 + 5 * p)) o) o) o (czO (μ 0) p o)) 4 (((cz4 (cz3 (cz2 (cz1 (μ 0) p o) (μ 0 (132 + 5 * p)) o) o) o (czO (μ 0) p o)) 4) + (czO (μ 0) p o))) 1 (((cz4 (cz3 (cz2 (cz1 (μ 0) p o) (μ 0 (132 + 5 * p)) o) o) o (czO (μ 0) p o)) 1) + (czO (μ 0) p o))) (132 + 5 * p + 3)) + 1)) (132 + 5 * p + 4)) + (czO (μ 0) p o))))) (by rw [sa_z]; rfl) ?_
    refine hV.aload_n 3 dX5_come_166 rfl ?_
    refine hV.getf (v := .ref (b + 1)) dX5_come_167 fl_X5_7 M_o rfl ?_
    refine hV.bipush (v := 12) dX5_come_170 (by decide) ?_
    refine hV.iload_n 4 dX5_come_172 rfl ?_
    refine hV.iast (j := 12) dX5_come_173 M_a0 ⟨by decide, by decide⟩ (by decide) M_p0 ?_
    refine hV.iload 0 dX5_come_174 rfl ?_
    exact hE.1 dX5_come_176 rfl rfl (by decide) (by decide) (zRi (by rw [ho]; rfl) (by rw [ho]; simp only [up2_sa, sa_z, sa_at]; rfl) rfl)
  have J91 : V 91 [(4, .int (czO (μ 0) p o)), (3, .int (μ 0 (132 + 5 * p))), (2, .int o), (0, .ref b), (1, .int (nI p))] [] (setM h b φ (sa μ 0 (cz3 (cz2 (cz1 (μ 0) p o) (μ 0 (132 + 5 * p)) o) o))) n 0 0 := by
    refine hV.aload_n 3 dX5_come_91 rfl ?_
    refine hV.getf (v := .ref (b + 1)) dX5_come_92 fl_X5_7 M_o rfl ?_
    refine hV.bipush (v := 6) dX5_come_95 (by decide) ?_
    refine hV.dup2 dX5_come_97 rfl rfl ?_
    refine hV.iald (j := 6) dX5_come_98 M_a0 ⟨by decide, by decide⟩ (by decide) ?_
    refine zTop (v := (cz3 (cz2 (cz1 (μ 0) p o) (μ 0 (132 + 5 * p)) o) o) 6) (congrFun (sa_at _ _ _) _) ?_
    refine hV.iload_n 2 dX5_come_99 rfl ?_
    by_cases c100_1 : o = 0
    · refine hV.if_eq_t (tgt := 112) dX5_come_100 (by decide) c100_1 ?_
      refine hV.iconst (v := 0) dX5_come_112 (by decide) ?_
      refine hV.iadd dX5_come_113 ?_
      refine hV.iast (j := 6) dX5_come_114 M_a0 ⟨by decide, by decide⟩ (by decide) M_p0 ?_
      refine zHeap (h2 := setM h b φ (sa μ 0 (cz4 (cz3 (cz2 (cz1 (μ 0) p o) (μ 0 (132 + 5 * p)) o) o) o (czO (μ 0) p o)))) (by simp [up2_sa, sa_z, sa_at, cz4, c100_1]) ?_
      exact J115
    · refine hV.if_eq_f (tgt := 112) dX5_come_100 (by decide) c100_1 ?_
      refine hV.iload 0 dX5_come_103 rfl ?_
      by_cases c105_2 : (czO (μ 0) p o) = 0
      · refine hV.if_ne_f (tgt := 112) dX5_come_105 (by decide) c105_2 ?_
        refine hV.iconst (v := 1) dX5_come_108 (by decide) ?_
        refine hV.goto (tgt := 113) dX5_come_109 (by decide) ?_
        refine hV.iadd dX5_come_113 ?_
        refine hV.iast (j := 6) dX5_come_114 M_a0 ⟨by decide, by decide⟩ (by decide) M_p0 ?_
        refine zHeap (h2 := setM h b φ (sa μ 0 (cz4 (cz3 (cz2 (cz1 (μ 0) p o) (μ 0 (132 + 5 * p)) o) o) o (czO (μ 0) p o)))) (by simp [up2_sa, sa_z, sa_at, cz4, c100_1, c105_2]) ?_
        exact J115
      · refine hV.if_ne_t (tgt := 112) dX5_come_105 (by decide) c105_2 ?_
        refine hV.iconst (v := 0) dX5_come_112 (by decide) ?_
        refine hV.iadd dX5_come_113 ?_
        refine hV.iast (j := 6) dX5_come_114 M_a0 ⟨by decide, by decide⟩ (by decide) M_p0 ?_
        refine zHeap (h2 := setM h b φ (sa μ 0 (cz4 (cz3 (cz2 (cz1 (μ 0) p o) (μ 0 (132 + 5 * p)) o) o) o (czO (μ 0) p o)))) (by simp [up2_sa, sa_z, sa_at, cz4, c100_1, c105_2]) ?_
        exact J115
  have J73 : V 73 [(4, .int (czO (μ 0) p o)), (3, .int (μ 0 (132 + 5 * p))), (2, .int o), (0, .ref b), (1, .int (nI p))] [] (setM h b φ (sa μ 0 (cz2 (cz1 (μ 0) p o) (μ 0 (132 + 5 * p)) o))) n 0 0 := by
    refine hV.aload_n 3 dX5_come_73 rfl ?_
    refine hV.getf (v := .ref (b + 1)) dX5_come_74 fl_X5_7 M_o rfl ?_
    refine hV.iconst (v := 5) dX5_come_77 (by decide) ?_
    refine hV.dup2 dX5_come_78 rfl rfl ?_
    refine hV.iald (j := 5) dX5_come_79 M_a0 ⟨by decide, by decide⟩ (by decide) ?_
    refine zTop (v := (cz2 (cz1 (μ 0) p o) (μ 0 (132 + 5 * p)) o) 5) (congrFun (sa_at _ _ _) _) ?_
    refine hV.iload_n 2 dX5_come_80 rfl ?_
    by_cases c81_3 : o = 0
    · refine hV.if_eq_t (tgt := 88) dX5_come_81 (by decide) c81_3 ?_
      refine hV.iconst (v := 1) dX5_come_88 (by decide) ?_
      refine hV.iadd dX5_come_89 ?_
      refine hV.iast (j := 5) dX5_come_90 M_a0 ⟨by decide, by decide⟩ (by decide) M_p0 ?_
      refine zHeap (h2 := setM h b φ (sa μ 0 (cz3 (cz2 (cz1 (μ 0) p o) (μ 0 (132 + 5 * p)) o) o))) (by simp [up2_sa, sa_z, sa_at, cz3, c81_3]) ?_
      exact J91
    · refine hV.if_eq_f (tgt := 88) dX5_come_81 (by decide) c81_3 ?_
      refine hV.iconst (v := 0) dX5_come_84 (by decide) ?_
      refine hV.goto (tgt := 89) dX5_come_85 (by decide) ?_
      refine hV.iadd dX5_come_89 ?_
      refine hV.iast (j := 5) dX5_come_90 M_a0 ⟨by decide, by decide⟩ (by decide) M_p0 ?_
      refine zHeap (h2 := setM h b φ (sa μ 0 (cz3 (cz2 (cz1 (μ 0) p o) (μ 0 (132 + 5 * p)) o) o))) (by simp [up2_sa, sa_z, sa_at, cz3, c81_3]) ?_
      exact J91
  have J49 : V 49 [(4, .int (czO (μ 0) p o)), (3, .int (μ 0 (132 + 5 * p))), (2, .int o), (0, .ref b), (1, .int (nI p))] [] (setM h b φ (sa μ 0 (cz1 (μ 0) p o))) n 0 0 := by
    refine hV.aload_n 3 dX5_come_49 rfl ?_
    refine hV.getf (v := .ref (b + 1)) dX5_come_50 fl_X5_7 M_o rfl ?_
    refine hV.bipush (v := 10) dX5_come_53 (by decide) ?_
    refine hV.dup2 dX5_come_55 rfl rfl ?_
    refine hV.iald (j := 10) dX5_come_56 M_a0 ⟨by decide, by decide⟩ (by decide) ?_
    refine zTop (v := (cz1 (μ 0) p o) 10) (congrFun (sa_at _ _ _) _) ?_
    refine hV.iload_n 1 dX5_come_57 rfl ?_
    refine hV.iconst (v := 1) dX5_come_58 (by decide) ?_
    by_cases c59_4 : (μ 0 (132 + 5 * p)) = 1
    · refine hV.icmp_ne_f (tgt := 70) dX5_come_59 (by decide) c59_4 ?_
      refine hV.iload_n 2 dX5_come_62 rfl ?_
      by_cases c63_5 : o = 0
      · refine hV.if_eq_t (tgt := 70) dX5_come_63 (by decide) c63_5 ?_
        refine hV.iconst (v := 0) dX5_come_70 (by decide) ?_
        refine hV.isub dX5_come_71 ?_
        refine hV.iast (j := 10) dX5_come_72 M_a0 ⟨by decide, by decide⟩ (by decide) M_p0 ?_
        refine zHeap (h2 := setM h b φ (sa μ 0 (cz2 (cz1 (μ 0) p o) (μ 0 (132 + 5 * p)) o))) (by simp [up2_sa, sa_z, sa_at, cz2, c59_4, c63_5]) ?_
        exact J73
      · refine hV.if_eq_f (tgt := 70) dX5_come_63 (by decide) c63_5 ?_
        refine hV.iconst (v := 1) dX5_come_66 (by decide) ?_
        refine hV.goto (tgt := 71) dX5_come_67 (by decide) ?_
        refine hV.isub dX5_come_71 ?_
        refine hV.iast (j := 10) dX5_come_72 M_a0 ⟨by decide, by decide⟩ (by decide) M_p0 ?_
        refine zHeap (h2 := setM h b φ (sa μ 0 (cz2 (cz1 (μ 0) p o) (μ 0 (132 + 5 * p)) o))) (by simp [up2_sa, sa_z, sa_at, cz2, c59_4, c63_5]) ?_
        exact J73
    · refine hV.icmp_ne_t (tgt := 70) dX5_come_59 (by decide) c59_4 ?_
      refine hV.iconst (v := 0) dX5_come_70 (by decide) ?_
      refine hV.isub dX5_come_71 ?_
      refine hV.iast (j := 10) dX5_come_72 M_a0 ⟨by decide, by decide⟩ (by decide) M_p0 ?_
      refine zHeap (h2 := setM h b φ (sa μ 0 (cz2 (cz1 (μ 0) p o) (μ 0 (132 + 5 * p)) o))) (by simp [up2_sa, sa_z, sa_at, cz2, c59_4]) ?_
      exact J73
  refine hV.iload_n 1 dX5_come_13 rfl ?_
  by_cases c14_6 : o = 0
  · refine hV.if_eq_t (tgt := 26) dX5_come_14 (by decide) c14_6 ?_
    refine hV.iconst (v := 0) dX5_come_26 (by decide) ?_
    refine zTop (v := czO (μ 0) p o) (by simp [czO, c14_6]) ?_
    refine hV.istore (ls2 := [(4, .int (czO (μ 0) p o)), (3, .int ((μ 0) (132 + 5 * p))), (2, .int o), (0, .ref b), (1, .int (nI p))]) dX5_come_27 (by decide) rfl ?_
    refine hV.iload_n 1 dX5_come_29 rfl ?_
    refine hV.iconst (v := 2) dX5_come_30 (by decide) ?_
    by_cases c31_7 : ((μ 0) (132 + 5 * p)) = 2
    · refine hV.icmp_ne_f (tgt := 49) dX5_come_31 (by decide) c31_7 ?_
      refine hV.aload_n 3 dX5_come_34 rfl ?_
      refine hV.iload_n 4 dX5_come_35 rfl ?_
      refine hV.iconst (v := 2) dX5_come_36 (by decide) ?_
      refine hV.iload_n 2 dX5_come_37 rfl ?_
      refine hV.if_eq_t (tgt := 45) dX5_come_38 (by decide) c14_6 ?_
      refine hV.iconst (v := 1) dX5_come_45 (by decide) ?_
      refine hV.callV1 (rest := []) dX5_come_46 (c_X5_put G (p := p) (w := 2) (by omega) (by omega)) my_X5_put kv_X5_31 M_o rfl rfl rfl (Nat.le_of_ble_eq_true rfl) (Nat.le_of_ble_eq_true rfl) (Nat.le_of_ble_eq_true rfl) (Nat.le_of_ble_eq_true rfl) (Nat.le_of_ble_eq_true rfl) (st2 := []) (k2 := 0) (g2 := 0) rfl rfl rfl ?_
      refine zHeap (h2 := setM h b φ (sa μ 0 (va_up (μ 0) (132 + 5 * p + 2) 1))) rfl ?_
      refine zHeap (h2 := setM h b φ (sa μ 0 (cz1 (μ 0) p o))) (by simp [sa_self, cz1, c14_6, c31_7]) ?_
      exact J49
    · refine hV.icmp_ne_t (tgt := 49) dX5_come_31 (by decide) c31_7 ?_
      refine zHeap (h2 := setM h b φ (sa μ 0 (cz1 (μ 0) p o))) (by simp [sa_self, cz1, c14_6, c31_7]) ?_
      exact J49
  · refine hV.if_eq_f (tgt := 26) dX5_come_14 (by decide) c14_6 ?_
    refine hV.aload_n 2 dX5_come_17 rfl ?_
    refine hV.iload_n 3 dX5_come_18 rfl ?_
    refine hV.iconst (v := 1) dX5_come_19 (by decide) ?_
    refine hV.callV1 (rest := []) dX5_come_20 (c_X5_of G (p := p) (w := 1) (by omega) (by omega)) my_X5_of kv_X5_68 M_o rfl rfl rfl (Nat.le_of_ble_eq_true rfl) (Nat.le_of_ble_eq_true rfl) (Nat.le_of_ble_eq_true rfl) (Nat.le_of_ble_eq_true rfl) (Nat.le_of_ble_eq_true rfl) (st2 := [.int ((μ 0) (132 + 5 * p + 1))]) (k2 := 0) (g2 := 0) rfl rfl rfl ?_
    refine hV.goto (tgt := 27) dX5_come_23 (by decide) ?_
    refine zTop (v := czO (μ 0) p o) (by simp [czO, c14_6]) ?_
    refine hV.istore (ls2 := [(4, .int (czO (μ 0) p o)), (3, .int ((μ 0) (132 + 5 * p))), (2, .int o), (0, .ref b), (1, .int (nI p))]) dX5_come_27 (by decide) rfl ?_
    refine hV.iload_n 1 dX5_come_29 rfl ?_
    refine hV.iconst (v := 2) dX5_come_30 (by decide) ?_
    by_cases c31_8 : ((μ 0) (132 + 5 * p)) = 2
    · refine hV.icmp_ne_f (tgt := 49) dX5_come_31 (by decide) c31_8 ?_
      refine hV.aload_n 3 dX5_come_34 rfl ?_
      refine hV.iload_n 4 dX5_come_35 rfl ?_
      refine hV.iconst (v := 2) dX5_come_36 (by decide) ?_
      refine hV.iload_n 2 dX5_come_37 rfl ?_
      refine hV.if_eq_f (tgt := 45) dX5_come_38 (by decide) c14_6 ?_
      refine hV.iconst (v := 0) dX5_come_41 (by decide) ?_
      refine hV.goto (tgt := 46) dX5_come_42 (by decide) ?_
      refine hV.callV1 (rest := []) dX5_come_46 (c_X5_put G (p := p) (w := 2) (by omega) (by omega)) my_X5_put kv_X5_31 M_o rfl rfl rfl (Nat.le_of_ble_eq_true rfl) (Nat.le_of_ble_eq_true rfl) (Nat.le_of_ble_eq_true rfl) (Nat.le_of_ble_eq_true rfl) (Nat.le_of_ble_eq_true rfl) (st2 := []) (k2 := 0) (g2 := 0) rfl rfl rfl ?_
      refine zHeap (h2 := setM h b φ (sa μ 0 (va_up (μ 0) (132 + 5 * p + 2) 0))) rfl ?_
      refine zHeap (h2 := setM h b φ (sa μ 0 (cz1 (μ 0) p o))) (by simp [sa_self, cz1, c14_6, c31_8]) ?_
      exact J49
    · refine hV.icmp_ne_t (tgt := 49) dX5_come_31 (by decide) c31_8 ?_
      refine zHeap (h2 := setM h b φ (sa μ 0 (cz1 (μ 0) p o))) (by simp [sa_self, cz1, c14_6, c31_8]) ?_
      exact J49

set_option maxRecDepth 100000 in
set_option maxHeartbeats 4000000 in
theorem c_X5_doLaunch {l : Launch} {D : va_G} {base : Nat} (G : l.stackTraces = false) {h : zH} {n : Nat} {b : Nat} {μ : zB} {φ : Nat → Int32} {c : Nat} (hc : c < 7) (hx0 : xOk (μ 0)) (hp0 : pinZ (μ 0)) :
    zCt l D base 5 yX5_doLaunch w_X5_doLaunch [.ref b, .int (nI c)] (setM h b φ μ) n 0 0 (zR (some (.int (lchZr (μ 0) c))) (setM h b φ (sa μ 0 (lchZ (μ 0) c))) n) := by
  refine zCt.of G (by decide) (Nat.le_of_ble_eq_true rfl) (fun Sx V X hV hE hX => ?_)
  show V 0 [(0, .ref b), (1, .int (nI c))] [] (setM h b φ μ) n 0 0
  refine hV.aload_n 0 dX5_doLaunch_0 rfl ?_
  refine hV.getf (v := .ref (b + 1)) dX5_doLaunch_1 fl_X5_7 M_o rfl ?_
  refine hV.iconst (v := 1) dX5_doLaunch_4 (by decide) ?_
  refine hV.dup2 dX5_doLaunch_5 rfl rfl ?_
  refine hV.iald (j := 1) dX5_doLaunch_6 M_a0 ⟨by decide, by decide⟩ (by decide) ?_
  refine hV.iconst (v := 1) dX5_doLaunch_7 (by decide) ?_
  refine hV.isub dX5_doLaunch_8 ?_
  refine hV.iast (j := 1) dX5_doLaunch_9 M_a0 ⟨by decide, by decide⟩ (by decide) M_p0 ?_
  refine hV.aload_n 0 dX5_doLaunch_10 rfl ?_
  refine hV.getf (v := .ref (b + 1)) dX5_doLaunch_11 fl_X5_7 M_o rfl ?_
  refine hV.iconst (v := 3) dX5_doLaunch_14 (by decide) ?_
  refine hV.dup2 dX5_doLaunch_15 rfl rfl ?_
  refine hV.iald (j := 3) dX5_doLaunch_16 M_a0 ⟨by decide, by decide⟩ (by decide) ?_
  refine zTop (v := μ 0 3) rfl ?_
  refine hV.iconst (v := 1) dX5_doLaunch_17 (by decide) ?_
  refine hV.iadd dX5_doLaunch_18 ?_
  refine hV.iast (j := 3) dX5_doLaunch_19 M_a0 ⟨by decide, by decide⟩ (by decide) M_p0 ?_
  refine zHeap (h2 := setM h b φ (sa μ 0 (lz1 (μ 0)))) (by simp [up2_sa, sa_z, sa_at, lz1]) ?_
  refine hV.aload_n 0 dX5_doLaunch_20 rfl ?_
  refine hV.getf (v := .ref (b + 1)) dX5_doLaunch_21 fl_X5_7 M_o rfl ?_
  refine hV.bipush (v := 7) dX5_doLaunch_24 (by decide) ?_
  refine hV.iald (j := 7) dX5_doLaunch_26 M_a0 ⟨by decide, by decide⟩ (by decide) ?_
  refine zTop (v := (lz1 (μ 0)) 7) (congrFun (sa_at _ _ _) _) ?_
  by_cases c27_1 : ((lz1 (μ 0)) 7) ≤ 0
  · refine hV.if_le_t (tgt := 44) dX5_doLaunch_27 (by decide) c27_1 ?_
    refine zHeap (h2 := setM h b φ (sa μ 0 (lz2 (lz1 (μ 0))))) (by simp [lz2, c27_1]) ?_
    refine hV.aload_n 0 dX5_doLaunch_44 rfl ?_
    refine hV.iload_n 1 dX5_doLaunch_45 rfl ?_
    refine hV.callV1 (rest := []) dX5_doLaunch_46 (c_X5_fall G (c := c) (by omega) (lz2_x hx0) (pinZ_of hp0 (fun i h1 h2 => lz2_keep h1))) my_X5_fall kv_X5_94 M_o rfl rfl rfl (Nat.le_of_ble_eq_true rfl) (Nat.le_of_ble_eq_true rfl) (Nat.le_of_ble_eq_true rfl) (Nat.le_of_ble_eq_true rfl) (Nat.le_of_ble_eq_true rfl) (st2 := [.int (nI ((falN (lz2 (lz1 (μ 0))) c 8).2))]) (k2 := 0) (g2 := 0) rfl rfl rfl ?_
    refine zHeap (h2 := setM h b φ (sa μ 0 ((falN (lz2 (lz1 (μ 0))) c 8).1))) (by rw [sa_z]; rfl) ?_
    refine zHeap (h2 := setM h b φ (sa μ 0 ((lzA (μ 0) c).1))) (by rw [lzA_eq]) ?_
    refine zTop (v := nI (lzA (μ 0) c).2) (by rw [lzA_eq]) ?_
    have hlt := lzA_lt (μ 0) hc
    refine hV.istore_n (ls2 := [(2, .int (nI ((lzA (μ 0) c).2))), (0, .ref b), (1, .int (nI c))]) dX5_doLaunch_49 (by decide) rfl ?_
    refine hV.aload_n 1 dX5_doLaunch_50 rfl ?_
    refine hV.iload_n 0 dX5_doLaunch_51 rfl ?_
    refine hV.callV1 (rest := []) dX5_doLaunch_52 (c_X5_come G (p := (lzA (μ 0) c).2) (by omega)) my_X5_come kv_X5_97 M_o rfl rfl rfl (Nat.le_of_ble_eq_true rfl) (Nat.le_of_ble_eq_true rfl) (Nat.le_of_ble_eq_true rfl) (Nat.le_of_ble_eq_true rfl) (Nat.le_of_ble_eq_true rfl) (st2 := [.int (comeZr ((lzA (μ 0) c).1) ((lzA (μ 0) c).2))]) (k2 := 0) (g2 := 0) rfl rfl rfl ?_
    refine zHeap (h2 := setM h b φ (sa μ 0 (comeZ ((lzA (μ 0) c).1) ((lzA (μ 0) c).2)))) (by rw [sa_z]; rfl) ?_
    refine hV.istore_n (ls2 := [(3, .int (comeZr ((lzA (μ 0) c).1) ((lzA (μ 0) c).2))), (2, .int (nI ((lzA (μ 0) c).2))), (0, .ref b), (1, .int (nI c))]) dX5_doLaunch_55 (by decide) rfl ?_
    refine hV.aload_n 2 dX5_doLaunch_56 rfl ?_
    refine hV.getf (v := .ref (b + 1)) dX5_doLaunch_57 fl_X5_7 M_o rfl ?_
    refine hV.bipush (v := 7) dX5_doLaunch_60 (by decide) ?_
    refine hV.dup2 dX5_doLaunch_62 rfl rfl ?_
    refine hV.iald (j := 7) dX5_doLaunch_63 M_a0 ⟨by decide, by decide⟩ (by decide) ?_
    refine zTop (v := (comeZ ((lzA (μ 0) c).1) ((lzA (μ 0) c).2)) 7) (congrFun (sa_at _ _ _) _) ?_
    refine hV.iload_n 1 dX5_doLaunch_64 rfl ?_
    refine hV.aload_n 2 dX5_doLaunch_65 rfl ?_
    refine hV.getf (v := .ref (b + 1)) dX5_doLaunch_66 fl_X5_7 M_o rfl ?_
    refine hV.bipush (v := 13) dX5_doLaunch_69 (by decide) ?_
    refine hV.iald (j := 13) dX5_doLaunch_71 M_a0 ⟨by decide, by decide⟩ (by decide) ?_
    refine zTop (v := (comeZ ((lzA (μ 0) c).1) ((lzA (μ 0) c).2)) 13) (congrFun (sa_at _ _ _) _) ?_
    by_cases c72_2 : (nI ((lzA (μ 0) c).2)) = ((comeZ ((lzA (μ 0) c).1) ((lzA (μ 0) c).2)) 13)
    · refine hV.icmp_ne_f (tgt := 90) dX5_doLaunch_72 (by decide) c72_2 ?_
      refine hV.aload_n 2 dX5_doLaunch_75 rfl ?_
      refine hV.getf (v := .ref (b + 1)) dX5_doLaunch_76 fl_X5_7 M_o rfl ?_
      refine hV.bipush (v := 7) dX5_doLaunch_79 (by decide) ?_
      refine hV.iald (j := 7) dX5_doLaunch_81 M_a0 ⟨by decide, by decide⟩ (by decide) ?_
      refine zTop (v := (comeZ ((lzA (μ 0) c).1) ((lzA (μ 0) c).2)) 7) (congrFun (sa_at _ _ _) _) ?_
      refine hV.iconst (v := 4) dX5_doLaunch_82 (by decide) ?_
      by_cases c83_3 : 4 ≤ ((comeZ ((lzA (μ 0) c).1) ((lzA (μ 0) c).2)) 7)
      · refine hV.icmp_ge_t (tgt := 90) dX5_doLaunch_83 (by decide) c83_3 ?_
        refine hV.iconst (v := 0) dX5_doLaunch_90 (by decide) ?_
        refine hV.iadd dX5_doLaunch_91 ?_
        refine hV.iast (j := 7) dX5_doLaunch_92 M_a0 ⟨by decide, by decide⟩ (by decide) M_p0 ?_
        refine hV.iload_n 0 dX5_doLaunch_93 rfl ?_
        exact hE.1 dX5_doLaunch_94 rfl rfl (by decide) (by decide) (zRi rfl (by unfold lchZ lz5; simp [up2_sa, sa_z, sa_at, c72_2, c83_3]) rfl)
      · refine hV.icmp_ge_f (tgt := 90) dX5_doLaunch_83 (by decide) c83_3 ?_
        refine hV.iconst (v := 1) dX5_doLaunch_86 (by decide) ?_
        refine hV.goto (tgt := 91) dX5_doLaunch_87 (by decide) ?_
        refine hV.iadd dX5_doLaunch_91 ?_
        refine hV.iast (j := 7) dX5_doLaunch_92 M_a0 ⟨by decide, by decide⟩ (by decide) M_p0 ?_
        refine hV.iload_n 0 dX5_doLaunch_93 rfl ?_
        exact hE.1 dX5_doLaunch_94 rfl rfl (by decide) (by decide) (zRi rfl (by unfold lchZ lz5; simp [up2_sa, sa_z, sa_at, c72_2, c83_3]) rfl)
    · refine hV.icmp_ne_t (tgt := 90) dX5_doLaunch_72 (by decide) c72_2 ?_
      refine hV.iconst (v := 0) dX5_doLaunch_90 (by decide) ?_
      refine hV.iadd dX5_doLaunch_91 ?_
      refine hV.iast (j := 7) dX5_doLaunch_92 M_a0 ⟨by decide, by decide⟩ (by decide) M_p0 ?_
      refine hV.iload_n 0 dX5_doLaunch_93 rfl ?_
      exact hE.1 dX5_doLaunch_94 rfl rfl (by decide) (by decide) (zRi rfl (by unfold lchZ lz5; simp [up2_sa, sa_z, sa_at, c72_2]) rfl)
  · refine hV.if_le_f (tgt := 44) dX5_doLaunch_27 (by decide) c27_1 ?_
    refine hV.aload_n 0 dX5_doLaunch_30 rfl ?_
    refine hV.getf (v := .ref (b + 1)) dX5_doLaunch_31 fl_X5_7 M_o rfl ?_
    refine hV.bipush (v := 10) dX5_doLaunch_34 (by decide) ?_
    refine hV.iald (j := 10) dX5_doLaunch_36 M_a0 ⟨by decide, by decide⟩ (by decide) ?_
    refine zTop (v := (lz1 (μ 0)) 10) (congrFun (sa_at _ _ _) _) ?_
    by_cases c37_4 : ((lz1 (μ 0)) 10) = 0
    · refine hV.if_ne_f (tgt := 44) dX5_doLaunch_37 (by decide) c37_4 ?_
      refine hV.aload_n 0 dX5_doLaunch_40 rfl ?_
      refine hV.callV1 (rest := []) dX5_doLaunch_41 (c_X5_spin G) my_X5_spin kv_X5_91 M_o rfl rfl rfl (Nat.le_of_ble_eq_true rfl) (Nat.le_of_ble_eq_true rfl) (Nat.le_of_ble_eq_true rfl) (Nat.le_of_ble_eq_true rfl) (Nat.le_of_ble_eq_true rfl) (st2 := []) (k2 := 0) (g2 := 0) rfl rfl rfl ?_
      refine zHeap (h2 := setM h b φ (sa μ 0 (spZ (lz1 (μ 0))))) (by rw [sa_z]; rfl) ?_
      refine zHeap (h2 := setM h b φ (sa μ 0 (lz2 (lz1 (μ 0))))) (by simp [lz2, c27_1, c37_4]) ?_
      refine hV.aload_n 0 dX5_doLaunch_44 rfl ?_
      refine hV.iload_n 1 dX5_doLaunch_45 rfl ?_
      refine hV.callV1 (rest := []) dX5_doLaunch_46 (c_X5_fall G (c := c) (by omega) (lz2_x hx0) (pinZ_of hp0 (fun i h1 h2 => lz2_keep h1))) my_X5_fall kv_X5_94 M_o rfl rfl rfl (Nat.le_of_ble_eq_true rfl) (Nat.le_of_ble_eq_true rfl) (Nat.le_of_ble_eq_true rfl) (Nat.le_of_ble_eq_true rfl) (Nat.le_of_ble_eq_true rfl) (st2 := [.int (nI ((falN (lz2 (lz1 (μ 0))) c 8).2))]) (k2 := 0) (g2 := 0) rfl rfl rfl ?_
      refine zHeap (h2 := setM h b φ (sa μ 0 ((falN (lz2 (lz1 (μ 0))) c 8).1))) (by rw [sa_z]; rfl) ?_
      refine zHeap (h2 := setM h b φ (sa μ 0 ((lzA (μ 0) c).1))) (by rw [lzA_eq]) ?_
      refine zTop (v := nI (lzA (μ 0) c).2) (by rw [lzA_eq]) ?_
      have hlt := lzA_lt (μ 0) hc
      refine hV.istore_n (ls2 := [(2, .int (nI ((lzA (μ 0) c).2))), (0, .ref b), (1, .int (nI c))]) dX5_doLaunch_49 (by decide) rfl ?_
      refine hV.aload_n 1 dX5_doLaunch_50 rfl ?_
      refine hV.iload_n 0 dX5_doLaunch_51 rfl ?_
      refine hV.callV1 (rest := []) dX5_doLaunch_52 (c_X5_come G (p := (lzA (μ 0) c).2) (by omega)) my_X5_come kv_X5_97 M_o rfl rfl rfl (Nat.le_of_ble_eq_true rfl) (Nat.le_of_ble_eq_true rfl) (Nat.le_of_ble_eq_true rfl) (Nat.le_of_ble_eq_true rfl) (Nat.le_of_ble_eq_true rfl) (st2 := [.int (comeZr ((lzA (μ 0) c).1) ((lzA (μ 0) c).2))]) (k2 := 0) (g2 := 0) rfl rfl rfl ?_
      refine zHeap (h2 := setM h b φ (sa μ 0 (comeZ ((lzA (μ 0) c).1) ((lzA (μ 0) c).2)))) (by rw [sa_z]; rfl) ?_
      refine hV.istore_n (ls2 := [(3, .int (comeZr ((lzA (μ 0) c).1) ((lzA (μ 0) c).2))), (2, .int (nI ((lzA (μ 0) c).2))), (0, .ref b), (1, .int (nI c))]) dX5_doLaunch_55 (by decide) rfl ?_
      refine hV.aload_n 2 dX5_doLaunch_56 rfl ?_
      refine hV.getf (v := .ref (b + 1)) dX5_doLaunch_57 fl_X5_7 M_o rfl ?_
      refine hV.bipush (v := 7) dX5_doLaunch_60 (by decide) ?_
      refine hV.dup2 dX5_doLaunch_62 rfl rfl ?_
      refine hV.iald (j := 7) dX5_doLaunch_63 M_a0 ⟨by decide, by decide⟩ (by decide) ?_
      refine zTop (v := (comeZ ((lzA (μ 0) c).1) ((lzA (μ 0) c).2)) 7) (congrFun (sa_at _ _ _) _) ?_
      refine hV.iload_n 1 dX5_doLaunch_64 rfl ?_
      refine hV.aload_n 2 dX5_doLaunch_65 rfl ?_
      refine hV.getf (v := .ref (b + 1)) dX5_doLaunch_66 fl_X5_7 M_o rfl ?_
      refine hV.bipush (v := 13) dX5_doLaunch_69 (by decide) ?_
      refine hV.iald (j := 13) dX5_doLaunch_71 M_a0 ⟨by decide, by decide⟩ (by decide) ?_
      refine zTop (v := (comeZ ((lzA (μ 0) c).1) ((lzA (μ 0) c).2)) 13) (congrFun (sa_at _ _ _) _) ?_
      by_cases c72_5 : (nI ((lzA (μ 0) c).2)) = ((comeZ ((lzA (μ 0) c).1) ((lzA (μ 0) c).2)) 13)
      · refine hV.icmp_ne_f (tgt := 90) dX5_doLaunch_72 (by decide) c72_5 ?_
        refine hV.aload_n 2 dX5_doLaunch_75 rfl ?_
        refine hV.getf (v := .ref (b + 1)) dX5_doLaunch_76 fl_X5_7 M_o rfl ?_
        refine hV.bipush (v := 7) dX5_doLaunch_79 (by decide) ?_
        refine hV.iald (j := 7) dX5_doLaunch_81 M_a0 ⟨by decide, by decide⟩ (by decide) ?_
        refine zTop (v := (comeZ ((lzA (μ 0) c).1) ((lzA (μ 0) c).2)) 7) (congrFun (sa_at _ _ _) _) ?_
        refine hV.iconst (v := 4) dX5_doLaunch_82 (by decide) ?_
        by_cases c83_6 : 4 ≤ ((comeZ ((lzA (μ 0) c).1) ((lzA (μ 0) c).2)) 7)
        · refine hV.icmp_ge_t (tgt := 90) dX5_doLaunch_83 (by decide) c83_6 ?_
          refine hV.iconst (v := 0) dX5_doLaunch_90 (by decide) ?_
          refine hV.iadd dX5_doLaunch_91 ?_
          refine hV.iast (j := 7) dX5_doLaunch_92 M_a0 ⟨by decide, by decide⟩ (by decide) M_p0 ?_
          refine hV.iload_n 0 dX5_doLaunch_93 rfl ?_
          exact hE.1 dX5_doLaunch_94 rfl rfl (by decide) (by decide) (zRi rfl (by unfold lchZ lz5; simp [up2_sa, sa_z, sa_at, c72_5, c83_6]) rfl)
        · refine hV.icmp_ge_f (tgt := 90) dX5_doLaunch_83 (by decide) c83_6 ?_
          refine hV.iconst (v := 1) dX5_doLaunch_86 (by decide) ?_
          refine hV.goto (tgt := 91) dX5_doLaunch_87 (by decide) ?_
          refine hV.iadd dX5_doLaunch_91 ?_
          refine hV.iast (j := 7) dX5_doLaunch_92 M_a0 ⟨by decide, by decide⟩ (by decide) M_p0 ?_
          refine hV.iload_n 0 dX5_doLaunch_93 rfl ?_
          exact hE.1 dX5_doLaunch_94 rfl rfl (by decide) (by decide) (zRi rfl (by unfold lchZ lz5; simp [up2_sa, sa_z, sa_at, c72_5, c83_6]) rfl)
      · refine hV.icmp_ne_t (tgt := 90) dX5_doLaunch_72 (by decide) c72_5 ?_
        refine hV.iconst (v := 0) dX5_doLaunch_90 (by decide) ?_
        refine hV.iadd dX5_doLaunch_91 ?_
        refine hV.iast (j := 7) dX5_doLaunch_92 M_a0 ⟨by decide, by decide⟩ (by decide) M_p0 ?_
        refine hV.iload_n 0 dX5_doLaunch_93 rfl ?_
        exact hE.1 dX5_doLaunch_94 rfl rfl (by decide) (by decide) (zRi rfl (by unfold lchZ lz5; simp [up2_sa, sa_z, sa_at, c72_5]) rfl)
    · refine hV.if_ne_t (tgt := 44) dX5_doLaunch_37 (by decide) c37_4 ?_
      refine zHeap (h2 := setM h b φ (sa μ 0 (lz2 (lz1 (μ 0))))) (by simp [lz2, c27_1, c37_4]) ?_
      refine hV.aload_n 0 dX5_doLaunch_44 rfl ?_
      refine hV.iload_n 1 dX5_doLaunch_45 rfl ?_
      refine hV.callV1 (rest := []) dX5_doLaunch_46 (c_X5_fall G (c := c) (by omega) (lz2_x hx0) (pinZ_of hp0 (fun i h1 h2 => lz2_keep h1))) my_X5_fall kv_X5_94 M_o rfl rfl rfl (Nat.le_of_ble_eq_true rfl) (Nat.le_of_ble_eq_true rfl) (Nat.le_of_ble_eq_true rfl) (Nat.le_of_ble_eq_true rfl) (Nat.le_of_ble_eq_true rfl) (st2 := [.int (nI ((falN (lz2 (lz1 (μ 0))) c 8).2))]) (k2 := 0) (g2 := 0) rfl rfl rfl ?_
      refine zHeap (h2 := setM h b φ (sa μ 0 ((falN (lz2 (lz1 (μ 0))) c 8).1))) (by rw [sa_z]; rfl) ?_
      refine zHeap (h2 := setM h b φ (sa μ 0 ((lzA (μ 0) c).1))) (by rw [lzA_eq]) ?_
      refine zTop (v := nI (lzA (μ 0) c).2) (by rw [lzA_eq]) ?_
      have hlt := lzA_lt (μ 0) hc
      refine hV.istore_n (ls2 := [(2, .int (nI ((lzA (μ 0) c).2))), (0, .ref b), (1, .int (nI c))]) dX5_doLaunch_49 (by decide) rfl ?_
      refine hV.aload_n 1 dX5_doLaunch_50 rfl ?_
      refine hV.iload_n 0 dX5_doLaunch_51 rfl ?_
      refine hV.callV1 (rest := []) dX5_doLaunch_52 (c_X5_come G (p := (lzA (μ 0) c).2) (by omega)) my_X5_come kv_X5_97 M_o rfl rfl rfl (Nat.le_of_ble_eq_true rfl) (Nat.le_of_ble_eq_true rfl) (Nat.le_of_ble_eq_true rfl) (Nat.le_of_ble_eq_true rfl) (Nat.le_of_ble_eq_true rfl) (st2 := [.int (comeZr ((lzA (μ 0) c).1) ((lzA (μ 0) c).2))]) (k2 := 0) (g2 := 0) rfl rfl rfl ?_
      refine zHeap (h2 := setM h b φ (sa μ 0 (comeZ ((lzA (μ 0) c).1) ((lzA (μ 0) c).2)))) (by rw [sa_z]; rfl) ?_
      refine hV.istore_n (ls2 := [(3, .int (comeZr ((lzA (μ 0) c).1) ((lzA (μ 0) c).2))), (2, .int (nI ((lzA (μ 0) c).2))), (0, .ref b), (1, .int (nI c))]) dX5_doLaunch_55 (by decide) rfl ?_
      refine hV.aload_n 2 dX5_doLaunch_56 rfl ?_
      refine hV.getf (v := .ref (b + 1)) dX5_doLaunch_57 fl_X5_7 M_o rfl ?_
      refine hV.bipush (v := 7) dX5_doLaunch_60 (by decide) ?_
      refine hV.dup2 dX5_doLaunch_62 rfl rfl ?_
      refine hV.iald (j := 7) dX5_doLaunch_63 M_a0 ⟨by decide, by decide⟩ (by decide) ?_
      refine zTop (v := (comeZ ((lzA (μ 0) c).1) ((lzA (μ 0) c).2)) 7) (congrFun (sa_at _ _ _) _) ?_
      refine hV.iload_n 1 dX5_doLaunch_64 rfl ?_
      refine hV.aload_n 2 dX5_doLaunch_65 rfl ?_
      refine hV.getf (v := .ref (b + 1)) dX5_doLaunch_66 fl_X5_7 M_o rfl ?_
      refine hV.bipush (v := 13) dX5_doLaunch_69 (by decide) ?_
      refine hV.iald (j := 13) dX5_doLaunch_71 M_a0 ⟨by decide, by decide⟩ (by decide) ?_
      refine zTop (v := (comeZ ((lzA (μ 0) c).1) ((lzA (μ 0) c).2)) 13) (congrFun (sa_at _ _ _) _) ?_
      by_cases c72_7 : (nI ((lzA (μ 0) c).2)) = ((comeZ ((lzA (μ 0) c).1) ((lzA (μ 0) c).2)) 13)
      · refine hV.icmp_ne_f (tgt := 90) dX5_doLaunch_72 (by decide) c72_7 ?_
        refine hV.aload_n 2 dX5_doLaunch_75 rfl ?_
        refine hV.getf (v := .ref (b + 1)) dX5_doLaunch_76 fl_X5_7 M_o rfl ?_
        refine hV.bipush (v := 7) dX5_doLaunch_79 (by decide) ?_
        refine hV.iald (j := 7) dX5_doLaunch_81 M_a0 ⟨by decide, by decide⟩ (by decide) ?_
        refine zTop (v := (comeZ ((lzA (μ 0) c).1) ((lzA (μ 0) c).2)) 7) (congrFun (sa_at _ _ _) _) ?_
        refine hV.iconst (v := 4) dX5_doLaunch_82 (by decide) ?_
        by_cases c83_8 : 4 ≤ ((comeZ ((lzA (μ 0) c).1) ((lzA (μ 0) c).2)) 7)
        · refine hV.icmp_ge_t (tgt := 90) dX5_doLaunch_83 (by decide) c83_8 ?_
          refine hV.iconst (v := 0) dX5_doLaunch_90 (by decide) ?_
          refine hV.iadd dX5_doLaunch_91 ?_
          refine hV.iast (j := 7) dX5_doLaunch_92 M_a0 ⟨by decide, by decide⟩ (by decide) M_p0 ?_
          refine hV.iload_n 0 dX5_doLaunch_93 rfl ?_
          exact hE.1 dX5_doLaunch_94 rfl rfl (by decide) (by decide) (zRi rfl (by unfold lchZ lz5; simp [up2_sa, sa_z, sa_at, c72_7, c83_8]) rfl)
        · refine hV.icmp_ge_f (tgt := 90) dX5_doLaunch_83 (by decide) c83_8 ?_
          refine hV.iconst (v := 1) dX5_doLaunch_86 (by decide) ?_
          refine hV.goto (tgt := 91) dX5_doLaunch_87 (by decide) ?_
          refine hV.iadd dX5_doLaunch_91 ?_
          refine hV.iast (j := 7) dX5_doLaunch_92 M_a0 ⟨by decide, by decide⟩ (by decide) M_p0 ?_
          refine hV.iload_n 0 dX5_doLaunch_93 rfl ?_
          exact hE.1 dX5_doLaunch_94 rfl rfl (by decide) (by decide) (zRi rfl (by unfold lchZ lz5; simp [up2_sa, sa_z, sa_at, c72_7, c83_8]) rfl)
      · refine hV.icmp_ne_t (tgt := 90) dX5_doLaunch_72 (by decide) c72_7 ?_
        refine hV.iconst (v := 0) dX5_doLaunch_90 (by decide) ?_
        refine hV.iadd dX5_doLaunch_91 ?_
        refine hV.iast (j := 7) dX5_doLaunch_92 M_a0 ⟨by decide, by decide⟩ (by decide) M_p0 ?_
        refine hV.iload_n 0 dX5_doLaunch_93 rfl ?_
        exact hE.1 dX5_doLaunch_94 rfl rfl (by decide) (by decide) (zRi rfl (by unfold lchZ lz5; simp [up2_sa, sa_z, sa_at, c72_7]) rfl)

set_option maxRecDepth 100000 in
set_option maxHeartbeats 4000000 in
theorem c_X5_doPlay {l : Launch} {D : va_G} {base : Nat} (G : l.stackTraces = false) {h : zH} {n : Nat} {b : Nat} {μ : zB} {φ : Nat → Int32} {c k : Nat} (hc : c < 7) (hk : k < 1000) (hx0 : xOk (μ 0)) (hp0 : pinZ (μ 0)) :
    zCt l D base 6 yX5_doPlay w_X5_doPlay [.ref b, .int (nI c), .int (nI k)] (setM h b φ μ) n 0 0 (zR (some (.int ((plZ c k (μ 0, 0)).2))) (setM h b φ (sa μ 0 ((plZ c k (μ 0, 0)).1))) n) := by
  refine zCt.of G (by decide) (Nat.le_of_ble_eq_true rfl) (fun Sx V X hV hE hX => ?_)
  show V 0 [(0, .ref b), (1, .int (nI c)), (2, .int (nI k))] [] (setM h b φ μ) n 0 0
  refine zHeap (h2 := setM h b φ (sa μ 0 (μ 0))) (by rw [sa_self]) ?_
  refine hV.iconst (v := 0) dX5_doPlay_0 (by decide) ?_
  refine hV.istore_n (ls2 := [(3, .int 0), (0, .ref b), (1, .int (nI c)), (2, .int (nI k))]) dX5_doPlay_1 (by decide) rfl ?_
  refine hV.iconst (v := 0) dX5_doPlay_2 (by decide) ?_
  refine hV.istore (ls2 := [(4, .int 0), (3, .int 0), (0, .ref b), (1, .int (nI c)), (2, .int (nI k))]) dX5_doPlay_3 (by decide) rfl ?_
  have loop : ∀ (r i : Nat) (z : zZ) (s : Int32), i + r = k → (plZ c r (z, s) = plZ c k (μ 0, 0)) → (xOk z) → (pinZ z) → V 5 [(4, .int (nI i)), (3, .int s), (0, .ref b), (1, .int (nI c)), (2, .int (nI k))] [] (setM h b φ (sa μ 0 z)) n 0 0 := by
    intro r
    induction r with
    | zero =>
      intro i z s hi he hx hp
      refine hV.iload 0 dX5_doPlay_5 rfl ?_
      refine hV.iload_n 4 dX5_doPlay_7 rfl ?_
      refine hV.icmp_ge_t (tgt := 34) dX5_doPlay_8 (by decide) ((nI_leI (a := k) (b := i) (by omega) (by omega)).mpr (by omega)) ?_
      refine hV.iload_n 1 dX5_doPlay_34 rfl ?_
      exact hE.1 dX5_doPlay_35 rfl rfl (by decide) (by decide) (zRi (by rw [← he]; simp [plZ]) (by rw [← he]; simp [plZ]) rfl)
    | succ r ih =>
      intro i z s hi he hx hp
      refine hV.iload 0 dX5_doPlay_5 rfl ?_
      refine hV.iload_n 4 dX5_doPlay_7 rfl ?_
      refine hV.icmp_ge_f (tgt := 34) dX5_doPlay_8 (by decide) (fun q => absurd ((nI_leI (a := k) (b := i) (by omega) (by omega)).mp q) (by omega)) ?_
      refine hV.aload_n 2 dX5_doPlay_11 rfl ?_
      refine hV.getf (v := .ref (b + 1)) dX5_doPlay_12 fl_X5_7 M_o rfl ?_
      refine hV.iconst (v := 1) dX5_doPlay_15 (by decide) ?_
      refine hV.iald (j := 1) dX5_doPlay_16 M_a0 ⟨by decide, by decide⟩ (by decide) ?_
      refine zTop (v := z 1) rfl ?_
      by_cases c17_1 : (z 1) ≤ 0
      · refine hV.if_le_t (tgt := 34) dX5_doPlay_17 (by decide) c17_1 ?_
        refine hV.iload_n 1 dX5_doPlay_34 rfl ?_
        exact hE.1 dX5_doPlay_35 rfl rfl (by decide) (by decide) (zRi (by rw [← he]; simp [plZ, c17_1]) (by rw [← he]; simp [plZ, c17_1]) rfl)
      · refine hV.if_le_f (tgt := 34) dX5_doPlay_17 (by decide) c17_1 ?_
        refine hV.iload_n 1 dX5_doPlay_20 rfl ?_
        refine hV.aload_n 2 dX5_doPlay_21 rfl ?_
        refine hV.iload_n 3 dX5_doPlay_22 rfl ?_
        refine hV.callV1 (rest := [.int s]) dX5_doPlay_23 (c_X5_doLaunch G (c := c) (by omega) hx hp) my_X5_doLaunch kv_X5_103 M_o rfl rfl rfl (Nat.le_of_ble_eq_true rfl) (Nat.le_of_ble_eq_true rfl) (Nat.le_of_ble_eq_true rfl) (Nat.le_of_ble_eq_true rfl) (Nat.le_of_ble_eq_true rfl) (st2 := [.int (lchZr z c), .int s]) (k2 := 0) (g2 := 0) rfl rfl rfl ?_
        refine zHeap (h2 := setM h b φ (sa μ 0 (lchZ z c))) (by rw [sa_z]; rfl) ?_
        refine hV.iadd dX5_doPlay_26 ?_
        refine hV.istore_n (ls2 := [(3, .int (s + (lchZr z c))), (4, .int (nI i)), (0, .ref b), (1, .int (nI c)), (2, .int (nI k))]) dX5_doPlay_27 (by decide) rfl ?_
        refine hV.iinc 1 (v := nI (i + 1)) (ls2 := [(4, .int (nI (i + 1))), (3, .int (s + (lchZr z c))), (0, .ref b), (1, .int (nI c)), (2, .int (nI k))]) dX5_doPlay_28 rfl (nI_1 _) (by decide) rfl ?_
        refine hV.goto (tgt := 5) dX5_doPlay_31 (by decide) ?_
        exact ih (i + 1) _ _ (by omega) (by rw [← he]; simp only [plZ]; rw [if_neg c17_1]) (lchZ_x hx hc) (pinZ_of hp (fun i h1 h2 => lchZ_keep _ hc h1 (by omega)))
  exact loop (k) 0 (μ 0) 0 (by omega) rfl hx0 hp0

set_option maxRecDepth 100000 in
set_option maxHeartbeats 4000000 in
theorem c_X5_doBuy {l : Launch} {D : va_G} {base : Nat} (G : l.stackTraces = false) {h : zH} {n : Nat} {b : Nat} {μ : zB} {φ : Nat → Int32} {k : Int32} :
    zCt l D base 1 yX5_doBuy w_X5_doBuy [.ref b, .int k] (setM h b φ μ) n 0 0 (zR (some (.int (μ 0 1 + k))) (setM h b φ (sa μ 0 (buyZ (μ 0) k))) n) := by
  refine zCt.of G (by decide) (Nat.le_of_ble_eq_true rfl) (fun Sx V X hV hE hX => ?_)
  show V 0 [(0, .ref b), (1, .int k)] [] (setM h b φ μ) n 0 0
  refine hV.aload_n 0 dX5_doBuy_0 rfl ?_
  refine hV.getf (v := .ref (b + 1)) dX5_doBuy_1 fl_X5_7 M_o rfl ?_
  refine hV.iconst (v := 1) dX5_doBuy_4 (by decide) ?_
  refine hV.dup2 dX5_doBuy_5 rfl rfl ?_
  refine hV.iald (j := 1) dX5_doBuy_6 M_a0 ⟨by decide, by decide⟩ (by decide) ?_
  refine hV.iload_n 1 dX5_doBuy_7 rfl ?_
  refine hV.iadd dX5_doBuy_8 ?_
  refine hV.iast (j := 1) dX5_doBuy_9 M_a0 ⟨by decide, by decide⟩ (by decide) M_p0 ?_
  refine hV.aload_n 0 dX5_doBuy_10 rfl ?_
  refine hV.getf (v := .ref (b + 1)) dX5_doBuy_11 fl_X5_7 M_o rfl ?_
  refine hV.iconst (v := 2) dX5_doBuy_14 (by decide) ?_
  refine hV.dup2 dX5_doBuy_15 rfl rfl ?_
  refine hV.iald (j := 2) dX5_doBuy_16 M_a0 ⟨by decide, by decide⟩ (by decide) ?_
  refine zTop (v := μ 0 2) rfl ?_
  refine hV.iload_n 1 dX5_doBuy_17 rfl ?_
  refine hV.iadd dX5_doBuy_18 ?_
  refine hV.iast (j := 2) dX5_doBuy_19 M_a0 ⟨by decide, by decide⟩ (by decide) M_p0 ?_
  refine hV.aload_n 0 dX5_doBuy_20 rfl ?_
  refine hV.getf (v := .ref (b + 1)) dX5_doBuy_21 fl_X5_7 M_o rfl ?_
  refine hV.iconst (v := 1) dX5_doBuy_24 (by decide) ?_
  refine hV.iald (j := 1) dX5_doBuy_25 M_a0 ⟨by decide, by decide⟩ (by decide) ?_
  refine zTop (v := (μ 0 1) + k) rfl ?_
  exact hE.1 dX5_doBuy_26 rfl rfl (by decide) (by decide) (zRi rfl (by simp only [up2_sa, sa_z, sa_at]; rfl) rfl)

set_option maxRecDepth 100000 in
set_option maxHeartbeats 4000000 in
theorem c_X5_doBend {l : Launch} {D : va_G} {base : Nat} (G : l.stackTraces = false) {h : zH} {n : Nat} {b : Nat} {μ : zB} {φ : Nat → Int32} {r c : Nat} {t : Int32} (hr : r < 8) (hc : c < 7) :
    zCt l D base 2 yX5_doBend w_X5_doBend [.ref b, .int (nI r), .int (nI c), .int t] (setM h b φ μ) n 0 0 (zR (some (.int (μ 0 (20 + (7 * r + c)) + 1))) (setM h b φ (sa μ 0 (bendZ (μ 0) (7 * r + c) t))) n) := by
  refine zCt.of G (by decide) (Nat.le_of_ble_eq_true rfl) (fun Sx V X hV hE hX => ?_)
  show V 0 [(0, .ref b), (1, .int (nI r)), (2, .int (nI c)), (3, .int t)] [] (setM h b φ μ) n 0 0
  refine hV.bipush (v := 7) dX5_doBend_0 (by decide) ?_
  refine hV.iload_n 1 dX5_doBend_2 rfl ?_
  refine hV.imulN (a := 7) (b := r) dX5_doBend_3 ?_
  refine hV.iload_n 2 dX5_doBend_4 rfl ?_
  refine hV.iaddN (a := 7 * r) (b := c) dX5_doBend_5 ?_
  refine hV.istore (ls2 := [(4, .int (nI ((7 * r) + c))), (0, .ref b), (1, .int (nI r)), (2, .int (nI c)), (3, .int t)]) dX5_doBend_6 (by decide) rfl ?_
  refine hV.aload_n 1 dX5_doBend_8 rfl ?_
  refine hV.iload 0 dX5_doBend_9 rfl ?_
  refine hV.callV1 (rest := []) dX5_doBend_11 (c_X5_lean G (i := (7 * r) + c) (by omega)) my_X5_lean kv_X5_53 M_o rfl rfl rfl (Nat.le_of_ble_eq_true rfl) (Nat.le_of_ble_eq_true rfl) (Nat.le_of_ble_eq_true rfl) (Nat.le_of_ble_eq_true rfl) (Nat.le_of_ble_eq_true rfl) (st2 := [.int ((μ 0) (20 + ((7 * r) + c)))]) (k2 := 0) (g2 := 0) rfl rfl rfl ?_
  refine hV.istore (ls2 := [(5, .int ((μ 0) (20 + ((7 * r) + c)))), (4, .int (nI ((7 * r) + c))), (0, .ref b), (1, .int (nI r)), (2, .int (nI c)), (3, .int t)]) dX5_doBend_14 (by decide) rfl ?_
  refine hV.aload_n 2 dX5_doBend_16 rfl ?_
  refine hV.getf (v := .ref (b + 1)) dX5_doBend_17 fl_X5_7 M_o rfl ?_
  refine hV.bipush (v := 20) dX5_doBend_20 (by decide) ?_
  refine hV.iload 1 dX5_doBend_22 rfl ?_
  refine hV.iaddN (a := 20) (b := (7 * r) + c) dX5_doBend_24 ?_
  refine hV.iload_n 5 dX5_doBend_25 rfl ?_
  refine hV.iast (j := 20 + ((7 * r) + c)) dX5_doBend_26 M_a0 (zix_nI (by omega)) (by omega) M_p0 ?_
  refine hV.iload_n 5 dX5_doBend_27 rfl ?_
  by_cases c28_1 : t = 0
  · refine hV.if_ne_f (tgt := 45) dX5_doBend_28 (by decide) c28_1 ?_
    refine hV.aload_n 2 dX5_doBend_31 rfl ?_
    refine hV.getf (v := .ref (b + 1)) dX5_doBend_32 fl_X5_7 M_o rfl ?_
    refine hV.bipush (v := 76) dX5_doBend_35 (by decide) ?_
    refine hV.iload 1 dX5_doBend_37 rfl ?_
    refine hV.iaddN (a := 76) (b := (7 * r) + c) dX5_doBend_39 ?_
    refine hV.iconst (v := 0) dX5_doBend_40 (by decide) ?_
    refine hV.iast (j := 76 + ((7 * r) + c)) dX5_doBend_41 M_a0 (zix_nI (by omega)) (by omega) M_p0 ?_
    refine hV.goto (tgt := 78) dX5_doBend_42 (by decide) ?_
    refine hV.iload 0 dX5_doBend_78 rfl ?_
    refine hV.iconst (v := 1) dX5_doBend_80 (by decide) ?_
    refine hV.iadd dX5_doBend_81 ?_
    exact hE.1 dX5_doBend_82 rfl rfl (by decide) (by decide) (zRi rfl (by simp [bendZ, up2_sa, sa_z, sa_at, c28_1]) rfl)
  · refine hV.if_ne_t (tgt := 45) dX5_doBend_28 (by decide) c28_1 ?_
    refine hV.iload 0 dX5_doBend_45 rfl ?_
    by_cases c47_2 : ((μ 0) (20 + ((7 * r) + c))) = 0
    · refine hV.if_ne_f (tgt := 78) dX5_doBend_47 (by decide) c47_2 ?_
      refine hV.aload_n 2 dX5_doBend_50 rfl ?_
      refine hV.getf (v := .ref (b + 1)) dX5_doBend_51 fl_X5_7 M_o rfl ?_
      refine hV.bipush (v := 16) dX5_doBend_54 (by decide) ?_
      refine hV.dup2 dX5_doBend_56 rfl rfl ?_
      refine hV.iald (j := 16) dX5_doBend_57 M_a0 ⟨by decide, by decide⟩ (by decide) ?_
      refine zTop (v := μ 0 16) (by first | (simp [up2, va_up, sa]; done) | (simp [up2, va_up, sa]; omega)) ?_
      refine hV.iconst (v := 1) dX5_doBend_58 (by decide) ?_
      refine hV.iadd dX5_doBend_59 ?_
      refine hV.iast (j := 16) dX5_doBend_60 M_a0 ⟨by decide, by decide⟩ (by decide) M_p0 ?_
      refine hV.aload_n 2 dX5_doBend_61 rfl ?_
      refine hV.getf (v := .ref (b + 1)) dX5_doBend_62 fl_X5_7 M_o rfl ?_
      refine hV.bipush (v := 76) dX5_doBend_65 (by decide) ?_
      refine hV.iload 1 dX5_doBend_67 rfl ?_
      refine hV.iaddN (a := 76) (b := (7 * r) + c) dX5_doBend_69 ?_
      refine hV.aload_n 2 dX5_doBend_70 rfl ?_
      refine hV.getf (v := .ref (b + 1)) dX5_doBend_71 fl_X5_7 M_o rfl ?_
      refine hV.bipush (v := 16) dX5_doBend_74 (by decide) ?_
      refine hV.iald (j := 16) dX5_doBend_76 M_a0 ⟨by decide, by decide⟩ (by decide) ?_
      refine zTop (v := (μ 0 16) + 1) rfl ?_
      refine hV.iast (j := 76 + ((7 * r) + c)) dX5_doBend_77 M_a0 (zix_nI (by omega)) (by omega) M_p0 ?_
      refine hV.iload 0 dX5_doBend_78 rfl ?_
      refine hV.iconst (v := 1) dX5_doBend_80 (by decide) ?_
      refine hV.iadd dX5_doBend_81 ?_
      exact hE.1 dX5_doBend_82 rfl rfl (by decide) (by decide) (zRi rfl (by simp [bendZ, up2_sa, sa_z, sa_at, c28_1, c47_2]) rfl)
    · refine hV.if_ne_t (tgt := 78) dX5_doBend_47 (by decide) c47_2 ?_
      refine hV.iload 0 dX5_doBend_78 rfl ?_
      refine hV.iconst (v := 1) dX5_doBend_80 (by decide) ?_
      refine hV.iadd dX5_doBend_81 ?_
      exact hE.1 dX5_doBend_82 rfl rfl (by decide) (by decide) (zRi rfl (by simp [bendZ, up2_sa, sa_z, sa_at, c28_1, c47_2]) rfl)
