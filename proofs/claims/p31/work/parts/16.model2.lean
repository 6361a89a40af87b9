/-! The reference, 2 -/
theorem va_ne {f : Nat → Int32} {i k : Nat} {x : Int32} (h : k ≠ i) : va_up f i x k = f k := if_neg h
theorem spZ_keep {z : zZ} {i : Nat} (h : 20 ≤ i) : spZ z i = z i := by
  have h4 : ∀ w : zZ, spZ4 w i = w i := fun w => by
    unfold spZ4
    split
    · split
      · rw [va_ne (by omega), va_ne (by omega), va_ne (by omega), va_ne (by omega)]
      · rw [va_ne (by omega)]
    · rw [va_ne (by omega)]
  have hr : ∀ (w : zZ) (m : Int32) (r : Nat), r < 3 → spZr w m r i = w i := fun w m r hr => by
    unfold spZr dZ
    rw [va_ne (by omega), va_ne (by omega)]
  unfold spZ spZ3
  rw [h4, hr _ _ _ (by omega), hr _ _ _ (by omega), hr _ _ _ (by omega)]
  unfold spZ2 spZ1
  rw [va_ne (by omega), va_ne (by omega), va_ne (by omega)]
theorem spZ_x {z : zZ} (h : xOk z) : xOk (spZ z) := by
  have h4 : ∀ w : zZ, xOk w → xOk (spZ4 w) := fun w h => by
    obtain ⟨a, h1, h2⟩ := h
    refine ⟨a, h1, ?_⟩
    unfold spZ4
    split
    · split
      · exact h2
      · exact h2
    · exact h2
  have hr : ∀ (w : zZ) (m : Int32) (r : Nat), xOk w → xOk (spZr w m r) := fun w m r h => by
    unfold spZr
    exact xOk_up (xOk_d h) (by omega)
  unfold spZ spZ3
  refine h4 _ (hr _ _ _ (hr _ _ _ (hr _ _ _ ?_)))
  unfold spZ2 spZ1
  exact xOk_up (xOk_up (xOk_up h (by decide)) (by decide)) (by decide)
theorem lz2_keep {z : zZ} {i : Nat} (h : 20 ≤ i) : lz2 (lz1 z) i = z i := by
  have h1 : lz1 z i = z i := by
    unfold lz1
    rw [va_ne (by omega), va_ne (by omega)]
  unfold lz2
  split
  · exact h1
  · split
    · rw [spZ_keep h]; exact h1
    · exact h1
theorem lz2_x {z : zZ} (h : xOk z) : xOk (lz2 (lz1 z)) := by
  have h1 : xOk (lz1 z) := xOk_up (xOk_up h (by decide)) (by decide)
  unfold lz2
  split
  · exact h1
  · split
    · exact spZ_x h1
    · exact h1
theorem falN_lt (z : zZ) {c : Nat} (hc : c < 7) (r : Nat) : (falN z c r).2 < 7 := by
  induction r with
  | zero => exact hc
  | succ r ih =>
    show (falS _ _ _).2 < 7
    unfold falS
    split <;> exact bnc_lt ih
theorem falN_keep (z : zZ) {c i : Nat} (h0 : 0 ≠ i) (r : Nat) (hi : i < 167 ∨ 167 + r ≤ i) : (falN z c r).1 i = z i := by
  induction r with
  | zero => rfl
  | succ r ih =>
    show (falS _ _ _).1 i = _
    rw [← ih (by omega)]
    unfold falS
    split
    · show dZ _ i = _
      unfold dZ
      rw [va_ne (Ne.symm h0), va_ne (by omega)]
    · show va_up _ _ _ i = _
      rw [va_ne (by omega)]
theorem falN_x {z : zZ} (h : xOk z) (c r : Nat) : xOk (falN z c r).1 := by
  induction r with
  | zero => exact h
  | succ r ih =>
    show xOk (falS _ _ _).1
    unfold falS
    split
    · exact xOk_d (xOk_up ih (by omega))
    · exact xOk_up ih (by omega)
theorem lzA_lt (z : zZ) {c : Nat} (hc : c < 7) : (lzA z c).2 < 7 := by rw [← lzA_eq]; exact falN_lt _ hc 8
theorem lzA_keep (z : zZ) (c : Nat) {i : Nat} (h : 20 ≤ i) (hi : i < 167) : (lzA z c).1 i = z i := by
  rw [← lzA_eq, falN_keep _ (by omega) 8 (by omega), lz2_keep h]
theorem lzA_x {z : zZ} (h : xOk z) (c : Nat) : xOk (lzA z c).1 := by rw [← lzA_eq]; exact falN_x (lz2_x h) c 8
theorem comeZ_keep (z : zZ) (p : Nat) {i : Nat} (h : i = 0 ∨ 20 ≤ i) (hi : i < 132 ∨ 167 ≤ i) (hp : p < 7) : comeZ z p i = z i := by
  have h1 : ∀ o, cz1 z p o i = z i := fun o => by
    unfold cz1
    split
    · rw [va_ne (by omega)]
    · rfl
  have h2 : ∀ (w : zZ) (k o : Int32), cz2 w k o i = w i := fun w k o => by unfold cz2; rw [va_ne (by omega)]
  have h3 : ∀ (w : zZ) (o : Int32), cz3 w o i = w i := fun w o => by unfold cz3; rw [va_ne (by omega)]
  have h4 : ∀ (w : zZ) (o b : Int32), cz4 w o b i = w i := fun w o b => by unfold cz4; rw [va_ne (by omega)]
  have h5 : ∀ (w : zZ) (b : Int32), cz5 w b i = w i := fun w b => by unfold cz5; rw [va_ne (by omega), va_ne (by omega)]
  have h6 : ∀ (w : zZ), cz6 w p i = w i := fun w => by unfold cz6; rw [va_ne (by omega)]
  have h7 : ∀ (w : zZ) (b : Int32), cz7 w p b i = w i := fun w b => by unfold cz7; rw [va_ne (by omega)]
  unfold comeZ czB czA
  rw [va_ne (by omega), h7, h6, h5, h4, h3, h2, h1]
theorem lchZ_keep (z : zZ) {c i : Nat} (hc : c < 7) (h : 20 ≤ i) (hi : i < 132) : lchZ z c i = z i := by
  unfold lchZ lz5
  show va_up _ _ _ i = _
  rw [va_ne (by omega), comeZ_keep _ _ (Or.inr h) (by omega) (lzA_lt z hc), lzA_keep _ _ h (by omega)]
theorem xOk_of {z w : zZ} (h : xOk z) (e : w 0 = z 0) : xOk w := by
  obtain ⟨a, h1, h2⟩ := h
  exact ⟨a, h1, e.trans h2⟩
theorem lchZ_x {z : zZ} (h : xOk z) {c : Nat} (hc : c < 7) : xOk (lchZ z c) := by
  refine xOk_of (lzA_x h c) ?_
  unfold lchZ lz5
  show va_up _ _ _ 0 = _
  rw [va_ne (by decide), comeZ_keep _ _ (Or.inl rfl) (by omega) (lzA_lt z hc)]
theorem pinZ_of {z w : zZ} (h : pinZ z) (e : ∀ i, 20 ≤ i → i < 76 → w i = z i) : pinZ w := fun i hi => by rw [e _ (by omega) (by omega)]; exact h i hi
def cpF (d s : Nat → Int32) (o i : Nat) : Nat → Int32 := fun k => if k < i then s (o + k) else d k
theorem cpF_s (d s : Nat → Int32) (o i : Nat) : va_up (cpF d s o i) i (s (o + i)) = cpF d s o (i + 1) := by
  funext k
  unfold va_up cpF
  by_cases h1 : k = i
  · rw [if_pos h1, if_pos (by omega), h1]
  · rw [if_neg h1]
    by_cases h2 : k < i
    · rw [if_pos h2, if_pos (by omega)]
    · rw [if_neg h2, if_neg (by omega)]
theorem cpF_0 (d s : Nat → Int32) (o : Nat) : cpF d s o 0 = d := by funext k; unfold cpF; rw [if_neg (by omega)]
theorem cpF_ge (d s : Nat → Int32) (o i k : Nat) (h : i ≤ k) : cpF d s o i k = d k := by unfold cpF; rw [if_neg (by omega)]
def cpz (d s : Nat → Int32) (i : Nat) : Nat → Int32 := fun k => if k < i then s k else d k
theorem cpz_s (d s : Nat → Int32) (i : Nat) : va_up (cpz d s i) i (s i) = cpz d s (i + 1) := by
  funext k
  unfold va_up cpz
  by_cases h1 : k = i
  · rw [if_pos h1, if_pos (by omega), h1]
  · rw [if_neg h1]
    by_cases h2 : k < i
    · rw [if_pos h2, if_pos (by omega)]
    · rw [if_neg h2, if_neg (by omega)]
theorem cpz_0 (d s : Nat → Int32) : cpz d s 0 = d := by funext k; unfold cpz; rw [if_neg (by omega)]
def cpO (d s : Nat → Int32) (o i : Nat) : Nat → Int32 := fun k => if o ≤ k ∧ k < o + i then s (k - o) else d k
theorem cpO_s (d s : Nat → Int32) (o i : Nat) : va_up (cpO d s o i) (o + i) (s i) = cpO d s o (i + 1) := by
  funext k
  unfold va_up cpO
  by_cases h1 : k = o + i
  · rw [if_pos h1, if_pos (by omega), h1, show o + i - o = i by omega]
  · rw [if_neg h1]
    by_cases h2 : o ≤ k ∧ k < o + i
    · rw [if_pos h2, if_pos (by omega)]
    · rw [if_neg h2, if_neg (by omega)]
theorem cpO_0 (d s : Nat → Int32) (o : Nat) : cpO d s o 0 = d := by funext k; unfold cpO; rw [if_neg (by omega)]
def recF (sv z : Nat → Int32) (k : Nat) : Nat → Int32 := if k = 6 then cpO (cpF sv sv 175 875) z 875 175 else cpO sv z (175 * k) 175
def recK (k : Nat) : Nat := if k = 6 then 6 else k + 1
theorem va_up2 {f : Nat → Int32} {i : Nat} {x y : Int32} : va_up (va_up f i x) i y = va_up f i y := by
  funext k; unfold va_up; split <;> rfl
theorem va_upv {f : Nat → Int32} {i : Nat} {x : Int32} (h : f i = x) : va_up f i x = f := by
  funext k; unfold va_up; split
  · next e => rw [e, h]
  · rfl
theorem sa_sw {μ : zB} {j k : Nat} {f g f2 : Nat → Int32} (h : j ≠ k) : sa (sa (sa μ j f) k g) j f2 = sa (sa μ k g) j f2 := by
  funext a; unfold sa
  by_cases h1 : a = j
  · simp [h1]
  · by_cases h2 : a = k
    · simp [h1, h2]
    · simp [h1, h2]
def undZ (z sv : Nat → Int32) (k : Nat) : Nat → Int32 := cpF z sv (175 * k) 175

