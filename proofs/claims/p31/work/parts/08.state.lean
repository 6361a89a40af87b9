/-! States: the int arrays of an object by number, its int fields by number; an object with its own arrays right behind it. Nat and Int32. -/
abbrev zB : Type := Nat → Nat → Int32
def up2 (β : zB) (j i : Nat) (x : Int32) : zB := fun a => if a = j then va_up (β a) i x else β a
def sa (β : zB) (j : Nat) (f : Nat → Int32) : zB := fun a => if a = j then f else β a
theorem up2_at (β : zB) (j i : Nat) (x : Int32) : up2 β j i x j = va_up (β j) i x := if_pos rfl
theorem up2_ne (β : zB) {j a : Nat} (i : Nat) (x : Int32) (h : a ≠ j) : up2 β j i x a = β a := if_neg h
theorem sa_at (β : zB) (j : Nat) (f : Nat → Int32) : sa β j f j = f := if_pos rfl
theorem sa_ne (β : zB) {j a : Nat} (f : Nat → Int32) (h : a ≠ j) : sa β j f a = β a := if_neg h
theorem up2_sa (β : zB) (j i : Nat) (x : Int32) : up2 β j i x = sa β j (va_up (β j) i x) := by
  funext a; unfold up2 sa; split
  · next h => rw [h]
  · rfl
theorem sa_sa (β : zB) (j : Nat) (f g : Nat → Int32) : sa (sa β j f) j g = sa β j g := by
  funext a; unfold sa; split <;> rfl
theorem sa_self (β : zB) (j : Nat) : sa β j (β j) = β := by
  funext a; unfold sa; split
  · next h => rw [h]
  · rfl
/-- an object at b and its k arrays behind it, over h -/
def zobj (o : Nat × List Value) (k : Nat) (ln : Nat → Nat) (β : zB) (b : Nat) (h : zH) : zH := fun q => if q = b then some (.inr o) else if b < q ∧ q ≤ b + k then some (.inl (ln (q - b - 1), .inl (β (q - b - 1)))) else h q
theorem zobj_o {o : Nat × List Value} {k : Nat} {ln : Nat → Nat} {β : zB} {b : Nat} {h : zH} : zobj o k ln β b h b = some (.inr o) := if_pos rfl
theorem zobj_a {o : Nat × List Value} {k : Nat} {ln : Nat → Nat} {β : zB} {b : Nat} {h : zH} (j : Nat) (hj : j < k) : zobj o k ln β b h (b + (j + 1)) = some (.inl (ln j, .inl (β j))) := by
  unfold zobj
  rw [if_neg (by omega), if_pos (by omega), show b + (j + 1) - b - 1 = j by omega]
theorem zobj_out {o : Nat × List Value} {k : Nat} {ln : Nat → Nat} {β : zB} {b q : Nat} {h : zH} (hq : q < b ∨ b + k < q) : zobj o k ln β b h q = h q := by
  unfold zobj
  rw [if_neg (by omega), if_neg (by omega)]
theorem zobj_po {o o2 : Nat × List Value} {k : Nat} {ln : Nat → Nat} {β : zB} {b : Nat} {h : zH} : zput (zobj o k ln β b h) b (some (.inr o2)) = zobj o2 k ln β b h := by
  funext q
  unfold zput zobj
  split <;> rfl
theorem zobj_pa {o : Nat × List Value} {k : Nat} {ln : Nat → Nat} {β : zB} {b : Nat} {h : zH} (j : Nat) (hj : j < k) (f : Nat → Int32) : zput (zobj o k ln β b h) (b + (j + 1)) (some (.inl (ln j, .inl f))) = zobj o k ln (sa β j f) b h := by
  funext q
  unfold zput zobj
  by_cases hq : q = b + (j + 1)
  · subst hq
    rw [if_pos rfl, if_neg (by omega), if_pos (by omega), show b + (j + 1) - b - 1 = j by omega, sa_at]
  · rw [if_neg hq]
    by_cases h1 : q = b
    · rw [if_pos h1, if_pos h1]
    · rw [if_neg h1, if_neg h1]
      by_cases h2 : b < q ∧ q ≤ b + k
      · rw [if_pos h2, if_pos h2, sa_ne]
        omega
      · rw [if_neg h2, if_neg h2]
theorem zobj_zobj {o o2 : Nat × List Value} {k : Nat} {ln ln2 : Nat → Nat} {β β2 : zB} {b : Nat} {h : zH} : zobj o k ln β b (zobj o2 k ln2 β2 b h) = zobj o k ln β b h := by
  funext q
  unfold zobj
  split
  · rfl
  · split <;> rfl
theorem zobj_comm {o o2 : Nat × List Value} {k k2 : Nat} {ln ln2 : Nat → Nat} {β β2 : zB} {b b2 : Nat} {h : zH} (hd : b + k < b2 ∨ b2 + k2 < b) : zobj o k ln β b (zobj o2 k2 ln2 β2 b2 h) = zobj o2 k2 ln2 β2 b2 (zobj o k ln β b h) := by
  funext q
  unfold zobj
  by_cases h1 : q = b
  · rw [if_pos h1, if_neg (by omega), if_neg (by omega), if_pos h1]
  · rw [if_neg h1]
    by_cases h2 : b < q ∧ q ≤ b + k
    · rw [if_pos h2, if_neg (by omega), if_neg (by omega), if_neg h1, if_pos h2]
    · rw [if_neg h2]
      by_cases h3 : q = b2
      · rw [if_pos h3, if_pos h3]
      · rw [if_neg h3, if_neg h3, if_neg h1, if_neg h2]
/-- such an object stands at b -/
def zobjAt (o : Nat × List Value) (k : Nat) (ln : Nat → Nat) (β : zB) (b : Nat) (h : zH) : Prop := h b = some (.inr o) ∧ ∀ j, j < k → h (b + (j + 1)) = some (.inl (ln j, .inl (β j)))
theorem zobjAt.set {o : Nat × List Value} {k : Nat} {ln : Nat → Nat} {β : zB} {b : Nat} {h : zH} (hh : zobjAt o k ln β b h) : zobj o k ln β b h = h := by
  funext q
  unfold zobj
  split
  · next e => rw [e, hh.1]
  · split
    · next e =>
      have := hh.2 (q - b - 1) (by omega)
      rw [show b + (q - b - 1 + 1) = q by omega] at this
      exact this.symm
    · rfl
theorem zobjAt.mk {o : Nat × List Value} {k : Nat} {ln : Nat → Nat} {β : zB} {b : Nat} {h : zH} : zobjAt o k ln β b (zobj o k ln β b h) := ⟨zobj_o, fun j hj => zobj_a j hj⟩
theorem zobjAt.kept {o : Nat × List Value} {k : Nat} {ln : Nat → Nat} {β : zB} {b : Nat} {h h2 : zH} (hh : zobjAt o k ln β b h) (he : ∀ q, b ≤ q → q ≤ b + k → h2 q = h q) : zobjAt o k ln β b h2 :=
  ⟨(he b (Nat.le_refl _) (by omega)).trans hh.1, fun j hj => (he _ (by omega) (by omega)).trans (hh.2 j hj)⟩
/-! the classes -/
def lnB : Nat → Nat := fun j => [17, 56, 56, 8, 7, 7, 7, 7, 7, 3].getD j 0
def fsB (b : Nat) : List Value := [.ref (b + 1), .ref (b + 2), .ref (b + 3), .ref (b + 4), .ref (b + 5), .ref (b + 6), .ref (b + 7), .ref (b + 8), .ref (b + 9), .ref (b + 10)]
abbrev setB (h : zH) (b : Nat) (β : zB) : zH := zobj (0, fsB b ) 10 lnB β b h
theorem B_o {h : zH} {b : Nat} {β : zB} : (setB h b β) b = some (.inr (0, fsB b )) := zobj_o
theorem B_a0 {h : zH} {b : Nat} {β : zB} : (setB h b β) (b + 1) = some (.inl (17, .inl (β 0))) := zobj_a 0 (by decide)
theorem B_p0 {h : zH} {b : Nat} {β : zB} {i : Nat} {x : Int32} : zput (setB h b β) (b + 1) (some (.inl (17, .inl (va_up (β 0) i x)))) = setB h b (up2 β 0 i x) := by rw [up2_sa]; exact zobj_pa 0 (by decide) _
theorem B_q0 {h : zH} {b : Nat} {β : zB} {f : Nat → Int32} : zput (setB h b β) (b + 1) (some (.inl (17, .inl f))) = setB h b (sa β 0 f) := zobj_pa 0 (by decide) _
theorem B_a1 {h : zH} {b : Nat} {β : zB} : (setB h b β) (b + 2) = some (.inl (56, .inl (β 1))) := zobj_a 1 (by decide)
theorem B_p1 {h : zH} {b : Nat} {β : zB} {i : Nat} {x : Int32} : zput (setB h b β) (b + 2) (some (.inl (56, .inl (va_up (β 1) i x)))) = setB h b (up2 β 1 i x) := by rw [up2_sa]; exact zobj_pa 1 (by decide) _
theorem B_q1 {h : zH} {b : Nat} {β : zB} {f : Nat → Int32} : zput (setB h b β) (b + 2) (some (.inl (56, .inl f))) = setB h b (sa β 1 f) := zobj_pa 1 (by decide) _
theorem B_a2 {h : zH} {b : Nat} {β : zB} : (setB h b β) (b + 3) = some (.inl (56, .inl (β 2))) := zobj_a 2 (by decide)
theorem B_p2 {h : zH} {b : Nat} {β : zB} {i : Nat} {x : Int32} : zput (setB h b β) (b + 3) (some (.inl (56, .inl (va_up (β 2) i x)))) = setB h b (up2 β 2 i x) := by rw [up2_sa]; exact zobj_pa 2 (by decide) _
theorem B_q2 {h : zH} {b : Nat} {β : zB} {f : Nat → Int32} : zput (setB h b β) (b + 3) (some (.inl (56, .inl f))) = setB h b (sa β 2 f) := zobj_pa 2 (by decide) _
theorem B_a3 {h : zH} {b : Nat} {β : zB} : (setB h b β) (b + 4) = some (.inl (8, .inl (β 3))) := zobj_a 3 (by decide)
theorem B_p3 {h : zH} {b : Nat} {β : zB} {i : Nat} {x : Int32} : zput (setB h b β) (b + 4) (some (.inl (8, .inl (va_up (β 3) i x)))) = setB h b (up2 β 3 i x) := by rw [up2_sa]; exact zobj_pa 3 (by decide) _
theorem B_q3 {h : zH} {b : Nat} {β : zB} {f : Nat → Int32} : zput (setB h b β) (b + 4) (some (.inl (8, .inl f))) = setB h b (sa β 3 f) := zobj_pa 3 (by decide) _
theorem B_a4 {h : zH} {b : Nat} {β : zB} : (setB h b β) (b + 5) = some (.inl (7, .inl (β 4))) := zobj_a 4 (by decide)
theorem B_p4 {h : zH} {b : Nat} {β : zB} {i : Nat} {x : Int32} : zput (setB h b β) (b + 5) (some (.inl (7, .inl (va_up (β 4) i x)))) = setB h b (up2 β 4 i x) := by rw [up2_sa]; exact zobj_pa 4 (by decide) _
theorem B_q4 {h : zH} {b : Nat} {β : zB} {f : Nat → Int32} : zput (setB h b β) (b + 5) (some (.inl (7, .inl f))) = setB h b (sa β 4 f) := zobj_pa 4 (by decide) _
theorem B_a5 {h : zH} {b : Nat} {β : zB} : (setB h b β) (b + 6) = some (.inl (7, .inl (β 5))) := zobj_a 5 (by decide)
theorem B_p5 {h : zH} {b : Nat} {β : zB} {i : Nat} {x : Int32} : zput (setB h b β) (b + 6) (some (.inl (7, .inl (va_up (β 5) i x)))) = setB h b (up2 β 5 i x) := by rw [up2_sa]; exact zobj_pa 5 (by decide) _
theorem B_q5 {h : zH} {b : Nat} {β : zB} {f : Nat → Int32} : zput (setB h b β) (b + 6) (some (.inl (7, .inl f))) = setB h b (sa β 5 f) := zobj_pa 5 (by decide) _
theorem B_a6 {h : zH} {b : Nat} {β : zB} : (setB h b β) (b + 7) = some (.inl (7, .inl (β 6))) := zobj_a 6 (by decide)
theorem B_p6 {h : zH} {b : Nat} {β : zB} {i : Nat} {x : Int32} : zput (setB h b β) (b + 7) (some (.inl (7, .inl (va_up (β 6) i x)))) = setB h b (up2 β 6 i x) := by rw [up2_sa]; exact zobj_pa 6 (by decide) _
theorem B_q6 {h : zH} {b : Nat} {β : zB} {f : Nat → Int32} : zput (setB h b β) (b + 7) (some (.inl (7, .inl f))) = setB h b (sa β 6 f) := zobj_pa 6 (by decide) _
theorem B_a7 {h : zH} {b : Nat} {β : zB} : (setB h b β) (b + 8) = some (.inl (7, .inl (β 7))) := zobj_a 7 (by decide)
theorem B_p7 {h : zH} {b : Nat} {β : zB} {i : Nat} {x : Int32} : zput (setB h b β) (b + 8) (some (.inl (7, .inl (va_up (β 7) i x)))) = setB h b (up2 β 7 i x) := by rw [up2_sa]; exact zobj_pa 7 (by decide) _
theorem B_q7 {h : zH} {b : Nat} {β : zB} {f : Nat → Int32} : zput (setB h b β) (b + 8) (some (.inl (7, .inl f))) = setB h b (sa β 7 f) := zobj_pa 7 (by decide) _
theorem B_a8 {h : zH} {b : Nat} {β : zB} : (setB h b β) (b + 9) = some (.inl (7, .inl (β 8))) := zobj_a 8 (by decide)
theorem B_p8 {h : zH} {b : Nat} {β : zB} {i : Nat} {x : Int32} : zput (setB h b β) (b + 9) (some (.inl (7, .inl (va_up (β 8) i x)))) = setB h b (up2 β 8 i x) := by rw [up2_sa]; exact zobj_pa 8 (by decide) _
theorem B_q8 {h : zH} {b : Nat} {β : zB} {f : Nat → Int32} : zput (setB h b β) (b + 9) (some (.inl (7, .inl f))) = setB h b (sa β 8 f) := zobj_pa 8 (by decide) _
theorem B_a9 {h : zH} {b : Nat} {β : zB} : (setB h b β) (b + 10) = some (.inl (3, .inl (β 9))) := zobj_a 9 (by decide)
theorem B_p9 {h : zH} {b : Nat} {β : zB} {i : Nat} {x : Int32} : zput (setB h b β) (b + 10) (some (.inl (3, .inl (va_up (β 9) i x)))) = setB h b (up2 β 9 i x) := by rw [up2_sa]; exact zobj_pa 9 (by decide) _
theorem B_q9 {h : zH} {b : Nat} {β : zB} {f : Nat → Int32} : zput (setB h b β) (b + 10) (some (.inl (3, .inl f))) = setB h b (sa β 9 f) := zobj_pa 9 (by decide) _
def lnP : Nat → Nat := fun j => [7, 7, 7].getD j 0
def fsP (b : Nat) : List Value := [.ref (b + 1), .ref (b + 2), .ref (b + 3)]
abbrev setP (h : zH) (b : Nat) (β : zB) : zH := zobj (2, fsP b ) 3 lnP β b h
theorem P_o {h : zH} {b : Nat} {β : zB} : (setP h b β) b = some (.inr (2, fsP b )) := zobj_o
theorem P_a0 {h : zH} {b : Nat} {β : zB} : (setP h b β) (b + 1) = some (.inl (7, .inl (β 0))) := zobj_a 0 (by decide)
theorem P_p0 {h : zH} {b : Nat} {β : zB} {i : Nat} {x : Int32} : zput (setP h b β) (b + 1) (some (.inl (7, .inl (va_up (β 0) i x)))) = setP h b (up2 β 0 i x) := by rw [up2_sa]; exact zobj_pa 0 (by decide) _
theorem P_q0 {h : zH} {b : Nat} {β : zB} {f : Nat → Int32} : zput (setP h b β) (b + 1) (some (.inl (7, .inl f))) = setP h b (sa β 0 f) := zobj_pa 0 (by decide) _
theorem P_a1 {h : zH} {b : Nat} {β : zB} : (setP h b β) (b + 2) = some (.inl (7, .inl (β 1))) := zobj_a 1 (by decide)
theorem P_p1 {h : zH} {b : Nat} {β : zB} {i : Nat} {x : Int32} : zput (setP h b β) (b + 2) (some (.inl (7, .inl (va_up (β 1) i x)))) = setP h b (up2 β 1 i x) := by rw [up2_sa]; exact zobj_pa 1 (by decide) _
theorem P_q1 {h : zH} {b : Nat} {β : zB} {f : Nat → Int32} : zput (setP h b β) (b + 2) (some (.inl (7, .inl f))) = setP h b (sa β 1 f) := zobj_pa 1 (by decide) _
theorem P_a2 {h : zH} {b : Nat} {β : zB} : (setP h b β) (b + 3) = some (.inl (7, .inl (β 2))) := zobj_a 2 (by decide)
theorem P_p2 {h : zH} {b : Nat} {β : zB} {i : Nat} {x : Int32} : zput (setP h b β) (b + 3) (some (.inl (7, .inl (va_up (β 2) i x)))) = setP h b (up2 β 2 i x) := by rw [up2_sa]; exact zobj_pa 2 (by decide) _
theorem P_q2 {h : zH} {b : Nat} {β : zB} {f : Nat → Int32} : zput (setP h b β) (b + 3) (some (.inl (7, .inl f))) = setP h b (sa β 2 f) := zobj_pa 2 (by decide) _
def lnT : Nat → Nat := fun j => [60].getD j 0
def fsT (b : Nat) (φ : Nat → Int32) : List Value := [.ref (b + 1), .int (φ 0)]
abbrev setT (h : zH) (b : Nat) (φ : Nat → Int32) (β : zB) : zH := zobj (3, fsT b φ ) 1 lnT β b h
theorem T_o {h : zH} {b : Nat} {φ : Nat → Int32} {β : zB} : (setT h b φ β) b = some (.inr (3, fsT b φ )) := zobj_o
theorem T_a0 {h : zH} {b : Nat} {φ : Nat → Int32} {β : zB} : (setT h b φ β) (b + 1) = some (.inl (60, .inl (β 0))) := zobj_a 0 (by decide)
theorem T_p0 {h : zH} {b : Nat} {φ : Nat → Int32} {β : zB} {i : Nat} {x : Int32} : zput (setT h b φ β) (b + 1) (some (.inl (60, .inl (va_up (β 0) i x)))) = setT h b φ (up2 β 0 i x) := by rw [up2_sa]; exact zobj_pa 0 (by decide) _
theorem T_q0 {h : zH} {b : Nat} {φ : Nat → Int32} {β : zB} {f : Nat → Int32} : zput (setT h b φ β) (b + 1) (some (.inl (60, .inl f))) = setT h b φ (sa β 0 f) := zobj_pa 0 (by decide) _
theorem T_f0 {h : zH} {b : Nat} {φ : Nat → Int32} {β : zB} {x : Int32} : zput (setT h b φ β) b (some (.inr (3, (fsT b φ).set 1 (.int x)))) = setT h b (va_up φ 0 x) β := zobj_po
def lnM : Nat → Nat := fun j => [175, 175, 1050, 175, 60, 7, 7].getD j 0
def fsM (b : Nat) (φ : Nat → Int32) : List Value := [.int (φ 0), .ref (b + 1), .ref (b + 2), .ref (b + 3), .int (φ 1), .ref (b + 4), .int (φ 2), .ref (b + 5), .int (φ 3), .ref (b + 6), .ref (b + 7), .int (φ 4), .int (φ 5), .int (φ 6), .int (φ 7)]
abbrev setM (h : zH) (b : Nat) (φ : Nat → Int32) (β : zB) : zH := zobj (5, fsM b φ ) 7 lnM β b h
theorem M_o {h : zH} {b : Nat} {φ : Nat → Int32} {β : zB} : (setM h b φ β) b = some (.inr (5, fsM b φ )) := zobj_o
theorem M_a0 {h : zH} {b : Nat} {φ : Nat → Int32} {β : zB} : (setM h b φ β) (b + 1) = some (.inl (175, .inl (β 0))) := zobj_a 0 (by decide)
theorem M_p0 {h : zH} {b : Nat} {φ : Nat → Int32} {β : zB} {i : Nat} {x : Int32} : zput (setM h b φ β) (b + 1) (some (.inl (175, .inl (va_up (β 0) i x)))) = setM h b φ (up2 β 0 i x) := by rw [up2_sa]; exact zobj_pa 0 (by decide) _
theorem M_q0 {h : zH} {b : Nat} {φ : Nat → Int32} {β : zB} {f : Nat → Int32} : zput (setM h b φ β) (b + 1) (some (.inl (175, .inl f))) = setM h b φ (sa β 0 f) := zobj_pa 0 (by decide) _
theorem M_a1 {h : zH} {b : Nat} {φ : Nat → Int32} {β : zB} : (setM h b φ β) (b + 2) = some (.inl (175, .inl (β 1))) := zobj_a 1 (by decide)
theorem M_p1 {h : zH} {b : Nat} {φ : Nat → Int32} {β : zB} {i : Nat} {x : Int32} : zput (setM h b φ β) (b + 2) (some (.inl (175, .inl (va_up (β 1) i x)))) = setM h b φ (up2 β 1 i x) := by rw [up2_sa]; exact zobj_pa 1 (by decide) _
theorem M_q1 {h : zH} {b : Nat} {φ : Nat → Int32} {β : zB} {f : Nat → Int32} : zput (setM h b φ β) (b + 2) (some (.inl (175, .inl f))) = setM h b φ (sa β 1 f) := zobj_pa 1 (by decide) _
theorem M_a2 {h : zH} {b : Nat} {φ : Nat → Int32} {β : zB} : (setM h b φ β) (b + 3) = some (.inl (1050, .inl (β 2))) := zobj_a 2 (by decide)
theorem M_p2 {h : zH} {b : Nat} {φ : Nat → Int32} {β : zB} {i : Nat} {x : Int32} : zput (setM h b φ β) (b + 3) (some (.inl (1050, .inl (va_up (β 2) i x)))) = setM h b φ (up2 β 2 i x) := by rw [up2_sa]; exact zobj_pa 2 (by decide) _
theorem M_q2 {h : zH} {b : Nat} {φ : Nat → Int32} {β : zB} {f : Nat → Int32} : zput (setM h b φ β) (b + 3) (some (.inl (1050, .inl f))) = setM h b φ (sa β 2 f) := zobj_pa 2 (by decide) _
theorem M_a3 {h : zH} {b : Nat} {φ : Nat → Int32} {β : zB} : (setM h b φ β) (b + 4) = some (.inl (175, .inl (β 3))) := zobj_a 3 (by decide)
theorem M_p3 {h : zH} {b : Nat} {φ : Nat → Int32} {β : zB} {i : Nat} {x : Int32} : zput (setM h b φ β) (b + 4) (some (.inl (175, .inl (va_up (β 3) i x)))) = setM h b φ (up2 β 3 i x) := by rw [up2_sa]; exact zobj_pa 3 (by decide) _
theorem M_q3 {h : zH} {b : Nat} {φ : Nat → Int32} {β : zB} {f : Nat → Int32} : zput (setM h b φ β) (b + 4) (some (.inl (175, .inl f))) = setM h b φ (sa β 3 f) := zobj_pa 3 (by decide) _
theorem M_a4 {h : zH} {b : Nat} {φ : Nat → Int32} {β : zB} : (setM h b φ β) (b + 5) = some (.inl (60, .inl (β 4))) := zobj_a 4 (by decide)
theorem M_p4 {h : zH} {b : Nat} {φ : Nat → Int32} {β : zB} {i : Nat} {x : Int32} : zput (setM h b φ β) (b + 5) (some (.inl (60, .inl (va_up (β 4) i x)))) = setM h b φ (up2 β 4 i x) := by rw [up2_sa]; exact zobj_pa 4 (by decide) _
theorem M_q4 {h : zH} {b : Nat} {φ : Nat → Int32} {β : zB} {f : Nat → Int32} : zput (setM h b φ β) (b + 5) (some (.inl (60, .inl f))) = setM h b φ (sa β 4 f) := zobj_pa 4 (by decide) _
theorem M_a5 {h : zH} {b : Nat} {φ : Nat → Int32} {β : zB} : (setM h b φ β) (b + 6) = some (.inl (7, .inl (β 5))) := zobj_a 5 (by decide)
theorem M_p5 {h : zH} {b : Nat} {φ : Nat → Int32} {β : zB} {i : Nat} {x : Int32} : zput (setM h b φ β) (b + 6) (some (.inl (7, .inl (va_up (β 5) i x)))) = setM h b φ (up2 β 5 i x) := by rw [up2_sa]; exact zobj_pa 5 (by decide) _
theorem M_q5 {h : zH} {b : Nat} {φ : Nat → Int32} {β : zB} {f : Nat → Int32} : zput (setM h b φ β) (b + 6) (some (.inl (7, .inl f))) = setM h b φ (sa β 5 f) := zobj_pa 5 (by decide) _
theorem M_a6 {h : zH} {b : Nat} {φ : Nat → Int32} {β : zB} : (setM h b φ β) (b + 7) = some (.inl (7, .inl (β 6))) := zobj_a 6 (by decide)
theorem M_p6 {h : zH} {b : Nat} {φ : Nat → Int32} {β : zB} {i : Nat} {x : Int32} : zput (setM h b φ β) (b + 7) (some (.inl (7, .inl (va_up (β 6) i x)))) = setM h b φ (up2 β 6 i x) := by rw [up2_sa]; exact zobj_pa 6 (by decide) _
theorem M_q6 {h : zH} {b : Nat} {φ : Nat → Int32} {β : zB} {f : Nat → Int32} : zput (setM h b φ β) (b + 7) (some (.inl (7, .inl f))) = setM h b φ (sa β 6 f) := zobj_pa 6 (by decide) _
theorem M_f0 {h : zH} {b : Nat} {φ : Nat → Int32} {β : zB} {x : Int32} : zput (setM h b φ β) b (some (.inr (5, (fsM b φ).set 0 (.int x)))) = setM h b (va_up φ 0 x) β := zobj_po
theorem M_f1 {h : zH} {b : Nat} {φ : Nat → Int32} {β : zB} {x : Int32} : zput (setM h b φ β) b (some (.inr (5, (fsM b φ).set 4 (.int x)))) = setM h b (va_up φ 1 x) β := zobj_po
theorem M_f2 {h : zH} {b : Nat} {φ : Nat → Int32} {β : zB} {x : Int32} : zput (setM h b φ β) b (some (.inr (5, (fsM b φ).set 6 (.int x)))) = setM h b (va_up φ 2 x) β := zobj_po
theorem M_f3 {h : zH} {b : Nat} {φ : Nat → Int32} {β : zB} {x : Int32} : zput (setM h b φ β) b (some (.inr (5, (fsM b φ).set 8 (.int x)))) = setM h b (va_up φ 3 x) β := zobj_po
theorem M_f4 {h : zH} {b : Nat} {φ : Nat → Int32} {β : zB} {x : Int32} : zput (setM h b φ β) b (some (.inr (5, (fsM b φ).set 11 (.int x)))) = setM h b (va_up φ 4 x) β := zobj_po
theorem M_f5 {h : zH} {b : Nat} {φ : Nat → Int32} {β : zB} {x : Int32} : zput (setM h b φ β) b (some (.inr (5, (fsM b φ).set 12 (.int x)))) = setM h b (va_up φ 5 x) β := zobj_po
theorem M_f6 {h : zH} {b : Nat} {φ : Nat → Int32} {β : zB} {x : Int32} : zput (setM h b φ β) b (some (.inr (5, (fsM b φ).set 13 (.int x)))) = setM h b (va_up φ 6 x) β := zobj_po
theorem M_f7 {h : zH} {b : Nat} {φ : Nat → Int32} {β : zB} {x : Int32} : zput (setM h b φ β) b (some (.inr (5, (fsM b φ).set 14 (.int x)))) = setM h b (va_up φ 7 x) β := zobj_po
/-! numbers -/
theorem zI_add (a b : Nat) : nI a + nI b = nI (a + b) := (Int32.ofNat_add a b).symm
theorem zI_mul (a b : Nat) : nI a * nI b = nI (a * b) := (Int32.ofNat_mul a b).symm
theorem zI_sub {a b : Nat} (h : b ≤ a) : nI a - nI b = nI (a - b) := (Int32.ofNat_sub a b h).symm
theorem zI_inj {a b : Nat} (ha : a < 2 ^ 31) (hb : b < 2 ^ 31) (h : nI a = nI b) : a = b := by rw [← nI_clamp ha, ← nI_clamp hb, h]
theorem zI_ne {a b : Nat} (ha : a < 2 ^ 31) (hb : b < 2 ^ 31) (h : a ≠ b) : ¬ nI a = nI b := fun e => h (zI_inj ha hb e)
theorem zRi {v r : Int32} {h h2 : zH} {n n2 : Nat} (e1 : v = r) (e2 : h = h2) (e3 : n = n2) : zR (some (.int r)) h2 n2 (.inl (some (.int v))) h n := ⟨by rw [e1], e2, e3⟩
theorem zRl {v r : Int64} {h h2 : zH} {n n2 : Nat} (e1 : v = r) (e2 : h = h2) (e3 : n = n2) : zR (some (.long r)) h2 n2 (.inl (some (.long v))) h n := ⟨by rw [e1], e2, e3⟩
theorem zRd {v r : UInt64} {h h2 : zH} {n n2 : Nat} (e1 : v = r) (e2 : h = h2) (e3 : n = n2) : zR (some (.double r)) h2 n2 (.inl (some (.double v))) h n := ⟨by rw [e1], e2, e3⟩
theorem zRv {h h2 : zH} {n n2 : Nat} (e2 : h = h2) (e3 : n = n2) : zR none h2 n2 (.inl none) h n := ⟨rfl, e2, e3⟩
def b2 (p : Prop) [Decidable p] : Int32 := if p then 1 else 0
theorem b2_t {p : Prop} [Decidable p] (h : p) : b2 p = 1 := if_pos h
theorem b2_f {p : Prop} [Decidable p] (h : ¬ p) : b2 p = 0 := if_neg h
theorem b2_ne {p : Prop} [Decidable p] : ¬ b2 p = 0 ↔ p := by
  unfold b2; split <;> simp_all
theorem b2_eq {p : Prop} [Decidable p] : b2 p = 0 ↔ ¬ p := by
  unfold b2; split <;> simp_all
theorem b2_nar {p : Prop} [Decidable p] : narrow .boolean (.int (b2 p)) = .int (b2 p) := by
  unfold b2; split <;> rfl

