/-! The machine's own picture of the heap: a function from addresses to cells, whole behind 'base'; V: a walk's point said in it. -/
abbrev zC : Type := Option (vp_A ⊕ (Nat × List Value))
abbrev zH : Type := Nat → zC
abbrev zO : Type := (Option Value) ⊕ String
def zput (h : zH) (a : Nat) (c : zC) : zH := fun q => if q = a then c else h q
def zty (x : (Nat → Int32) ⊕ (Nat → Int64) ⊕ (Nat → UInt32) ⊕ (Nat → UInt64) ⊕ (Nat → Option Nat)) : FieldType := match x with
  | .inl _ => .int
  | .inr (.inl _) => .long
  | .inr (.inr (.inl _)) => .float
  | .inr (.inr (.inr (.inl _))) => .double
  | .inr (.inr (.inr (.inr _))) => .object RX0
def zAt (D : va_G) (U : State) (H : Heap) (a : Nat) (c : zC) : Prop := match c with
  | none => True
  | some (.inl x) => ∃ cA : ClassId, H[a]? = some (vp_cell cA x) ∧ ArrOfT U cA (zty x.2) ∧ va_RA U cA (zty x.2)
  | some (.inr o) => va_at D vwCl (a, .inr o) H
def zHp (D : va_G) (base : Nat) (h : zH) (n : Nat) (U : State) (H : Heap) : Prop :=
  H.size = n ∧ base ≤ n ∧ (∀ a, a < base ∨ n ≤ a → h a = none) ∧ ∀ a, zAt D U H a (h a)
theorem zAt.kept {D : va_G} {U : State} {H H1 : Heap} {a : Nat} {c : zC} (h : zAt D U H a c) (hq : H1[a]? = H[a]?) : zAt D U H1 a c := by
  match c, h with
  | none, _ => trivial
  | some (.inl x), h => obtain ⟨cA, h1, h2⟩ := h; exact ⟨cA, by rw [hq]; exact h1, h2⟩
  | some (.inr o), h => exact va_at.kept (show va_at D vwCl (a, .inr o) H from h) hq
theorem zAt.moved {D : va_G} {U u : State} {H : Heap} {a : Nat} {c : zC} (hvm : u.vm.Alike U.vm) (h : zAt D u H a c) : zAt D U H a c := by
  match c, h with
  | none, _ => trivial
  | some (.inl x), h => obtain ⟨cA, h1, h2, h3⟩ := h; exact ⟨cA, h1, arrOfT_moved hvm h2, h3.moved hvm⟩
  | some (.inr o), h => exact h
theorem zAt.lt {D : va_G} {U : State} {H : Heap} {a : Nat} {c : zC} (h : zAt D U H a c) (hc : c ≠ none) : a < H.size := by
  match c, h with
  | none, _ => exact absurd rfl hc
  | some (.inl x), h => obtain ⟨cA, h1, -⟩ := h; exact (Array.getElem?_eq_some_iff.mp h1).1
  | some (.inr o), h => exact va_at.lt (show va_at D vwCl (a, .inr o) H from h)
theorem zHp.moved {D : va_G} {base n : Nat} {h : zH} {U u : State} {H : Heap} (hvm : u.vm.Alike U.vm) (hh : zHp D base h n u H) : zHp D base h n U H :=
  ⟨hh.1, hh.2.1, hh.2.2.1, fun a => (hh.2.2.2 a).moved hvm⟩
theorem zHp.in {D : va_G} {base n : Nat} {h : zH} {U : State} {H : Heap} (hh : zHp D base h n U H) {a : Nat} (ha : h a ≠ none) : base ≤ a ∧ a < n := by
  constructor
  · exact Nat.not_lt.mp fun q => ha (hh.2.2.1 a (Or.inl q))
  · exact Nat.not_le.mp fun q => ha (hh.2.2.1 a (Or.inr q))
theorem zHp.put {D : va_G} {base n : Nat} {h h' : zH} {U : State} {H H1 : Heap} {a : Nat} {c : zC} (hh : zHp D base h n U H) (ha : h a ≠ none) (z : H1.size = H.size) (oq : ∀ q, q ≠ a → H1[q]? = H[q]?) (hc : zAt D U H1 a c) (he : zput h a c = h') : zHp D base h' n U H1 := by
  subst he
  obtain ⟨i1, i2⟩ := hh.in ha
  refine ⟨z.trans hh.1, hh.2.1, fun q hq => ?_, fun q => ?_⟩
  · have hne : q ≠ a := by omega
    simp only [zput, hne, if_false]
    exact hh.2.2.1 q hq
  · by_cases hqa : q = a
    · subst hqa
      simp only [zput, if_true]
      exact hc
    · simp only [zput, hqa, if_false]
      exact (hh.2.2.2 q).kept (oq q hqa)
theorem zHp.push {D : va_G} {base n : Nat} {h h' : zH} {U : State} {H H1 : Heap} {c : zC} (hh : zHp D base h n U H) (z : H1.size = n + 1) (oq : ∀ q, q < n → H1[q]? = H[q]?) (hc : zAt D U H1 n c) (he : zput h n c = h') : zHp D base h' (n + 1) U H1 := by
  subst he
  refine ⟨z, Nat.le_succ_of_le hh.2.1, fun q hq => ?_, fun q => ?_⟩
  · have h2 := hh.2.1
    have hne : q ≠ n := by omega
    simp only [zput, hne, if_false]
    exact hh.2.2.1 q (by omega)
  · by_cases hqa : q = n
    · subst hqa
      simp only [zput, if_true]
      exact hc
    · simp only [zput, hqa, if_false]
      by_cases hlt : q < n
      · exact (hh.2.2.2 q).kept (oq q hlt)
      · rw [hh.2.2.1 q (Or.inr (by omega))]; trivial
/-! the words that all methods share -/
def zGA : List Cond := lw_tbl.filter goodWord
theorem zga_in {w : Cond} (i : Nat) (h : lw_tbl[i]? = some w) (hg : goodWord w = true) : w ∈ zGA := List.mem_filter.mpr ⟨List.mem_of_getElem? h, hg⟩
theorem zGA_good {big : List Cond} (h : ∀ w ∈ zGA, w ∈ big) : GoodIn big zGA := fun w hw => ⟨h w hw, good_of_word (List.mem_filter.mp hw).2⟩
/-- words of the tables that aren't kept by the word laws: moved one by one -/
def zng : Cond → Bool
  | .declares _ => true
  | .castable _ _ => true
  | .methodLinkNest _ _ _ _ => true
  | .fieldLinkNest _ _ _ _ _ _ => true
  | .arrayOver (.object _) => true
  | _ => false
def zNG : List Cond := tables_1.filter zng
theorem zng_in {w : Cond} (i : Nat) (h : tables_1[i]? = some w) (hg : zng w = true) : w ∈ zNG := List.mem_filter.mpr ⟨List.mem_of_getElem? h, hg⟩
theorem zng_moved {w : Cond} {s U : State} (hW : s.WarmedH U.vm) (hg : zng w = true) (h : va_Nw w s) : va_Nw w U := by
  cases w with
  | declares x => exact va_Nw.warmD hW h
  | castable a b => exact va_Nw.warmC hW h
  | methodLinkNest a i x b => exact va_Nw.warmM hW h
  | fieldLinkNest a i b n d e => exact va_Nw.warmF hW h
  | arrayOver t =>
    cases t with
    | object C => exact va_AO.moved hW.alike h
    | _ => cases hg
  | _ => cases hg
theorem zng_use {w : Cond} {s : State} {A : Array Value} (hg : zng w = true) (h : va_Nw w s) : w.before A s = true := by
  cases w with
  | declares x => exact va_Nw.use rfl h
  | castable a b => exact va_Nw.use rfl h
  | methodLinkNest a i x b => exact va_Nw.use rfl h
  | fieldLinkNest a i b n d e => exact va_Nw.use rfl h
  | arrayOver t =>
    cases t with
    | object C => exact va_AO.use h
    | _ => cases hg
  | _ => cases hg
theorem zw_ai : Cond.arrayClass .int ∈ zGA := zga_in 87 (by decide +kernel) (by decide +kernel)
theorem zw_ao : Cond.arrayOver (.object RX0) ∈ zNG := zng_in 82 (by decide +kernel) (by decide +kernel)
theorem zw_acn : Cond.native arraycopyName ∈ zGA := zga_in 48 (by decide +kernel) (by decide +kernel)
theorem zw_acs : Cond.static arraycopyName ∈ zGA := zga_in 47 (by decide +kernel) (by decide +kernel)
theorem zw_aci : Cond.initialized "java/lang/System" ∈ zGA := zga_in 17 (by decide +kernel) (by decide +kernel)
theorem zw_oii : Cond.instanceMethod Lib.objectInit ∈ zGA := zga_in 33 (by decide +kernel) (by decide +kernel)
theorem zw_oic : Cond.code Lib.objectInit ⟨#[0xb1]⟩ 1 none ∈ zGA := zga_in 34 (by decide +kernel) (by decide +kernel)
def zNC : List (String × String) := [("java/lang/IllegalArgumentException", "java/lang/IndexOutOfBoundsException"), ("java/lang/IllegalArgumentException", "java/lang/IllegalStateException"), ("java/lang/IllegalStateException", "java/lang/IllegalArgumentException"), ("java/lang/IllegalStateException", "java/lang/IndexOutOfBoundsException"), ("java/lang/IndexOutOfBoundsException", "java/lang/IllegalArgumentException"), ("java/lang/IndexOutOfBoundsException", "java/lang/IllegalStateException")]
def zStr : List (Nat × String) := [(209, "there is no such thing on the board"), (212, "the value is out of range"), (77, "no ball is in the hand"), (125, "no state is saved"), (133, "there is no snapshot")]
def zfk : Nat → Int32 := fun k => [0, 2, 1, 0, 1, 2, 0].getD k 0
def zfp : Nat → Int32 := fun k => [0, 3, 10, 2, 10, 3, 0].getD k 0
/-- what is fixed: the tables' facts, and the cells ahead of 'base' that a walk may look at -/
def zSt (base : Nat) (nm : String) (f : Nat → Int32) (U : State) (H : Heap) : Prop := ∃ t : Nat, va_Z RX4 nm "[I" (.ref t) (fun q => base ≤ q) U H ∧ va_X t 7 f U H ∧ t < base ∧ t < H.size
def zK (base : Nat) (D : va_G) (U : State) (H : Heap) : Prop :=
  va_K D vwCl [] U ∧ (∀ w ∈ zNG, va_Nw w U) ∧ (∀ q ∈ zNC, va_Nc q.1 q.2 U) ∧ (∀ q ∈ zStr, ∃ sa, vk_R RX4 q.1 q.2 sa U) ∧
  vx_Zq Bundle.tN "UNASSIGNED_STACK" Bundle.steD (fun q => base ≤ q) U H ∧ vx_Zq Bundle.tN "SUPPRESSED_SENTINEL" Bundle.listD (fun q => base ≤ q) U H ∧
  zSt base "FIRST_KINDS" zfk U H ∧ zSt base "FIRST_PAYS" zfp U H
theorem zSt.moved {base : Nat} {nm : String} {f : Nat → Int32} {s U : State} {H0 H : Heap} (hW : s.WarmedH U.vm) (hz : H0.size ≤ H.size) (hq : ∀ a, a < H0.size → ¬ base ≤ a → H[a]? = H0[a]?) (h : zSt base nm f s H0) : zSt base nm f U H := by
  obtain ⟨t, h1, h2, h3, h4⟩ := h
  exact ⟨t, va_Z.kept (va_Z.moved hW.alike h1) hq, va_X.kept (va_X.moved hW.alike h2) (hq t h4 (by omega)), h3, by omega⟩
theorem zK.moved {base : Nat} {D : va_G} {s U : State} {H0 H : Heap} (hW : s.WarmedH U.vm) (hz : H0.size ≤ H.size) (hq : ∀ a, a < H0.size → ¬ base ≤ a → H[a]? = H0[a]?) (h : zK base D s H0) : zK base D U H := by
  obtain ⟨h1, h2, h3, h4, h5, h6, h7, h8⟩ := h
  refine ⟨va_K.moved hW.alike h1, fun w hw => zng_moved hW (List.mem_filter.mp hw).2 (h2 w hw), fun q hq => va_Nc.moved hW.alike (h3 q hq), fun q hq => ?_, vx_Zq.kept (vx_Zq.moved hW.alike h5) hq, vx_Zq.kept (vx_Zq.moved hW.alike h6) hq, h7.moved hW hz hq, h8.moved hW hz hq⟩
  obtain ⟨sa, h⟩ := h4 q hq
  exact ⟨sa, vk_R.warm hW h⟩
/-- the frame: what is ahead of 'base' stays -/
def zF (base : Nat) (st t : State) : Prop := va_F (fun q => base ≤ q) st t
/-- a point of a walk: the heap as h says, n its size -/
def zS (D : va_G) (base : Nat) (h : zH) (n : Nat) (s : State) (H : Heap) (locs : List Loc) : Prop :=
  zHp D base h n s H ∧ va_S (fun q => base ≤ q) s.heap H locs ∧ base ≤ s.heap.size
def zP (D : va_G) (base : Nat) (As : List Value) (h : zH) (n : Nat) : Array Value → State → Prop := va_Pc As (fun U => zK base D U U.heap ∧ zHp D base h n U U.heap)
def zQ (D : va_G) (base : Nat) (P : zO → zH → Nat → Prop) : Array Value → State → Outcome → State → Prop := fun _ st o t =>
  (∃ (v : Option Value) (h' : zH) (n' : Nat), o = .returned v ∧ P (.inl v) h' n' ∧ zHp D base h' n' t t.heap) ∧ zF base st t
def zXC (D : va_G) (base : Nat) (P : zO → zH → Nat → Prop) : String → State → State → Prop := fun E st t =>
  (∃ (h' : zH) (n' : Nat), P (.inr E) h' n' ∧ zHp D base h' n' t t.heap) ∧ zF base st t
/-- A CONTRACT: from As and the heap h (n cells), y comes to its end with an outcome, a heap and a size that P allows -/
def zCt (l : Launch) (D : va_G) (base dd : Nat) (y : MethodName) (cw : Cond) (As : List Value) (h : zH) (n mc ms : Nat) (P : zO → zH → Nat → Prop) : Prop :=
  vx_Met l y (cw :: zGA) ({ frames := dd, cells := mc, slots := ms, locals := 64 * dd }) (zP D base As h n) (zQ D base P) (zXC D base P) mc ms (fun q => base ≤ q)
def zR (r : Option Value) (h' : zH) (n' : Nat) : zO → zH → Nat → Prop := fun o a b => o = .inl r ∧ a = h' ∧ b = n'
abbrev zVT : Type := Nat → List (Nat × Value) → List Value → zH → Nat → Nat → Nat → Prop
abbrev zXT : Type := Nat → List (Nat × Value) → List Value → zH → Nat → Nat → Nat → String → Prop
def zV (p : Program) (l : Launch) (e : Env) (R : Room) (s : State) (m : MethodId) (args : Array Value) (below : List Frame) (meth : Method) (c : Code) (Q : State → Prop) (D : va_G) (base nL : Nat) : zVT := fun pc ls st h n k g =>
  ∀ (H : Heap) (locs : List Loc) (la : Array Slot), lv_has la nL ls → zS D base h n s H locs → W p l e R s m args below meth c H locs k g Q (F0 m pc la st)
def zX (p : Program) (l : Launch) (e : Env) (R : Room) (s : State) (m : MethodId) (args : Array Value) (below : List Frame) (meth : Method) (c : Code) (Q : State → Prop) (D : va_G) (base nL : Nat) : zXT := fun pc ls st h n k g E =>
  ∀ (H : Heap) (locs : List Loc) (la : Array Slot) (q : Addr) (ce : Cell), lv_has la nL ls → zS D base h n s H locs → H[q]? = some ce → ce.vm = .none → s.vm.findClass E = some ce.cls → vx_W p l e R s m args below meth c H locs k g Q (F0 m pc la st) q
theorem zS.put {D : va_G} {base n a : Nat} {h h' : zH} {s : State} {H H1 : Heap} {locs : List Loc} {c : zC} {i : Nat} (hS : zS D base h n s H locs) (ha : h a ≠ none) (z : H1.size = H.size) (oq : ∀ q, q ≠ a → H1[q]? = H[q]?) (hc : zAt D s H1 a c) (he : zput h a c = h') : zS D base h' n s H1 (locs ++ [⟨a, i⟩]) :=
  ⟨hS.1.put ha z oq hc he, hS.2.1.put z oq (hS.1.in ha).1, hS.2.2⟩
theorem zS.push {D : va_G} {base n : Nat} {h h' : zH} {s : State} {H H1 : Heap} {locs : List Loc} {c : zC} (hS : zS D base h n s H locs) (z : H1.size = n + 1) (oq : ∀ q, q < n → H1[q]? = H[q]?) (hc : zAt D s H1 n c) (he : zput h n c = h') : zS D base h' (n + 1) s H1 locs := by
  have hz := hS.1.1
  have h1 := hS.2.1.1
  exact ⟨hS.1.push z oq hc he, ⟨by omega, fun q hq hA => (oq q (by omega)).trans (hS.2.1.2.1 q hq hA), hS.2.1.2.2⟩, hS.2.2⟩
def zix (i : Int32) (j : Nat) : Prop := ¬ i < 0 ∧ i.toNatClampNeg = j
theorem zix_nI {j : Nat} (h : j < 2 ^ 31) : zix (nI j) j := ⟨nI_pos h, nI_clamp h⟩
theorem zix.in {i : Int32} {j N : Nat} (h : zix i j) (hj : j < N) : ¬ (i < 0 ∨ N ≤ i.toNatClampNeg) := by
  rintro (h1 | h1)
  · exact h.1 h1
  · rw [h.2] at h1; omega
theorem zix.lt {i : Int32} {j N : Nat} (h : zix i j) (hj : j < N) : i.toNatClampNeg < N := by rw [h.2]; exact hj
def zset1 (ls : List (Nat × Value)) (i : Nat) (v : Value) : List (Nat × Value) := (i, v) :: ls.filter (fun q => !(q.1 == i) && !(q.1 + 1 == i && q.2.category == 2))
def zset2 (ls : List (Nat × Value)) (i : Nat) (v : Value) : List (Nat × Value) := (i, v) :: ls.filter (fun q => !(q.1 == i) && (!(q.1 == i + 1) && !(q.1 + 1 == i && q.2.category == 2)))
/-! links: a field, a method, a class, out of the shared words -/
def zFL (own : String) (idx ci j : Nat) : Prop := ∃ (C : String) (T : u_T) (N : Nat), vwCl[ci]? = some (C, T, N) ∧ j < N ∧ Cond.fieldLink own idx (T j).1 (T j).2.1 (T j).2.2.1 ∈ zGA ∧ (∀ w ∈ u_ws C T N, w ∈ zGA)
def zFP (own : String) (idx ci j : Nat) (fin : Bool) (ty : FieldType) : Prop := ∃ (C : String) (T : u_T) (N : Nat) (tys : Nat → FieldType), vwCl[ci]? = some (C, T, N) ∧ j < N ∧ Cond.fieldLink own idx (T j).1 (T j).2.1 (T j).2.2.1 ∈ zGA ∧ (∀ w ∈ u_ws C T N, w ∈ zGA) ∧
  (∀ k, k < N → parseFieldDescriptor (T k).2.2.1 = some (tys k)) ∧ (∀ a, a < N → ∀ b, b < N → a ≠ b → (T a).2.1 ≠ (T b).2.1) ∧ (T j).2.2.2 = fin ∧ parseFieldDescriptor (T j).2.2.1 = some ty ∧ (T j).1 = own
def zNW (own : String) (idx ci : Nat) (fs : List Value) (N : Nat) : Prop := ∃ (C : String) (T : u_T) (tys : Nat → FieldType), vwCl[ci]? = some (C, T, N) ∧ (∀ w ∈ u_ws C T N, w ∈ zGA) ∧ (∀ k, k < N → parseFieldDescriptor (T k).2.2.1 = some (tys k)) ∧ (∀ j, j < N → defaultValue (tys j) = vp_V fs j) ∧
  Cond.classLink own idx C ∈ zGA ∧ Cond.instantiable C N ∈ zGA ∧ Cond.initialized C ∈ zGA
/-- a method and its code -/
def zMY (y : MethodName) (bytes : ByteArray) (maxL : Nat) (ret : Option FieldType) (na : Nat) : Prop := Cond.code y bytes maxL ret ∈ zGA ∧ Cond.initialized y.cls ∈ zGA ∧ y.cls ≠ "java/lang/invoke/MethodHandle" ∧ y.cls ≠ "java/lang/invoke/VarHandle" ∧ (parseMethodDescriptor y.desc).map (fun d => d.parameters.length) = some na ∧ maxL ≤ 45
def zMH (y : MethodName) (bytes : ByteArray) (maxL : Nat) (ret : Option FieldType) (hh : List (Nat × Nat × Nat × Nat)) (na : Nat) : Prop := Cond.codeWith y bytes maxL ret hh ∈ zGA ∧ Cond.initialized y.cls ∈ zGA ∧ y.cls ≠ "java/lang/invoke/MethodHandle" ∧ y.cls ≠ "java/lang/invoke/VarHandle" ∧ (parseMethodDescriptor y.desc).map (fun d => d.parameters.length) = some na ∧ maxL ≤ 45
def zLV (own : String) (idx : Nat) (y : MethodName) : Prop := Cond.methodLink own idx y ∈ zGA ∧ Cond.instanceMethod y ∈ zGA ∧ Cond.selects y.cls y y ∈ zGA
def zLS (own : String) (idx : Nat) (y : MethodName) : Prop := Cond.methodLink own idx y ∈ zGA ∧ Cond.static y ∈ zGA
def zLI (own : String) (idx : Nat) (y : MethodName) : Prop := Cond.methodLink own idx y ∈ zGA ∧ Cond.instanceMethod y ∈ zGA ∧ y.name = "<init>"
def zLSN (own : String) (idx : Nat) (y : MethodName) (host : String) : Prop := Cond.methodLinkNest own idx y host ∈ zNG ∧ Cond.static y ∈ zGA
def zLIN (own : String) (idx : Nat) (y : MethodName) (host : String) : Prop := Cond.methodLinkNest own idx y host ∈ zNG ∧ Cond.instanceMethod y ∈ zGA ∧ y.name = "<init>"
def zcat (st : List Value) : Nat := (st.map fun v => v.category).sum
section ZR
variable {p : Program} {l : Launch} {e : Env} {R : Room} {s : State} {m : MethodId} {args : Array Value} {below : List Frame} {meth : Method} {c : Code} {H : Heap} {locs : List Loc} {cells slots : Nat} {Q : State → Prop}
variable {cc : ByteArray} {pc n a : Nat} {la : Array Slot} {st rest : List Value} {D : va_G} {base : Nat} {h : zH} {own : String}
theorem z_iald (hx : p.tables.exec = Jvm.exec) (hb : c.code = cc) (hS : zS D base h n s H locs) {N : Nat} {f : Nat → Int32} {i : Int32} {j : Nat} (ha : h a = some (.inl (N, .inl f))) (hi : zix i j) (hj : j < N) (d : decode cc pc = .ok (.iaload, 1))
    (kk : W p l e R s m args below meth c H locs cells slots Q (F0 m (pc + 1) la (.int (f j) :: st))) : W p l e R s m args below meth c H locs cells slots Q (F0 m pc la (.int i :: .ref a :: st)) := by
  have hA := hS.1.2.2.2 a
  rw [ha] at hA
  obtain ⟨cA, h1, h2, -⟩ := hA
  exact W.iald (v := .int (f j)) hx hb h1 (h2 N (fun j => .int (f j))) (fun q => by cases q) (by show ¬ (i < 0 ∨ (arrV _ _ _).slots.size ≤ _); rw [arrV_size]; exact hi.in hj) (by show (arrV _ _ _).slots[_]? = _; rw [arrV_read _ _ (hi.lt hj), hi.2]) rfl rfl d kk
theorem z_lald (hx : p.tables.exec = Jvm.exec) (hb : c.code = cc) (hS : zS D base h n s H locs) {N : Nat} {f : Nat → Int64} {i : Int32} {j : Nat} (ha : h a = some (.inl (N, .inr (.inl f)))) (hi : zix i j) (hj : j < N) (d : decode cc pc = .ok (.laload, 1))
    (kk : W p l e R s m args below meth c H locs cells slots Q (F0 m (pc + 1) la (.long (f j) :: st))) : W p l e R s m args below meth c H locs cells slots Q (F0 m pc la (.int i :: .ref a :: st)) := by
  have hA := hS.1.2.2.2 a
  rw [ha] at hA
  obtain ⟨cA, h1, h2, -⟩ := hA
  exact W.lald (v := .long (f j)) hx hb h1 (h2 N (fun j => .long (f j))) (fun q => by cases q) (by show ¬ (i < 0 ∨ (arrV _ _ _).slots.size ≤ _); rw [arrV_size]; exact hi.in hj) (by show (arrV _ _ _).slots[_]? = _; rw [arrV_read _ _ (hi.lt hj), hi.2]) rfl rfl d kk
theorem z_aald (hx : p.tables.exec = Jvm.exec) (hb : c.code = cc) (hS : zS D base h n s H locs) {N : Nat} {f : Nat → Option Nat} {i : Int32} {j : Nat} (ha : h a = some (.inl (N, .inr (.inr (.inr (.inr f)))))) (hi : zix i j) (hj : j < N) (d : decode cc pc = .ok (.aaload, 1))
    (kk : W p l e R s m args below meth c H locs cells slots Q (F0 m (pc + 1) la (va_rf (f j) :: st))) : W p l e R s m args below meth c H locs cells slots Q (F0 m pc la (.int i :: .ref a :: st)) := by
  have hA := hS.1.2.2.2 a
  rw [ha] at hA
  obtain ⟨cA, h1, h2, -⟩ := hA
  exact W.aald (v := va_rf (f j)) (ty := .object RX0) hx hb h1 (h2 N (fun j => va_rf (f j))) rfl (fun q => by cases q) (by show ¬ (i < 0 ∨ (arrV _ _ _).slots.size ≤ _); rw [arrV_size]; exact hi.in hj) (by show (arrV _ _ _).slots[_]? = _; rw [arrV_read _ _ (hi.lt hj), hi.2]) rfl rfl d kk
theorem z_alen (hx : p.tables.exec = Jvm.exec) (hb : c.code = cc) (hS : zS D base h n s H locs) {N : Nat} {f : Nat → Int32} {v : Int32} (ha : h a = some (.inl (N, .inl f))) (hv : Int32.ofNat N = v) (d : decode cc pc = .ok (.arraylength, 1))
    (kk : W p l e R s m args below meth c H locs cells slots Q (F0 m (pc + 1) la (.int v :: st))) : W p l e R s m args below meth c H locs cells slots Q (F0 m pc la (.ref a :: st)) := by
  have hA := hS.1.2.2.2 a
  rw [ha] at hA
  obtain ⟨cA, h1, h2, -⟩ := hA
  subst hv
  exact W.alen (n := Int32.ofNat N) hx hb h1 (h2 N (fun j => .int (f j))) (by rw [vp_cell_i, arrV_size] <;> rfl) rfl rfl d kk
theorem z_iast (hx : p.tables.exec = Jvm.exec) (hb : c.code = cc) (hS : zS D base h n s H locs) {N : Nat} {f : Nat → Int32} {i x : Int32} {j : Nat} (ha : h a = some (.inl (N, .inl f))) (hi : zix i j) (hj : j < N) (d : decode cc pc = .ok (.iastore, 1))
    (kk : ∀ H locs, zS D base (zput h a (some (.inl (N, .inl (va_up f j x))))) n s H locs → W p l e R s m args below meth c H locs cells slots Q (F0 m (pc + 1) la st)) : W p l e R s m args below meth c H locs cells slots Q (F0 m pc la (.int x :: .int i :: .ref a :: st)) := by
  have hA := hS.1.2.2.2 a
  rw [ha] at hA
  obtain ⟨cA, h1, h2, h3⟩ := hA
  refine W.iast hx hb h1 (h2 N (fun j => .int (f j))) (fun q => by cases q) (by show ¬ (i < 0 ∨ (arrV _ _ _).slots.size ≤ _); rw [arrV_size]; exact hi.in hj) rfl rfl d fun H1 e z oq => ?_
  refine kk H1 _ (hS.put (c := some (.inl (N, .inl (va_up f j x)))) (by rw [ha]; exact fun q => by cases q) z oq ⟨cA, ?_, h2, h3⟩ rfl)
  rw [e, vp_cell_i, vp_cell_i, arrV_store, hi.2]
  congr 2
  funext q
  by_cases hq : q = j
  · subst hq
    simp [updV, va_up]
  · simp [updV, va_up, hq]
theorem z_last (hx : p.tables.exec = Jvm.exec) (hb : c.code = cc) (hS : zS D base h n s H locs) {N : Nat} {f : Nat → Int64} {i : Int32} {x : Int64} {j : Nat} (ha : h a = some (.inl (N, .inr (.inl f)))) (hi : zix i j) (hj : j < N) (d : decode cc pc = .ok (.lastore, 1))
    (kk : ∀ H locs, zS D base (zput h a (some (.inl (N, .inr (.inl (va_up f j x)))))) n s H locs → W p l e R s m args below meth c H locs cells slots Q (F0 m (pc + 1) la st)) : W p l e R s m args below meth c H locs cells slots Q (F0 m pc la (.long x :: .int i :: .ref a :: st)) := by
  have hA := hS.1.2.2.2 a
  rw [ha] at hA
  obtain ⟨cA, h1, h2, h3⟩ := hA
  refine W.last hx hb h1 (h2 N (fun j => .long (f j))) (fun q => by cases q) (by show ¬ (i < 0 ∨ (arrV _ _ _).slots.size ≤ _); rw [arrV_size]; exact hi.in hj) rfl rfl d fun H1 e z oq => ?_
  refine kk H1 _ (hS.put (c := some (.inl (N, .inr (.inl (va_up f j x))))) (by rw [ha]; exact fun q => by cases q) z oq ⟨cA, ?_, h2, h3⟩ rfl)
  rw [e, vp_cell_l, vp_cell_l, arrV_store, hi.2]
  congr 2
  funext q
  by_cases hq : q = j
  · subst hq
    simp [updV, va_up]
  · simp [updV, va_up, hq]
theorem z_aast (hx : p.tables.exec = Jvm.exec) (hb : c.code = cc) (hK : zK base D s s.heap) (hS : zS D base h n s H locs) {b N : Nat} {f : Nat → Option Nat} {fs : List Value} {i : Int32} {j : Nat} (ha : h a = some (.inl (N, .inr (.inr (.inr (.inr f)))))) (hb9 : h b = some (.inr (0, fs))) (hi : zix i j) (hj : j < N) (d : decode cc pc = .ok (.aastore, 1))
    (kk : ∀ H locs, zS D base (zput h a (some (.inl (N, .inr (.inr (.inr (.inr (va_up f j (some b)))))))))  n s H locs → W p l e R s m args below meth c H locs cells slots Q (F0 m (pc + 1) la st)) : W p l e R s m args below meth c H locs cells slots Q (F0 m pc la (.ref b :: .int i :: .ref a :: st)) := by
  have hA := hS.1.2.2.2 a
  have hB := hS.1.2.2.2 b
  rw [ha] at hA
  rw [hb9] at hB
  obtain ⟨cA, h1, h2, h3⟩ := hA
  obtain ⟨r', hr', cellV, g1, g2, g3, -⟩ := hB
  have hcls := (hK.1.1 0 (RX0, TX0, 10) rfl).2
  obtain ⟨kA, comp, k1, k2, k3, k4⟩ := (show va_RA s cA (.object RX0) from h3)
  have hcomp : comp = D.1 0 := Option.some.inj (k3.symm.trans hcls.1)
  subst hcomp
  obtain ⟨kC, hkC, -⟩ := hcls.2
  refine W.aast hx hb h1 (fun q h => by cases h) (fun h => by cases h) k1 k2 rfl hkC ⟨hi.1, by show _ < (arrV _ _ _).slots.size; rw [arrV_size]; exact hi.lt hj⟩ g1 (fun q h => by rw [g3] at h; cases h) (by rw [g2]; exact hkC) (by rw [g2]; exact va_assign hcls) rfl rfl d fun H1 e z oq => ?_
  refine kk H1 _ (hS.put (c := some (.inl (N, .inr (.inr (.inr (.inr (va_up f j (some b)))))))) (by rw [ha]; exact fun q => by cases q) z oq ⟨cA, ?_, h2, h3⟩ rfl)
  rw [e, vp_cell_q, vp_cell_q, arrV_store, hi.2]
  congr 2
  funext q
  by_cases hq : q = j
  · subst hq
    simp [updV, va_up, va_rf]
  · simp [updV, va_up, hq]
theorem z_getf (hx : p.tables.exec = Jvm.exec) (hb : c.code = cc) (hown : s.vm.findClass own = some m.cls) (hts : ∀ w ∈ zGA, w.before args s = true) (hK : zK base D s s.heap) (hS : zS D base h n s H locs) {i ci j : Nat} {fs : List Value} {v : Value} (hf : zFL own i ci j) (ha : h a = some (.inr (ci, fs))) (hv : fs[j]? = some v) (d : decode cc pc = .ok (.getfield i, 3))
    (kk : W p l e R s m args below meth c H locs cells slots Q (F0 m (pc + 3) la (v :: st))) : W p l e R s m args below meth c H locs cells slots Q (F0 m pc la (.ref a :: st)) := by
  obtain ⟨C, T, N, hc, hj, hl, hin⟩ := hf
  have hA := hS.1.2.2.2 a
  rw [ha] at hA
  exact va_get (D := D) (cl := vwCl) (ws := [(a, .inr (ci, fs))]) (tys := []) hx hb hts hin hown hK.1 (fun k q hq => by
    have hk : k < 1 := (List.getElem?_eq_some_iff.mp hq).1
    rw [show k = 0 by omega] at hq
    cases hq
    exact hA) 0 rfl hc j hj (hts _ hl) (fun _ h => h) hv d kk
theorem z_putf (hx : p.tables.exec = Jvm.exec) (hb : c.code = cc) (hown : s.vm.findClass own = some m.cls) (hts : ∀ w ∈ zGA, w.before args s = true) (hK : zK base D s s.heap) (hS : zS D base h n s H locs) {i ci k : Nat} {fs : List Value} {v : Value} {ty : FieldType} (hf : zFP own i ci k false ty) (ha : h a = some (.inr (ci, fs))) (hl : k < fs.length) (hn : narrow ty v = v) (hfit : fits ty v = true) (d : decode cc pc = .ok (.putfield i, 3))
    (kk : ∀ H locs, zS D base (zput h a (some (.inr (ci, fs.set k v)))) n s H locs → W p l e R s m args below meth c H locs cells slots Q (F0 m (pc + 3) la st)) : W p l e R s m args below meth c H locs cells slots Q (F0 m pc la (v :: .ref a :: st)) := by
  obtain ⟨C, T, N, ty0, hc, hk, hlink, hin, hty, hnm, hfin, hd, -⟩ := hf
  have hA := hS.1.2.2.2 a
  rw [ha] at hA
  have hap := va_apart (own := own) hts hin ty0 hty hnm hK.1 hc
  obtain ⟨r, h1, cell, q1, q2, q3, q4⟩ := hA
  have hr : r = (C, T, N) := Option.some.inj (h1.symm.trans hc)
  subst hr
  obtain ⟨hSl, hfc, kC, hkC, hkind⟩ := hK.1.1 ci _ hc
  obtain ⟨cf, kf, fi, f, hi, hsl⟩ := hSl k hk
  have hlay := hts _ (hin _ (u_in_lay hk))
  unfold u_lay at hlay
  rw [if_neg (by rw [hfin]; decide)] at hlay
  have hst := (u_facts hfc hkC (u_lays hts hin hk) hi).1
  have h6 := u_store hfc hkC hkind hlay hi hd hn hfit
  refine W.putK hx hb (f := f) ⟨hown, hts _ hlink, ⟨_, _, _, hi⟩, hst⟩ (by rw [q2]; exact h6) q1 q3 (by rw [hsl]; exact k2_hasslot (q4 k hk)) rfl rfl d fun H' e1 e2 e3 => ?_
  rw [hsl] at e1 ⊢
  exact kk H' _ (hS.put (c := some (.inr (ci, fs.set k v))) (by rw [ha]; exact fun q => by cases q) e2 e3 ⟨_, hc, t_OB.to (V := updV (vp_V fs) k v) ⟨_, e1, q2, q3, t_set q4 hap hk v⟩ (fun j _ => vp_updV_set hl v j)⟩ rfl)
theorem z_putF (hx : p.tables.exec = Jvm.exec) (hb : c.code = cc) (hown : s.vm.findClass own = some m.cls) (hts : ∀ w ∈ zGA, w.before args s = true) (hin2 : meth.name = "<init>") (hK : zK base D s s.heap) (hS : zS D base h n s H locs) {i ci k : Nat} {fs : List Value} {v : Value} {ty : FieldType} (hf : zFP own i ci k true ty) (ha : h a = some (.inr (ci, fs))) (hl : k < fs.length) (hn : narrow ty v = v) (hfit : fits ty v = true) (d : decode cc pc = .ok (.putfield i, 3))
    (kk : ∀ H locs, zS D base (zput h a (some (.inr (ci, fs.set k v)))) n s H locs → W p l e R s m args below meth c H locs cells slots Q (F0 m (pc + 3) la st)) : W p l e R s m args below meth c H locs cells slots Q (F0 m pc la (v :: .ref a :: st)) := by
  obtain ⟨C, T, N, ty0, hc, hk, hlink, hin, hty, hnm, hfin, hd, hdecl⟩ := hf
  have hA := hS.1.2.2.2 a
  rw [ha] at hA
  have hap := va_apart (own := own) hts hin ty0 hty hnm hK.1 hc
  obtain ⟨r, h1, cell, q1, q2, q3, q4⟩ := hA
  have hr : r = (C, T, N) := Option.some.inj (h1.symm.trans hc)
  subst hr
  obtain ⟨hSl, hfc, kC, hkC, hkind⟩ := hK.1.1 ci _ hc
  obtain ⟨cf, kf, fi, f, hi, hsl⟩ := hSl k hk
  have hlay := hts _ (hin _ (u_in_lay hk))
  unfold u_lay at hlay
  rw [if_pos hfin] at hlay
  have hst := (u_facts hfc hkC (u_lays hts hin hk) hi).1
  have hcf : m.cls = cf := by
    obtain ⟨_, _, c', _, _, _, -, -, hf', -, -, -, hown2, -⟩ := Cond.laysFinal_spec hlay
    have e1 : c' = cf := by have := hi.symm.trans hf'; simp at this; exact this.1.symm
    rw [hdecl] at hown2
    rw [← e1]; exact Option.some.inj (hown.symm.trans hown2)
  have h6 := u_fits hfc hkC hkind (Or.inr hlay) hi hd hn hfit
  refine W.putFinK hx hb hown (hts _ hlink) hi hst hcf hin2 (by rw [q2]; exact h6) q1 q3 (by rw [hsl]; exact k2_hasslot (q4 k hk)) rfl rfl d fun H' e1 e2 e3 => ?_
  rw [hsl] at e1 ⊢
  exact kk H' _ (hS.put (c := some (.inr (ci, fs.set k v))) (by rw [ha]; exact fun q => by cases q) e2 e3 ⟨_, hc, t_OB.to (V := updV (vp_V fs) k v) ⟨_, e1, q2, q3, t_set q4 hap hk v⟩ (fun j _ => vp_updV_set hl v j)⟩ rfl)
theorem z_newi (hx : p.tables.exec = Jvm.exec) (hb : c.code = cc) (hts : ∀ w ∈ zGA, w.before args s = true) (hS : zS D base h n s H locs) {i : Int32} {N : Nat} (hi : zix i N) (hN : N ≤ 100000) (r1 : cells + 1 ≤ R.cells) (r2 : slots + N ≤ R.slots) (d : decode cc pc = .ok (.newarray .int, 2))
    (kk : ∀ H, zS D base (zput h n (some (.inl (N, .inl (fun _ => 0))))) (n + 1) s H locs → W p l e R s m args below meth c H locs (cells + 1) (slots + N) Q (F0 m (pc + 2) la (.ref n :: st))) : W p l e R s m args below meth c H locs cells slots Q (F0 m pc la (.int i :: st)) := by
  refine va_newaK (atype := .int) hx hb (hts _ zw_ai) rfl d rfl hi.1 hi.2 (by show N * 4 ≤ _; omega) r1 r2 hS.1.1 fun H1 cA e1 z1 o1 hAr hNm => ?_
  exact kk H1 (hS.push (c := some (.inl (N, .inl (fun _ => 0)))) z1 o1 ⟨cA, e1, hAr, hNm⟩ rfl)

theorem z_newq (hx : p.tables.exec = Jvm.exec) (hb : c.code = cc) (hown : s.vm.findClass own = some m.cls) (hts : ∀ w ∈ zGA, w.before args s = true) (hK : zK base D s s.heap) (hS : zS D base h n s H locs) {x : Nat} {i : Int32} {N : Nat} (hc : Cond.classLink own x RX0 ∈ zGA) (hi : zix i N) (hN : N ≤ 100000) (r1 : cells + 1 ≤ R.cells) (r2 : slots + N ≤ R.slots) (d : decode cc pc = .ok (.anewarray x, 3))
    (kk : ∀ H, zS D base (zput h n (some (.inl (N, .inr (.inr (.inr (.inr (fun _ => none)))))))) (n + 1) s H locs → W p l e R s m args below meth c H locs (cells + 1) (slots + N) Q (F0 m (pc + 3) la (.ref n :: st))) : W p l e R s m args below meth c H locs cells slots Q (F0 m pc la (.int i :: st)) := by
  have hz := hS.1.1
  have hi2 := hi.2
  subst hi2
  refine W.anew hx hb hown (hts _ hc) (va_AO.use (hK.2.1 _ zw_ao)) rfl d rfl hi.1 (by omega) r1 r2 fun cA kA comp f1 f2 f3 f4 => ?_
  generalize hH1 : H.push ({ cls := cA, slots := Array.replicate i.toNatClampNeg .null, vm := .none } : Cell) = H1
  have z1 : H1.size = n + 1 := by rw [← hH1, Array.size_push, hz]
  have e1 : H1[n]? = some (arrV cA i.toNatClampNeg (fun _ => .null)) := by rw [← hH1, ← hz, Array.getElem?_push_size, ← arrV_new]
  have o1 : ∀ q : Nat, q < n → H1[q]? = H[q]? := fun q hq => by rw [← hH1, Array.getElem?_push, if_neg (by omega)]
  have hAr : ArrOfT s cA (.object RX0) := fun N z => ⟨(fun k h => by cases h), kA, f2, comp, f3⟩
  rw [hz]
  exact kk H1 (hS.push (c := some (.inl (i.toNatClampNeg, .inr (.inr (.inr (.inr (fun _ => none))))))) z1 o1 ⟨cA, e1, hAr, kA, comp, f2, f3, f4, f1⟩ rfl)
theorem z_new (hx : p.tables.exec = Jvm.exec) (hb : c.code = cc) (hown : s.vm.findClass own = some m.cls) (hts : ∀ w ∈ zGA, w.before args s = true) (hK : zK base D s s.heap) (hS : zS D base h n s H locs) {x ci N : Nat} {fs : List Value} (hw : zNW own x ci fs N) (r1 : cells + 1 ≤ R.cells) (r2 : slots + N ≤ R.slots) (d : decode cc pc = .ok (.new x, 3))
    (kk : ∀ H, zS D base (zput h n (some (.inr (ci, fs)))) (n + 1) s H locs → W p l e R s m args below meth c H locs (cells + 1) (slots + N) Q (F0 m (pc + 3) la (.ref n :: st))) : W p l e R s m args below meth c H locs cells slots Q (F0 m pc la st) := by
  obtain ⟨C, T, tys, hc, hin, hty, hfs, hcl, hinst, hini⟩ := hw
  have hKn := hK.1.1 ci _ hc
  refine W.newcK hx hb hown (hts _ hcl) (hts _ hinst) (hts _ hini) rfl d r1 r2 hKn.2.1 hS.1.1 fun H1 kC hkC e1 z1 o1 => ?_
  exact kk H1 (hS.push (c := some (.inr (ci, fs))) z1 o1 ⟨_, hc, (u_born tys hts hin hKn hkC e1 hty).to hfs⟩ rfl)
theorem z_gets {nm : String} {f : Nat → Int32} (hx : p.tables.exec = Jvm.exec) (hb : c.code = cc) (hown : s.vm.findClass own = some m.cls) (hZ : zSt base nm f s s.heap) (hK : zK base D s s.heap) (hS : zS D base h n s H locs) {x : Nat} (hw : Cond.fieldLinkNest own x RX4 nm "[I" RX4 ∈ zNG) (d : decode cc pc = .ok (.getstatic x, 3))
    (kk : ∀ t, va_X t 7 f s s.heap ∧ t < base ∧ t < s.heap.size → W p l e R s m args below meth c H locs cells slots Q (F0 m (pc + 3) la (.ref t :: st))) : W p l e R s m args below meth c H locs cells slots Q (F0 m pc la st) := by
  obtain ⟨t, h1, h2, h3, h4⟩ := hZ
  exact va_getsN hx hb h1 hS.2.1 hown (va_Nw.use rfl (hK.2.1 _ hw)) (fun _ h => h) d (kk t ⟨h2, h3, h4⟩)
theorem z_copy0 (hx : p.tables.exec = Jvm.exec) (hb : c.code = cc) (hml : c.maxLocals = la.size) (hown : s.vm.findClass own = some m.cls) (hts : ∀ w ∈ zGA, w.before args s = true) (hS : zS D base h n s H locs) {x b N M j : Nat} {cn : Int32} {f f0 : Nat → Int32} (hw : Cond.methodLink own x arraycopyName ∈ zGA)
    {scr : Cell} (hs1 : H[b]? = some scr) (hs2 : s.isArrayOf scr .int) (hs3 : scr.vm ≠ .unknown) (hs4 : scr.slots.size = M) (hs5 : ∀ j : Nat, j < M → scr.slots[j]? = some (.int (f j))) (ha : h a = some (.inl (N, .inl f0))) (hc : zix cn j) (hM : j ≤ M) (hN : j ≤ N) (r1 : 1 ≤ R.frames) (r2 : 64 ≤ R.locals) (r3 : zcat st ≤ 8) (d : decode cc pc = .ok (.invokestatic x, 3))
    (kk : ∀ H locs, zS D base (zput h a (some (.inl (N, .inl (va_cpy f f0 0 0 j))))) n s H locs → W p l e R s m args below meth c H locs cells slots Q (F0 m (pc + 3) la st)) : W p l e R s m args below meth c H locs cells slots Q (F0 m pc la (.int cn :: .int 0 :: .ref a :: .int 0 :: .ref b :: st)) := by
  have nn : ∀ z : Int32, ¬ z < 0 → z.toInt = (z.toNatClampNeg : Int) := by
    intro z hz
    have hz0 : (0 : Int) ≤ z.toInt := by
      have := Int32.not_lt.mp hz
      simpa using Int32.le_iff_toInt_le.mp this
    show z.toInt = ((z.toInt.toNat : Nat) : Int)
    omega
  have z0 : (0 : Int32).toNatClampNeg = 0 := by decide
  have zi0 : (0 : Int32).toInt = 0 := by decide
  have hA := hS.1.2.2.2 a
  rw [ha] at hA
  obtain ⟨c1, hc1, hAr, hRA⟩ := hA
  have hAr : ArrOfT s c1 .int := hAr
  intro T hT X
  obtain ⟨hs6, k0, hk0, cm0, hkk0⟩ := hs2
  obtain ⟨-, k1, hk1, cm1, hkk1⟩ := hAr N (fun j => .int (f0 j))
  have hcn := nn cn hc.1
  rw [hc.2] at hcn
  obtain ⟨vm', X', step⟩ := X.arraycopy hx hown (hts _ hw) (hts _ zw_acn) (hts _ zw_acs) (hts _ zw_aci) (src := b) (dst := a) (cs := scr) (cd := vp_cell c1 (N, .inl f0)) (srcPos := 0) (destPos := 0) (n := cn) (by rw [hT]; exact hs1) (by rw [hT]; exact hc1)
    hs6 (fun _ h => by cases h) hs3 (fun h => by cases h) hk0 hk1 hkk0 hkk1 (by simp [refKind]) (by decide) (by decide) hc.1
    (by rw [hcn, zi0, hs4]; omega)
    (by rw [hcn, zi0]; show ¬ _ > ((arrV c1 N (fun j => .int (f0 j))).slots.size : Int); rw [arrV_size]; omega)
    (fun vm₁ _ i hi => by
      rw [hc.2] at hi
      have e : scr.slots.getD ((0 : Int32).toNatClampNeg + i) .null = .int (f ((0 : Int32).toNatClampNeg + i)) := by
        rw [Array.getD_eq_getD_getElem?, hs5 _ (by rw [z0]; omega)]
        rfl
      refine ⟨?_, ?_⟩
      · rw [e]
        rfl
      · rw [e]
        exact trivial)
    (g := F0 m pc la (.int cn :: .int 0 :: .ref a :: .int 0 :: .ref b :: st)) rfl (by rw [hml]) (rest := st) rfl (by rw [hb]; exact d) r1 (by unfold zcat at r3; show 2 * 0 + _ + _ ≤ _; have hw9 : nativeFrameWords "java/lang/System" "arraycopy" 5 ≤ 20 := (by decide); omega)
  have e1 : copied scr (vp_cell c1 (N, .inl f0)) 0 0 cn = vp_cell c1 (N, .inl (va_cpy f f0 (0 : Int32).toNatClampNeg (0 : Int32).toNatClampNeg cn.toNatClampNeg)) := va_copiedX (fun z => .int z) scr c1 f f0 hs5 (by rw [z0, hc.2]; omega)
  rw [e1, z0, hc.2] at X' step
  have hl : a < H.size := (Array.getElem?_eq_some_iff.mp hc1).1
  have hheap : ((T.setVm vm').setCell a (vp_cell c1 (N, .inl (va_cpy f f0 0 0 j)))).heap = H.setIfInBounds a (vp_cell c1 (N, .inl (va_cpy f f0 0 0 j))) := by rw [← hT]; rfl
  have oq : ∀ q : Nat, q ≠ a → (H.setIfInBounds a (vp_cell c1 (N, .inl (va_cpy f f0 0 0 j))))[q]? = H[q]? := fun q hq => by simp [Array.getElem?_setIfInBounds, Ne.symm hq]
  have hin := (hS.1.in (a := a) (by rw [ha]; exact fun q => by cases q)).1
  obtain ⟨t, a1, b1⟩ := kk _ _ ⟨hS.1.put (c := some (.inl (N, .inl (va_cpy f f0 0 0 j)))) (by rw [ha]; exact fun q => by cases q) (by simp) oq ⟨c1, (show (H.setIfInBounds a _)[a]? = some _ by simp [Array.getElem?_setIfInBounds, hl]), hAr, hRA⟩ rfl, ⟨by simp; exact hS.2.1.1, fun q g1 g2 => by
      rw [oq q (fun e => g2 (by rw [e]; exact hin))]
      exact hS.2.1.2.1 q g1 g2, fun q hq => by
      rcases List.mem_append.mp hq with h | h
      · exact hS.2.1.2.2 q h
      · obtain ⟨z, -, hz⟩ := List.mem_map.mp h
        rw [← hz]
        exact hin⟩, hS.2.2⟩ _ hheap X'
  exact ⟨t, step t a1, b1⟩
theorem z_copyi (hx : p.tables.exec = Jvm.exec) (hb : c.code = cc) (hml : c.maxLocals = la.size) (hown : s.vm.findClass own = some m.cls) (hts : ∀ w ∈ zGA, w.before args s = true) (hS : zS D base h n s H locs) {x b N M j : Nat} {cn : Int32} {f f0 : Nat → Int32} (hw : Cond.methodLink own x arraycopyName ∈ zGA)
    (hb9 : h b = some (.inl (M, .inl f))) (ha : h a = some (.inl (N, .inl f0))) (hc : zix cn j) (hM : j ≤ M) (hN : j ≤ N) (r1 : 1 ≤ R.frames) (r2 : 64 ≤ R.locals) (r3 : zcat st ≤ 8) (d : decode cc pc = .ok (.invokestatic x, 3))
    (kk : ∀ H locs, zS D base (zput h a (some (.inl (N, .inl (va_cpy f f0 0 0 j))))) n s H locs → W p l e R s m args below meth c H locs cells slots Q (F0 m (pc + 3) la st)) : W p l e R s m args below meth c H locs cells slots Q (F0 m pc la (.int cn :: .int 0 :: .ref a :: .int 0 :: .ref b :: st)) := by
  have hA := hS.1.2.2.2 b
  rw [hb9] at hA
  obtain ⟨c0, h1, h2, -⟩ := hA
  exact z_copy0 hx hb hml hown hts hS hw h1 (h2 M (fun j => .int (f j))) (fun h => by cases h) (by show (arrV _ _ _).slots.size = _; rw [arrV_size]) (fun j hj => by show (arrV _ _ _).slots[_]? = _; rw [arrV_read _ _ hj]) ha hc hM hN r1 r2 r3 d kk
theorem z_copyx (hx : p.tables.exec = Jvm.exec) (hb : c.code = cc) (hml : c.maxLocals = la.size) (hown : s.vm.findClass own = some m.cls) (hts : ∀ w ∈ zGA, w.before args s = true) (hS : zS D base h n s H locs) {x t N : Nat} {f f0 : Nat → Int32} (hw : Cond.methodLink own x arraycopyName ∈ zGA)
    (ht : va_X t 7 f s s.heap ∧ t < base ∧ t < s.heap.size) (ha : h a = some (.inl (N, .inl f0))) (hN : 7 ≤ N) (r1 : 1 ≤ R.frames) (r2 : 64 ≤ R.locals) (r3 : zcat st ≤ 8) (d : decode cc pc = .ok (.invokestatic x, 3))
    (kk : ∀ H locs, zS D base (zput h a (some (.inl (N, .inl (va_cpy f f0 0 0 7))))) n s H locs → W p l e R s m args below meth c H locs cells slots Q (F0 m (pc + 3) la st)) : W p l e R s m args below meth c H locs cells slots Q (F0 m pc la (.int 7 :: .int 0 :: .ref a :: .int 0 :: .ref t :: st)) := by
  obtain ⟨⟨scr, h1, h2, h3, h4, h5⟩, h6, h7⟩ := ht
  exact z_copy0 hx hb hml hown hts hS hw (by rw [hS.2.1.2.1 t h7 (by omega)]; exact h1) h2 h3 h4 h5 ha ⟨by decide, by decide⟩ (Nat.le_refl _) hN r1 r2 r3 d kk
/-! calls -/
theorem zP_blind {As : List Value} {h : zH} {n : Nat} : FrameBlind (zP D base As h n) := by
  intro a U g mk hp
  obtain ⟨h1, h2, h3⟩ := hp
  exact ⟨h1, h2.moved (State.WarmedH.refl U) (Nat.le_refl _) (fun _ _ _ => rfl), h3.moved (Vm.Alike.refl U.vm)⟩
theorem zP_at (hK : zK base D s s.heap) (hS : zS D base h n s H locs) {As : List Value} {U : State} (hU : U.heap = H) (hW : s.WarmedH U.vm) : zP D base As h n As.toArray U :=
  ⟨rfl, hK.moved hW (by rw [hU]; exact hS.2.1.1) (by rw [hU]; exact hS.2.1.2.1), by rw [hU]; exact hS.1.moved hW.alike⟩
theorem zGood {ws : List Cond} (h : ∀ w ∈ ws, w ∈ zGA) : GoodIn zGA ws := fun w hw => ⟨h w hw, good_of_word (List.mem_filter.mp (h w hw)).2⟩
theorem zGoodC {w : Cond} (h : w ∈ zGA) : GoodIn zGA (w :: zGA) := zGood (fun v hv => by
  rcases List.mem_cons.mp hv with rfl | hv
  · exact h
  · exact hv)
theorem z_done {P : zO → zH → Nat → Prop} {mc ms : Nat} {st0 : List Value} {aa : Array Value} (hS : zS D base h n s H locs)
    (hr : vx_Run p l e R s m args below meth c H locs cells slots mc ms (F0 m pc la st0) rest (zQ D base P aa) (zXC D base P) (fun q => base ≤ q))
    (kk : ∀ v h2 n2, n ≤ n2 → P (.inl v) h2 n2 → ∀ H locs, zS D base h2 n2 s H locs → W p l e R s m args below meth c H locs (cells + mc) (slots + ms) Q (F0 m (pc + 3) la (v.toList ++ rest)))
    (kx : ∀ E h2 n2, n ≤ n2 → P (.inr E) h2 n2 → ∀ H locs q ce, zS D base h2 n2 s H locs → H[q]? = some ce → ce.vm = .none → s.vm.findClass E = some ce.cls → vx_W p l e R s m args below meth c H locs (cells + mc) (slots + ms) Q (F0 m pc la rest) q) : W p l e R s m args below meth c H locs cells slots Q (F0 m pc la st0) := by
  intro T hT X
  have hz := hS.1.1
  rcases hr T hT X with ⟨v, st₀, t, T', L, h0, X', hL, e1, e2, ⟨⟨v', h2, n2, hv, hp, hh⟩, hF⟩, st⟩ | ⟨q, st₀, t, T', L, E, ce, h0, X', hL, e1, e2, ⟨⟨h2, n2, hp, hh⟩, hF⟩, hce, hcv, hcl, st⟩
  · cases hv
    obtain ⟨k1, k2, k3⟩ := vx_keep (A1 := fun q => base ≤ q) h0 e1 hS.2.1 (fun q _ h => h) (fun q h => h) hL hF
    have hvm : t.vm.Alike s.vm := by rw [← e2]; exact X'.warmed.alike.symm
    obtain ⟨t2, a1, b1⟩ := kk v h2 n2 (by have := hh.1; rw [← e1] at this; omega) hp T'.heap (locs ++ L) ⟨by rw [e1]; exact hh.moved hvm, k3, hS.2.2⟩ T' rfl X'
    exact ⟨t2, st t2 a1, b1⟩
  · obtain ⟨k1, k2, k3⟩ := vx_keep (A1 := fun q => base ≤ q) h0 e1 hS.2.1 (fun q _ h => h) (fun q h => h) hL hF
    have hvm : t.vm.Alike s.vm := by rw [← e2]; exact X'.warmed.alike.symm
    obtain ⟨t2, a1, b1⟩ := kx E h2 n2 (by have := hh.1; rw [← e1] at this; omega) hp T'.heap (locs ++ L) q ce ⟨by rw [e1]; exact hh.moved hvm, k3, hS.2.2⟩ (by rw [e1]; exact hce) hcv hcl T' rfl X'
    exact ⟨t2, st.trans a1, b1⟩
section ZC
variable {ls : List (Nat × Value)} {nL x na dd2 mc ms maxL : Nat} {y2 : MethodName} {bytes : ByteArray} {ret : Option FieldType} {P : zO → zH → Nat → Prop} {As : List Value} {b : Nat} {host : String} {hh : List (Nat × Nat × Nat × Nat)}
theorem z_callV {ci : Nat} {fs : List Value} (hx : p.tables.exec = Jvm.exec) (hb : c.code = cc) (hml : c.maxLocals = nL) (hown : s.vm.findClass own = some m.cls) (hts : ∀ w ∈ zGA, w.before args s = true) (hK : zK base D s s.heap) (hS : zS D base h n s H locs) (hl : lv_has la nL ls)
    (hM : zCt l D base dd2 y2 (.code y2 bytes maxL ret) (.ref b :: As) h n mc ms P) (hm : zMY y2 bytes maxL ret na) (hv : zLV own x y2) (hb9 : h b = some (.inr (ci, fs))) (hcl : (vwCl[ci]?).map (fun q => q.1) = some y2.cls) (hA : As.length = na) (hst : st = As.reverse ++ .ref b :: rest)
    (q1 : dd2 + 1 ≤ R.frames) (q2 : 64 * (dd2 + 1) ≤ R.locals) (q3 : zcat rest ≤ 8) (q4 : cells + mc ≤ R.cells) (q5 : slots + ms ≤ R.slots) (d : decode cc pc = .ok (.invokevirtual x, 3))
    (kk : ∀ v h2 n2, n ≤ n2 → P (.inl v) h2 n2 → ∀ H locs, zS D base h2 n2 s H locs → W p l e R s m args below meth c H locs (cells + mc) (slots + ms) Q (F0 m (pc + 3) la (v.toList ++ rest)))
    (kx : ∀ E h2 n2, n ≤ n2 → P (.inr E) h2 n2 → ∀ H locs q ce, zS D base h2 n2 s H locs → H[q]? = some ce → ce.vm = .none → s.vm.findClass E = some ce.cls → vx_W p l e R s m args below meth c H locs (cells + mc) (slots + ms) Q (F0 m pc la rest) q) : W p l e R s m args below meth c H locs cells slots Q (F0 m pc la st) := by
  obtain ⟨m1, m2, m3, m4, m5, m6⟩ := hm
  obtain ⟨v1, v2, v3⟩ := hv
  have hB := hS.1.2.2.2 b
  rw [hb9] at hB
  obtain ⟨r, hr, -⟩ := id hB
  rw [hr] at hcl
  have hcl : r.1 = y2.cls := Option.some.inj hcl
  have hrec := va_recv (cl := vwCl) (ws := [(b, .inr (ci, fs))]) (tys := []) (q0 := 0) hK.1 (fun k q hq => by
    have hk : k < 1 := (List.getElem?_eq_some_iff.mp hq).1
    rw [show k = 0 by omega] at hq
    cases hq
    exact hB) hr rfl
  rw [hcl] at hrec
  exact z_done hS (vx_runV (As := As) (rest := rest) ⟨hx, hb, hml, hown, hts⟩ hM (cwV na hts (C := y2.cls) (zGood (fun w hw => by
    rcases List.mem_append.mp hw with hw | hw
    · simp only [List.mem_cons, List.not_mem_nil, or_false] at hw
      rcases hw with rfl | rfl | rfl | rfl <;> assumption
    · rcases List.mem_cons.mp hw with rfl | hw
      · exact m1
      · exact hw)) rfl rfl rfl ⟨rfl, m3, m4, m5⟩ ⟨q1, by show 8 + (maxL + 11) + 64 * dd2 ≤ _; omega⟩) ⟨zP_blind, hrec, fun U hU hW => zP_at hK hS hU hW⟩ rfl hA hl.1 hst (by show 2 * 0 + _ ≤ 8; unfold zcat at q3; omega) d ⟨q4, q5⟩) kk kx
theorem z_callS (hx : p.tables.exec = Jvm.exec) (hb : c.code = cc) (hml : c.maxLocals = nL) (hown : s.vm.findClass own = some m.cls) (hts : ∀ w ∈ zGA, w.before args s = true) (hK : zK base D s s.heap) (hS : zS D base h n s H locs) (hl : lv_has la nL ls)
    (hM : zCt l D base dd2 y2 (.code y2 bytes maxL ret) As h n mc ms P) (hm : zMY y2 bytes maxL ret na) (hv : zLS own x y2) (hA : As.length = na) (hst : st = As.reverse ++ rest)
    (q1 : dd2 + 1 ≤ R.frames) (q2 : 64 * (dd2 + 1) ≤ R.locals) (q3 : zcat rest ≤ 8) (q4 : cells + mc ≤ R.cells) (q5 : slots + ms ≤ R.slots) (d : decode cc pc = .ok (.invokestatic x, 3))
    (kk : ∀ v h2 n2, n ≤ n2 → P (.inl v) h2 n2 → ∀ H locs, zS D base h2 n2 s H locs → W p l e R s m args below meth c H locs (cells + mc) (slots + ms) Q (F0 m (pc + 3) la (v.toList ++ rest)))
    (kx : ∀ E h2 n2, n ≤ n2 → P (.inr E) h2 n2 → ∀ H locs q ce, zS D base h2 n2 s H locs → H[q]? = some ce → ce.vm = .none → s.vm.findClass E = some ce.cls → vx_W p l e R s m args below meth c H locs (cells + mc) (slots + ms) Q (F0 m pc la rest) q) : W p l e R s m args below meth c H locs cells slots Q (F0 m pc la st) := by
  obtain ⟨m1, m2, m3, m4, m5, m6⟩ := hm
  obtain ⟨v1, v2⟩ := hv
  exact z_done hS (vx_runS (As := As) (rest := rest) ⟨hx, hb, hml, hown, hts⟩ hM ⟨callB_of na hts (zGoodC m1) rfl rfl rfl (hts _ m2) (hts _ v1) ⟨m3, m4, m5⟩ ⟨q1, by show 8 + (maxL + 11) + 64 * dd2 ≤ _; omega⟩, hts _ v2⟩ ⟨zP_blind, fun U hU hW => zP_at hK hS hU hW⟩ rfl hA hl.1 hst (by show 2 * 0 + _ ≤ 8; unfold zcat at q3; omega) d ⟨q4, q5⟩) kk kx
theorem z_callSH (hx : p.tables.exec = Jvm.exec) (hb : c.code = cc) (hml : c.maxLocals = nL) (hown : s.vm.findClass own = some m.cls) (hts : ∀ w ∈ zGA, w.before args s = true) (hK : zK base D s s.heap) (hS : zS D base h n s H locs) (hl : lv_has la nL ls)
    (hM : zCt l D base dd2 y2 (.codeWith y2 bytes maxL ret hh) As h n mc ms P) (hm : zMH y2 bytes maxL ret hh na) (hv : zLS own x y2) (hA : As.length = na) (hst : st = As.reverse ++ rest)
    (q1 : dd2 + 1 ≤ R.frames) (q2 : 64 * (dd2 + 1) ≤ R.locals) (q3 : zcat rest ≤ 8) (q4 : cells + mc ≤ R.cells) (q5 : slots + ms ≤ R.slots) (d : decode cc pc = .ok (.invokestatic x, 3))
    (kk : ∀ v h2 n2, n ≤ n2 → P (.inl v) h2 n2 → ∀ H locs, zS D base h2 n2 s H locs → W p l e R s m args below meth c H locs (cells + mc) (slots + ms) Q (F0 m (pc + 3) la (v.toList ++ rest)))
    (kx : ∀ E h2 n2, n ≤ n2 → P (.inr E) h2 n2 → ∀ H locs q ce, zS D base h2 n2 s H locs → H[q]? = some ce → ce.vm = .none → s.vm.findClass E = some ce.cls → vx_W p l e R s m args below meth c H locs (cells + mc) (slots + ms) Q (F0 m pc la rest) q) : W p l e R s m args below meth c H locs cells slots Q (F0 m pc la st) := by
  obtain ⟨m1, m2, m3, m4, m5, m6⟩ := hm
  obtain ⟨v1, v2⟩ := hv
  refine z_done hS (vx_runSX (hh := hh) (bytes := bytes) (maxL := maxL) (ret := ret) (n := na) (As := As) (rest := rest) ⟨hx, hb, hml, hown, hts⟩ hM ?_ ⟨zP_blind, fun U hU hW => zP_at hK hS hU hW⟩ rfl hA hl.1 hst (by show 2 * 0 + _ ≤ 8; unfold zcat at q3; omega) d ⟨q4, q5⟩) kk kx
  refine ⟨⟨rfl, rfl, q1, by show 8 + (maxL + 11) + 64 * dd2 ≤ _; omega, pay_in hts (zGoodC m1), List.mem_cons_self⟩, hts _ m1, hts _ m2, ⟨m3, m4⟩, fun sig h => ?_, hts _ v1, hts _ v2⟩
  rw [h] at m5
  exact (Option.some.inj m5).symm
theorem z_callSN (hx : p.tables.exec = Jvm.exec) (hb : c.code = cc) (hml : c.maxLocals = nL) (hown : s.vm.findClass own = some m.cls) (hts : ∀ w ∈ zGA, w.before args s = true) (hK : zK base D s s.heap) (hS : zS D base h n s H locs) (hl : lv_has la nL ls)
    (hM : zCt l D base dd2 y2 (.code y2 bytes maxL ret) As h n mc ms P) (hm : zMY y2 bytes maxL ret na) (hv : zLSN own x y2 host) (hA : As.length = na) (hst : st = As.reverse ++ rest)
    (q1 : dd2 + 1 ≤ R.frames) (q2 : 64 * (dd2 + 1) ≤ R.locals) (q3 : zcat rest ≤ 8) (q4 : cells + mc ≤ R.cells) (q5 : slots + ms ≤ R.slots) (d : decode cc pc = .ok (.invokestatic x, 3))
    (kk : ∀ v h2 n2, n ≤ n2 → P (.inl v) h2 n2 → ∀ H locs, zS D base h2 n2 s H locs → W p l e R s m args below meth c H locs (cells + mc) (slots + ms) Q (F0 m (pc + 3) la (v.toList ++ rest)))
    (kx : ∀ E h2 n2, n ≤ n2 → P (.inr E) h2 n2 → ∀ H locs q ce, zS D base h2 n2 s H locs → H[q]? = some ce → ce.vm = .none → s.vm.findClass E = some ce.cls → vx_W p l e R s m args below meth c H locs (cells + mc) (slots + ms) Q (F0 m pc la rest) q) : W p l e R s m args below meth c H locs cells slots Q (F0 m pc la st) := by
  obtain ⟨m1, m2, m3, m4, m5, m6⟩ := hm
  obtain ⟨v1, v2⟩ := hv
  exact z_done hS (vx_runSN (As := As) (rest := rest) ⟨hx, hb, hml, hown, hts⟩ hM ⟨va_cnB na hts (zGoodC m1) rfl rfl rfl (hK.2.1 _ v1) (hts _ m2) ⟨m3, m4, m5⟩ ⟨q1, by show 8 + (maxL + 11) + 64 * dd2 ≤ _; omega⟩, hts _ v2, trivial⟩ ⟨zP_blind, fun U hU hW => zP_at hK hS hU hW⟩ rfl hA hl.1 hst (by show 2 * 0 + _ ≤ 8; unfold zcat at q3; omega) d ⟨q4, q5⟩) kk kx
theorem z_callI (hx : p.tables.exec = Jvm.exec) (hb : c.code = cc) (hml : c.maxLocals = nL) (hown : s.vm.findClass own = some m.cls) (hts : ∀ w ∈ zGA, w.before args s = true) (hK : zK base D s s.heap) (hS : zS D base h n s H locs) (hl : lv_has la nL ls)
    (hM : zCt l D base dd2 y2 (.code y2 bytes maxL none) (.ref b :: As) h n mc ms P) (hm : zMY y2 bytes maxL none na) (hv : zLI own x y2) (hA : As.length = na) (hst : st = As.reverse ++ .ref b :: rest)
    (q1 : dd2 + 1 ≤ R.frames) (q2 : 64 * (dd2 + 1) ≤ R.locals) (q3 : zcat rest ≤ 8) (q4 : cells + mc ≤ R.cells) (q5 : slots + ms ≤ R.slots) (d : decode cc pc = .ok (.invokespecial x, 3))
    (kk : ∀ v h2 n2, n ≤ n2 → P (.inl v) h2 n2 → ∀ H locs, zS D base h2 n2 s H locs → W p l e R s m args below meth c H locs (cells + mc) (slots + ms) Q (F0 m (pc + 3) la (v.toList ++ rest)))
    (kx : ∀ E h2 n2, n ≤ n2 → P (.inr E) h2 n2 → ∀ H locs q ce, zS D base h2 n2 s H locs → H[q]? = some ce → ce.vm = .none → s.vm.findClass E = some ce.cls → vx_W p l e R s m args below meth c H locs (cells + mc) (slots + ms) Q (F0 m pc la rest) q) : W p l e R s m args below meth c H locs cells slots Q (F0 m pc la st) := by
  obtain ⟨m1, m2, m3, m4, m5, m6⟩ := hm
  obtain ⟨v1, v2, v3⟩ := hv
  exact z_done hS (vx_runI (As := As) (rest := rest) ⟨hx, hb, hml, hown, hts⟩ hM ⟨callB_of na hts (zGoodC m1) rfl rfl rfl (hts _ m2) (hts _ v1) ⟨m3, m4, m5⟩ ⟨q1, by show 8 + (maxL + 11) + 64 * dd2 ≤ _; omega⟩, v3, hts _ v2⟩ ⟨zP_blind, fun U hU hW => zP_at hK hS hU hW⟩ rfl hA hl.1 hst (by show 2 * 0 + _ ≤ 8; unfold zcat at q3; omega) d ⟨q4, q5⟩) kk kx
theorem z_callIN (hx : p.tables.exec = Jvm.exec) (hb : c.code = cc) (hml : c.maxLocals = nL) (hown : s.vm.findClass own = some m.cls) (hts : ∀ w ∈ zGA, w.before args s = true) (hK : zK base D s s.heap) (hS : zS D base h n s H locs) (hl : lv_has la nL ls)
    (hM : zCt l D base dd2 y2 (.code y2 bytes maxL none) (.ref b :: As) h n mc ms P) (hm : zMY y2 bytes maxL none na) (hv : zLIN own x y2 host) (hA : As.length = na) (hst : st = As.reverse ++ .ref b :: rest)
    (q1 : dd2 + 1 ≤ R.frames) (q2 : 64 * (dd2 + 1) ≤ R.locals) (q3 : zcat rest ≤ 8) (q4 : cells + mc ≤ R.cells) (q5 : slots + ms ≤ R.slots) (d : decode cc pc = .ok (.invokespecial x, 3))
    (kk : ∀ v h2 n2, n ≤ n2 → P (.inl v) h2 n2 → ∀ H locs, zS D base h2 n2 s H locs → W p l e R s m args below meth c H locs (cells + mc) (slots + ms) Q (F0 m (pc + 3) la (v.toList ++ rest)))
    (kx : ∀ E h2 n2, n ≤ n2 → P (.inr E) h2 n2 → ∀ H locs q ce, zS D base h2 n2 s H locs → H[q]? = some ce → ce.vm = .none → s.vm.findClass E = some ce.cls → vx_W p l e R s m args below meth c H locs (cells + mc) (slots + ms) Q (F0 m pc la rest) q) : W p l e R s m args below meth c H locs cells slots Q (F0 m pc la st) := by
  obtain ⟨m1, m2, m3, m4, m5, m6⟩ := hm
  obtain ⟨v1, v2, v3⟩ := hv
  exact z_done hS (vx_runIN (As := As) (rest := rest) ⟨hx, hb, hml, hown, hts⟩ hM ⟨va_cnB na hts (zGoodC m1) rfl rfl rfl (hK.2.1 _ v1) (hts _ m2) ⟨m3, m4, m5⟩ ⟨q1, by show 8 + (maxL + 11) + 64 * dd2 ≤ _; omega⟩, v3, hts _ v2⟩ ⟨zP_blind, fun U hU hW => zP_at hK hS hU hW⟩ rfl hA hl.1 hst (by show 2 * 0 + _ ≤ 8; unfold zcat at q3; omega) d ⟨q4, q5⟩) kk kx
end ZC
end ZR
def zSx (base : Nat) (s : State) (t : Nat) (f : Nat → Int32) : Prop := va_X t 7 f s s.heap ∧ t < base ∧ t < s.heap.size
