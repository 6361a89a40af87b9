def zEr : List String := ["java/lang/RuntimeException", "java/lang/Exception"]
/-- what a throw of a new cls(text) wants of the words -/
def zTH (ik is ic : Nat) (cls text : String) : Prop := Bundle.fit cls = true ∧ (∀ w ∈ Cond.classLink RX4 ik cls :: Cond.initialized cls :: vx_atS RX4 ic cls zEr, vx_ot w = true) ∧ Cond.classLink RX4 ik cls ∈ zGA ∧ Cond.initialized cls ∈ zGA ∧ (is, text) ∈ zStr ∧
  (∀ w ∈ (vx_atS RX4 ic cls zEr).filter goodWord, w ∈ zGA) ∧ (∀ w ∈ (vx_atS RX4 ic cls zEr).filter (fun w => !goodWord w), w ∈ zNG)
def zEnds (own : String) (cc : ByteArray) (R : Room) (ret : Option FieldType) (mc ms : Nat) (P : zO → zH → Nat → Prop) (V : zVT) : Prop :=
  (∀ {pc : Nat} {ls : List (Nat × Value)} {h : zH} {n k g : Nat} {v : Int32} {ty : FieldType}, decode cc pc = .ok (.ireturn, 1) → ret = some ty → narrow ty (.int v) = .int v → k ≤ mc → g ≤ ms → P (.inl (some (.int v))) h n → V pc ls [.int v] h n k g) ∧
  (∀ {pc : Nat} {ls : List (Nat × Value)} {h : zH} {n k g : Nat} {v : Int64}, decode cc pc = .ok (.lreturn, 1) → ret = some .long → k ≤ mc → g ≤ ms → P (.inl (some (.long v))) h n → V pc ls [.long v] h n k g) ∧
  (∀ {pc : Nat} {ls : List (Nat × Value)} {h : zH} {n k g : Nat} {v : UInt64}, decode cc pc = .ok (.dreturn, 1) → ret = some .double → k ≤ mc → g ≤ ms → P (.inl (some (.double v))) h n → V pc ls [.double v] h n k g) ∧
  (∀ {pc : Nat} {ls : List (Nat × Value)} {h : zH} {n k g : Nat}, decode cc pc = .ok (.return_, 1) → ret = none → k ≤ mc → g ≤ ms → P (.inl none) h n → V pc ls [] h n k g)
def zEndX (own : String) (cc : ByteArray) (R : Room) (mc ms : Nat) (P : zO → zH → Nat → Prop) (V : zVT) (X : zXT) : Prop :=
  (∀ {pc : Nat} {ls : List (Nat × Value)} {st : List Value} {h : zH} {n k g ik is ic : Nat} {cls text : String}, own = RX4 → zTH ik is ic cls text → decode cc pc = .ok (.new ik, 3) → decode cc (pc + 3) = .ok (.dup, 1) → decode cc (pc + 4) = .ok (.ldc is, 2) → decode cc (pc + 6) = .ok (.invokespecial ic, 3) → decode cc (pc + 9) = .ok (.athrow, 1) →
    6 ≤ R.frames → 128 ≤ R.locals → zcat st ≤ 8 → k + 1 ≤ R.cells → g + 6 ≤ R.slots → k + 1 ≤ mc → g + 6 ≤ ms → (∀ n2, n ≤ n2 → P (.inr cls) h n2) → V pc ls st h n k g) ∧
  (∀ {pc : Nat} {ls : List (Nat × Value)} {st : List Value} {h : zH} {n k g : Nat} {E : String}, k ≤ mc → g ≤ ms → P (.inr E) h n → X pc ls st h n k g E)
section ZE
variable {p : Program} {l : Launch} {e : Env} {R : Room} {s : State} {m : MethodId} {args : Array Value} {below : List Frame} {meth : Method} {c : Code} {D : va_G} {base : Nat} {cc : ByteArray} {own : String} {nL mc ms : Nat} {ret : Option FieldType} {P : zO → zH → Nat → Prop} {X : zXT}
theorem zQ_end {h : zH} {n : Nat} {H : Heap} {locs : List Loc} {v : Option Value} (hS : zS D base h n s H locs) (hp : P (.inl v) h n) {aa : Array Value} (t : State) (ht : t.heap = H) (hW : s.WarmedH t.vm) : zQ D base P aa s (.returned v) t :=
  ⟨⟨v, h, n, rfl, hp, by rw [ht]; exact hS.1.moved hW.alike⟩, hS.2.1.F ht⟩
theorem zEnds.of (hx : p.tables.exec = Jvm.exec) (hb : c.code = cc) (hr : meth.sig.returnType = ret) (hlocks : meth.locks = false) : zEnds own cc R ret mc ms P (zV p l e R s m args below meth c (vx_MQ below (zQ D base P) (zXC D base P) args s mc ms (fun q => base ≤ q)) D base nL) := by
  refine ⟨?_, ?_, ?_, ?_⟩
  · intro pc ls h n k g v ty d e1 e2 hk hg hp H locs la hl hS
    exact vx_ret (W.widen hk hg (W.zret hx hb (hr.trans e1) e2 (fun t ht hW => zQ_end hS hp t ht hW) hS.2.1.2.2 d hlocks))
  · intro pc ls h n k g v d e1 hk hg hp H locs la hl hS
    exact vx_ret (W.widen hk hg (W.lret hx hb (hr.trans e1) (fun t ht hW => zQ_end hS hp t ht hW) hS.2.1.2.2 d hlocks))
  · intro pc ls h n k g v d e1 hk hg hp H locs la hl hS
    exact vx_ret (W.widen hk hg (W.dret hx hb (hr.trans e1) (fun t ht hW => zQ_end hS hp t ht hW) hS.2.1.2.2 d hlocks))
  · intro pc ls h n k g d e1 hk hg hp H locs la hl hS
    exact vx_ret (W.widen hk hg (W.vret hx hb (hr.trans e1) (fun t ht hW => zQ_end hS hp t ht hW) hS.2.1.2.2 d hlocks))
theorem zHp.grow {h : zH} {n : Nat} {H H1 : Heap} {U u : State} (hh : zHp D base h n u H) (hvm : u.vm.Alike U.vm) (hz : H.size ≤ H1.size) (hq : ∀ q : Nat, q < H.size → H1[q]? = H[q]?) : zHp D base h H1.size U H1 := by
  have h1 := hh.1
  have h2 := hh.2.1
  refine ⟨rfl, by omega, fun a ha => hh.2.2.1 a (by omega), fun a => ?_⟩
  by_cases hc : h a = none
  · rw [hc]; trivial
  · have := (hh.in hc).2
    exact ((hh.2.2.2 a).kept (hq a (by omega))).moved hvm
theorem zEndX.of (hx : p.tables.exec = Jvm.exec) (hb : c.code = cc) (hml : c.maxLocals = nL) (hown : s.vm.findClass own = some m.cls) (hts : ∀ w ∈ zGA, w.before args s = true) (hK : zK base D s s.heap) (hlocks : meth.locks = false) (hst : l.stackTraces = false) (htab : ∀ x ∈ c.exceptionTable.toList, False) :
    zEndX own cc R mc ms P (zV p l e R s m args below meth c (vx_MQ below (zQ D base P) (zXC D base P) args s mc ms (fun q => base ≤ q)) D base nL) (zX p l e R s m args below meth c (vx_MQ below (zQ D base P) (zXC D base P) args s mc ms (fun q => base ≤ q)) D base nL) := by
  refine ⟨?_, ?_⟩
  · intro pc ls st h n k g ik is ic cls text ho hT d0 d3 d4 d6 d9 r1 r2 r3 r4 r5 r6 r7 hp H locs la hl hS
    subst ho
    obtain ⟨t1, t2, t3, t4, t5, t6, t7⟩ := hT
    obtain ⟨sa, hsa⟩ := hK.2.2.2.1 _ t5
    refine vx_throwS (names := zEr) (A := fun q => base ≤ q) hx hb hst hown t1 (by decide +kernel) (hts _ t3) (hts _ t4) hsa (vx_hat (fun w hw => hts w (t6 w hw)) (B := zNG) t7 (fun w hw => zng_use (List.mem_filter.mp hw).2 (hK.2.1 w hw))) t2 hK.2.2.2.2.1 hK.2.2.2.2.2.1 hS.2.1 (hl.1.trans hml.symm) d0 d3 d4 d6 d9 (fun x hx => absurd hx (fun hx => htab x hx)) (by show 2 + 3 < _; omega) (by unfold zcat at r3; show _ + (13 * (2 + 1) + 43) ≤ _; omega) r4 r5 hlocks ?_ hS.2.1.2.2 r6 r7
    intro t hvm hz hq
    exact ⟨⟨h, t.heap.size, hp _ (by have := hS.1.1; omega), hS.1.grow hvm hz hq⟩, by have := hS.2.1.1; omega, fun q h1 h2 => by
      rw [hq q (Nat.lt_of_lt_of_le h1 hS.2.1.1)]
      exact hS.2.1.2.1 q h1 h2⟩
  · intro pc ls st h n k g E hk hg hp H locs la q ce hl hS h1 h2 h3
    exact vx_out (fun x hx => absurd hx (fun hx => htab x hx)) hlocks h1 h2 h3 (fun t ht hvm => ⟨⟨h, n, hp, by rw [ht]; exact hS.1.moved hvm⟩, hS.2.1.F ht⟩) hS.2.1.2.2 hk hg
end ZE
/-- a contract from a walk in V: a body without handlers -/
theorem zCt.of {l : Launch} {D : va_G} {base dd : Nat} {y : MethodName} {cc : ByteArray} {maxL : Nat} {ret : Option FieldType} {As : List Value} {h : zH} {n mc ms : Nat} {P : zO → zH → Nat → Prop} (G : l.stackTraces = false) (hy : plainName y.cls = true) (hA : (lg_sl As).length ≤ maxL)
    (body : ∀ (Sx : Nat → (Nat → Int32) → Prop) (V : zVT) (X : zXT), zLaws l D base cc y.cls y ({ frames := dd, cells := mc, slots := ms, locals := 64 * dd }) maxL Sx V X → zEnds y.cls cc ({ frames := dd, cells := mc, slots := ms, locals := 64 * dd }) ret mc ms P V → zEndX y.cls cc ({ frames := dd, cells := mc, slots := ms, locals := 64 * dd }) mc ms P V X → V 0 (lv_args 0 As) [] h n 0 0) :
    zCt l D base dd y (.code y cc maxL ret) As h n mc ms P := by
  refine vx_ofW (cc := cc) (maxL := maxL) (ret := ret) hy rfl ?_
  intro p e s m args below meth c s₁ B hml htab hP
  obtain ⟨rfl, hK, hH⟩ := hP
  have hx := B.exec
  have hb := B.bytes
  have hr := B.returns
  have hts0 := atoms_spec (ws := Cond.code y cc maxL ret :: zGA) B.pre
  have hts : ∀ w ∈ zGA, w.before As.toArray s = true := fun w hw => hts0 w (List.mem_cons_of_mem _ hw)
  have hown : s.vm.findClass y.cls = some m.cls := findClass_of_methodNamed B.named
  have hlocks := B.notSynchronized
  have hin : meth.name = y.name := (name_of_methodNamed B.named B.method).1
  have hl := lv_entry As (n := maxL) hA
  rw [lg_entry_eq]
  generalize (lg_sl As ++ List.replicate (maxL - (lg_sl As).length) Slot.unset).toArray = la at hl ⊢
  have hz := hH.1
  exact body _ _ _ (zLaws.of hx hb hml hown hts hin hK) (zEnds.of hx hb hr hlocks) (zEndX.of hx hb hml hown hts hK hlocks G htab) s.heap [] la hl ⟨hH, va_S.rf, by have := hH.2.1; omega⟩
/-- the same, of a body with handlers -/
theorem zCt.ofH {l : Launch} {D : va_G} {base dd : Nat} {y : MethodName} {cc : ByteArray} {maxL : Nat} {ret : Option FieldType} {hh : List (Nat × Nat × Nat × Nat)} {As : List Value} {h : zH} {n mc ms : Nat} {P : zO → zH → Nat → Prop} (hy : plainName y.cls = true) (hA : (lg_sl As).length ≤ maxL)
    (body : ∀ (Sx : Nat → (Nat → Int32) → Prop) (V : zVT) (X : zXT), zLaws l D base cc y.cls y ({ frames := dd, cells := mc, slots := ms, locals := 64 * dd }) maxL Sx V X → zEnds y.cls cc ({ frames := dd, cells := mc, slots := ms, locals := 64 * dd }) ret mc ms P V →
      (∀ {pc : Nat} {ls : List (Nat × Value)} {st : List Value} {h : zH} {n k g : Nat} {E nm : String} (pre : List ExceptionTableEntry) (x : ExceptionTableEntry) (suf : List ExceptionTableEntry), tableOf hh = pre ++ x :: suf → (∀ z ∈ pre, covers z pc = false ∨ (z.catchType ≠ 0 ∧ ∃ nm : String, Cond.classLink y.cls z.catchType nm ∈ zGA ∧ (E, nm) ∈ zNC)) → covers x pc = true → x.catchType ≠ 0 → Cond.classLink y.cls x.catchType nm ∈ zGA → Cond.castable E nm ∈ zNG →
        (∀ q, V x.handlerPc ls [.ref q] h n k g) → X pc ls st h n k g E) → V 0 (lv_args 0 As) [] h n 0 0) :
    zCt l D base dd y (.codeWith y cc maxL ret hh) As h n mc ms P := by
  refine vx_ofWH (cc := cc) (maxL := maxL) (ret := ret) (hh := hh) hy rfl ?_
  intro p e s m args below meth c s₁ B hml hP
  obtain ⟨rfl, hK, hH⟩ := hP
  have hx := B.exec
  have hb := B.bytes
  have hr := B.returns
  have hts0 := atoms_spec (ws := Cond.codeWith y cc maxL ret hh :: zGA) B.pre
  have hts : ∀ w ∈ zGA, w.before As.toArray s = true := fun w hw => hts0 w (List.mem_cons_of_mem _ hw)
  have htab := vx_table (x := y) B (hts0 _ List.mem_cons_self)
  have hown : s.vm.findClass y.cls = some m.cls := findClass_of_methodNamed B.named
  have hlocks := B.notSynchronized
  have hin : meth.name = y.name := (name_of_methodNamed B.named B.method).1
  have hl := lv_entry As (n := maxL) hA
  rw [lg_entry_eq]
  generalize (lg_sl As ++ List.replicate (maxL - (lg_sl As).length) Slot.unset).toArray = la at hl ⊢
  have hz := hH.1
  refine body _ _ _ (zLaws.of hx hb hml hown hts hin hK) (zEnds.of hx hb hr hlocks) ?_ s.heap [] la hl ⟨hH, va_S.rf, by have := hH.2.1; omega⟩
  intro pc ls st h n k g E nm pre x suf e1 e2 e3 e4 e5 e6 kk H locs la q ce hl hS h1 h2 h3
  exact vx_catch hown pre x suf (htab.trans e1) (fun z hz => (e2 z hz).imp (fun q => q) (fun ⟨a1, nm, a2, a3⟩ => ⟨a1, nm, hts _ a2, hK.2.2.1 _ a3⟩)) e3 e4 (hts _ e5) (va_Nw.use rfl (hK.2.1 _ e6)) h1 h2 h3 (kk q H locs la hl hS)
/-- a call whose end is one: it returns r, the heap is h2 -/
theorem zR_x {r : Option Value} {h2 : zH} {n2 : Nat} {E : String} {a : zH} {b : Nat} {Q : Prop} (h : zR r h2 n2 (.inr E) a b) : Q := by cases h.1
theorem zR_v {r v : Option Value} {h2 a : zH} {n2 b : Nat} (h : zR r h2 n2 (.inl v) a b) : v = r ∧ a = h2 ∧ b = n2 := ⟨Sum.inl.inj h.1, h.2.1, h.2.2⟩
