/-! A method that looks at the script's array, which lies ahead of 'base' -/
def zPx (D : va_G) (base b L : Nat) (xs : Nat → Int32) (As : List Value) (h : zH) (n : Nat) : Array Value → State → Prop := va_Pc As (fun U => zK base D U U.heap ∧ zHp D base h n U U.heap ∧ va_X b L xs U U.heap ∧ b < base)
theorem zPx_blind {D : va_G} {base b L : Nat} {xs : Nat → Int32} {As : List Value} {h : zH} {n : Nat} : FrameBlind (zPx D base b L xs As h n) := by
  intro a U g mk hp
  obtain ⟨h1, h2, h3, h4, h5⟩ := hp
  exact ⟨h1, h2.moved (State.WarmedH.refl U) (Nat.le_refl _) (fun _ _ _ => rfl), h3.moved (Vm.Alike.refl U.vm), va_X.moved (Vm.Alike.refl U.vm) h4, h5⟩
theorem zPx_at {D : va_G} {base b L n : Nat} {xs : Nat → Int32} {h : zH} {s : State} {H : Heap} {locs : List Loc} (hK : zK base D s s.heap) (hS : zS D base h n s H locs) (hX : va_X b L xs s s.heap) (hbb : b < base) {As : List Value} {U : State} (hU : U.heap = H) (hW : s.WarmedH U.vm) : zPx D base b L xs As h n As.toArray U :=
  ⟨rfl, hK.moved hW (by rw [hU]; exact hS.2.1.1) (by rw [hU]; exact hS.2.1.2.1), by rw [hU]; exact hS.1.moved hW.alike, va_X.moved hW.alike (va_X.kept hX (by rw [hU]; exact hS.2.1.2.1 b (by have := hS.2.2; omega) (by omega))), hbb⟩
def zCx (l : Launch) (D : va_G) (base b L : Nat) (xs : Nat → Int32) (dd : Nat) (y : MethodName) (cw : Cond) (As : List Value) (h : zH) (n mc ms : Nat) (P : zO → zH → Nat → Prop) : Prop :=
  vx_Met l y (cw :: zGA) ({ frames := dd, cells := mc, slots := ms, locals := 64 * dd }) (zPx D base b L xs As h n) (zQ D base P) (zXC D base P) mc ms (fun q => base ≤ q)
def SLD (cc : ByteArray) (V : zVT) (b N : Nat) (xs : Nat → Int32) : Prop := ∀ {pc : Nat} {ls : List (Nat × Value)} {st : List Value} {h : zH} {n k g : Nat} {i : Int32} {j : Nat}, decode cc pc = .ok (.iaload, 1) → zix i j → j < N → V (pc + 1) ls (.int (xs j) :: st) h n k g → V pc ls (.int i :: .ref b :: st) h n k g
def SLN (cc : ByteArray) (V : zVT) (b N : Nat) : Prop := ∀ {pc : Nat} {ls : List (Nat × Value)} {st : List Value} {h : zH} {n k g : Nat}, decode cc pc = .ok (.arraylength, 1) → V (pc + 1) ls (.int (nI N) :: st) h n k g → V pc ls (.ref b :: st) h n k g
theorem zCx.of {l : Launch} {D : va_G} {base b L dd : Nat} {xs : Nat → Int32} {y : MethodName} {cc : ByteArray} {maxL : Nat} {ret : Option FieldType} {As : List Value} {h : zH} {n mc ms : Nat} {P : zO → zH → Nat → Prop} (G : l.stackTraces = false) (hy : plainName y.cls = true) (hA : (lg_sl As).length ≤ maxL)
    (body : ∀ (Sx : Nat → (Nat → Int32) → Prop) (V : zVT) (X : zXT), zLaws l D base cc y.cls y ({ frames := dd, cells := mc, slots := ms, locals := 64 * dd }) maxL Sx V X → zEnds y.cls cc ({ frames := dd, cells := mc, slots := ms, locals := 64 * dd }) ret mc ms P V → SLD cc V b L xs → SLN cc V b L → V 0 (lv_args 0 As) [] h n 0 0) :
    zCx l D base b L xs dd y (.code y cc maxL ret) As h n mc ms P := by
  refine vx_ofW (cc := cc) (maxL := maxL) (ret := ret) hy rfl ?_
  intro p e s m args below meth c s₁ B hml htab hP
  obtain ⟨rfl, hK, hH, hX, hbb⟩ := hP
  have hx := B.exec
  have hb := B.bytes
  have hr := B.returns
  have hts0 := atoms_spec (ws := Cond.code y cc maxL ret :: zGA) B.pre
  have hts : ∀ w ∈ zGA, w.before As.toArray s = true := fun w hw => hts0 w (List.mem_cons_of_mem _ hw)
  have hown : s.vm.findClass y.cls = some m.cls := findClass_of_methodNamed B.named
  have hlocks := B.notSynchronized
  have hin : meth.name = y.name := (name_of_methodNamed B.named B.method).1
  have hl := lv_entry As (n := maxL) hA
  rw [lg_entry_eq]
  generalize (lg_sl As ++ List.replicate (maxL - (lg_sl As).length) Slot.unset).toArray = la at hl ⊢
  have hz := hH.1
  have hz2 := hH.2.1
  have hbl : b < s.heap.size := by omega
  have hbA : ¬ (fun q : Nat => base ≤ q) b := Nat.not_le.mpr hbb
  refine body _ _ _ (zLaws.of hx hb hml hown hts hin hK) (zEnds.of hx hb hr hlocks) ?_ ?_ s.heap [] la hl ⟨hH, va_S.rf, by omega⟩
  · intro pc ls st h n k g i j d hz hj kk H locs la hl hS
    refine va_sld hx hb hX hbl hbA hS.2.1 (hz.in hj) d ?_
    rw [hz.2]
    exact kk H locs la hl hS
  · intro pc ls st h n k g d kk H locs la hl hS
    exact va_slen hx hb hX hbl hbA hS.2.1 d (kk H locs la hl hS)
theorem z_callX {p : Program} {l : Launch} {e : Env} {R : Room} {s : State} {m : MethodId} {args : Array Value} {below : List Frame} {meth : Method} {c : Code} {H : Heap} {locs : List Loc} {cells slots : Nat} {Q : State → Prop} {cc : ByteArray} {pc n : Nat} {la : Array Slot} {st rest : List Value} {D : va_G} {base b L : Nat} {xs : Nat → Int32} {h : zH} {own : String}
    {ls : List (Nat × Value)} {nL x na dd2 mc ms maxL : Nat} {y2 : MethodName} {bytes : ByteArray} {ret : Option FieldType} {P : zO → zH → Nat → Prop} {As : List Value}
    (hx : p.tables.exec = Jvm.exec) (hb : c.code = cc) (hml : c.maxLocals = nL) (hown : s.vm.findClass own = some m.cls) (hts : ∀ w ∈ zGA, w.before args s = true) (hK : zK base D s s.heap) (hS : zS D base h n s H locs) (hX : va_X b L xs s s.heap) (hbb : b < base) (hl : lv_has la nL ls)
    (hM : zCx l D base b L xs dd2 y2 (.code y2 bytes maxL ret) As h n mc ms P) (hm : zMY y2 bytes maxL ret na) (hv : zLS own x y2) (hA : As.length = na) (hst : st = As.reverse ++ rest)
    (q1 : dd2 + 1 ≤ R.frames) (q2 : 64 * (dd2 + 1) ≤ R.locals) (q3 : zcat rest ≤ 8) (q4 : cells + mc ≤ R.cells) (q5 : slots + ms ≤ R.slots) (d : decode cc pc = .ok (.invokestatic x, 3))
    (kk : ∀ v h2 n2, n ≤ n2 → P (.inl v) h2 n2 → ∀ H locs, zS D base h2 n2 s H locs → W p l e R s m args below meth c H locs (cells + mc) (slots + ms) Q (F0 m (pc + 3) la (v.toList ++ rest)))
    (kx : ∀ E h2 n2, n ≤ n2 → P (.inr E) h2 n2 → ∀ H locs q ce, zS D base h2 n2 s H locs → H[q]? = some ce → ce.vm = .none → s.vm.findClass E = some ce.cls → vx_W p l e R s m args below meth c H locs (cells + mc) (slots + ms) Q (F0 m pc la rest) q) : W p l e R s m args below meth c H locs cells slots Q (F0 m pc la st) := by
  obtain ⟨m1, m2, m3, m4, m5, m6⟩ := hm
  obtain ⟨v1, v2⟩ := hv
  exact z_done hS (vx_runS (As := As) (rest := rest) ⟨hx, hb, hml, hown, hts⟩ hM ⟨callB_of na hts (zGoodC m1) rfl rfl rfl (hts _ m2) (hts _ v1) ⟨m3, m4, m5⟩ ⟨q1, by show 8 + (maxL + 11) + 64 * dd2 ≤ _; omega⟩, hts _ v2⟩ ⟨zPx_blind, fun U hU hW => zPx_at hK hS hX hbb hU hW⟩ rfl hA hl.1 hst (by show 2 * 0 + _ ≤ 8; unfold zcat at q3; omega) d ⟨q4, q5⟩) kk kx
theorem x_cell {l : Launch} {D : va_G} {base b L k n : Nat} {xs : Nat → Int32} {h : zH} (G : l.stackTraces = false) (hL : L < 2 ^ 31) (hk : k < 2 ^ 31) : zCx l D base b L xs 1 yL_cell w_L_cell [.ref b, .int (nI k)] h n 0 0 (zR (some (.int (cellL xs L k))) h n) := by
  refine zCx.of G (by decide) (Nat.le_of_ble_eq_true rfl) (fun Sx V X hV hE sld sln => ?_)
  show V 0 [(0, .ref b), (1, .int (nI k))] [] h n 0 0
  refine hV.iload_n 1 dL_cell_0 rfl ?_
  refine hV.aload_n 0 dL_cell_1 rfl ?_
  refine sln dL_cell_2 ?_
  by_cases c : L ≤ k
  · refine hV.icmp_ge_t (tgt := 12) dL_cell_3 (by decide) ((nI_leI (a := L) (b := k) (by omega) (by omega)).mpr c) ?_
    refine hV.ldc dL_cell_12 kc_L_7 ?_
    refine hV.iload_n 1 dL_cell_14 rfl ?_
    refine hV.iconst (v := 1) dL_cell_15 (by decide) ?_
    refine hV.iaddN (a := k) (b := 1) dL_cell_16 ?_
    refine hV.imulN (a := 1327217885) (b := k + 1) dL_cell_17 ?_
    exact hE.1 dL_cell_18 rfl rfl (by decide) (by decide) (zRi (by unfold cellL; rw [if_pos c]) rfl rfl)
  · refine hV.icmp_ge_f (tgt := 12) dL_cell_3 (by decide) (fun q => absurd ((nI_leI (a := L) (b := k) (by omega) (by omega)).mp q) c) ?_
    refine hV.aload_n 0 dL_cell_6 rfl ?_
    refine hV.iload_n 1 dL_cell_7 rfl ?_
    refine sld dL_cell_8 (zix_nI hk) (show k < L by omega) ?_
    refine hV.goto (tgt := 18) dL_cell_9 (by decide) ?_
    exact hE.1 dL_cell_18 rfl rfl (by decide) (by decide) (zRi (by unfold cellL; rw [if_neg c]) rfl rfl)
