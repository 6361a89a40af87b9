/-! The start: what the statement gives -/
theorem tin {w : Cond} (i : Nat) (h : tables_1[i]? = some w) : w ∈ lw_tbl := List.mem_append_right _ (List.mem_of_getElem? h)
theorem len_ex {s : State} {args : Array Value} {tm : Term} {t N : Nat} {cell : Cell} (hN : N < 2 ^ 31) (hv : (Term.length tm).eval args s none [] s = some (.int (nI N))) (ht : tm.eval args s none [] s = some (.ref t)) (hat : s.arrayAt? t = some cell) : cell.slots.size = N := by
  simp only [Term.eval, ht, hat, Option.bind_eq_bind, Option.bind_some] at hv
  by_cases hlt : cell.slots.size < 2147483648
  · rw [if_pos hlt] at hv
    have e : nI cell.slots.size = nI N := Value.int.inj (Option.some.inj hv)
    exact zI_inj hlt hN e
  · simp [hlt] at hv
/-- a static int array, as the statement's words say it -/
theorem st_arr {s : State} {args : Array Value} {nm : String} {f : Nat → Int32} (hl : (Cond.laysStatic RX4 nm "[I").before args s = true) (hini : (Cond.initialized RX4).before args s = true) (harr : (Cond.arrayOf (.static RX4 nm "[I") .int).before args s = true)
    (hlen : (Cond.eq (.length (.static RX4 nm "[I")) (.int 7)).before args s = true) (hel : ∀ j, j < 7 → (Cond.eq (.elem (.static RX4 nm "[I") (.int (Int32.ofNat j))) (.int (f j))).before args s = true) : zSt s.heap.size nm f s s.heap := by
  have hv := va_eqt hlen
  obtain ⟨t, cell, ht, hat, -⟩ := Term.length_spec hv
  obtain ⟨hcell, hkn, -, -⟩ := State.arrayAt?_spec hat
  obtain ⟨hof, -⟩ := Cond.arrayOf_spec harr ht hcell
  have h7 : cell.slots.size = 7 := len_ex (N := 7) (by decide) hv ht hat
  have hlt : t < s.heap.size := (Array.getElem?_eq_some_iff.mp hcell).1
  refine ⟨t, va_Zref hl hini ht (fun a ha => by omega), ⟨cell, hcell, hof, hkn, h7, fun j hj => ?_⟩, hlt, hlt⟩
  obtain ⟨a, i, cell2, h1, h2, h3, h4, h5⟩ := Term.elem_spec (va_eqt (hel j hj))
  cases ht.symm.trans h1
  cases hat.symm.trans h3
  have hi : i = Int32.ofNat j := by
    have e : (Term.int (Int32.ofNat j)).eval args s none [] s = some (.int (Int32.ofNat j)) := rfl
    cases h2.symm.trans e
    rfl
  have hc : i.toNatClampNeg = j := by rw [hi]; exact Int32.toNatClampNeg_ofNat_of_lt (by omega)
  rw [hc] at h5
  exact h5
theorem st_str {s : State} {args : Array Value} {k : Nat} {tx : String} (h1 : (Cond.stringRef RX4 k tx).before args s = true) (h2 : (Cond.exactly (.string RX4 k) "java/lang/String").before args s = true) : ∃ sa, vk_R RX4 k tx sa s := by
  cases hv : (Term.string RX4 k).eval args s none [] s with
  | none => simp [Cond.before, Cond.holds, Cond.value, hv] at h2
  | some w =>
    cases w with
    | ref a => exact ⟨a, vk_R.of h1 hv⟩
    | null => cases hf : s.vm.findClass "java/lang/String" <;> simp [Cond.before, Cond.holds, Cond.value, hv, hf] at h2
    | _ => simp [Cond.before, Cond.holds, Cond.value, hv] at h2
theorem st_ng {w : Cond} {s : State} {args : Array Value} (hg : zng w = true) (h : w.before args s = true) : va_Nw w s := by
  cases w with
  | declares x => exact va_Nw.of rfl h
  | castable a b => exact va_Nw.of rfl h
  | methodLinkNest a i x b => exact va_Nw.of rfl h
  | fieldLinkNest a i b n d e => exact va_Nw.of rfl h
  | arrayOver t =>
    cases t with
    | object C => exact va_AO.of h
    | _ => cases hg
  | _ => cases hg
theorem start_K {s : State} {args : Array Value} (hts : ∀ w ∈ lw_tbl, w.before args s = true) (hgv : (Jvm.Cond.and given_1 narrow_1).before args s = true) : ∃ D, zK s.heap.size D s s.heap := by
  have htsG : ∀ w ∈ zGA, w.before args s = true := fun w hw => hts w (List.mem_filter.mp hw).1
  have hs := flat_of_before _ hgv
  have hA : ∀ a : Nat, a < s.heap.size → ¬ s.heap.size ≤ a := fun a ha => by omega
  obtain ⟨c0, i0, hk0⟩ := u_known (C := RX0) (T := TX0) (N := 10) (n := 10) htsG zin_X0 (hts _ (tin 23 (by decide +kernel)))
  obtain ⟨c1, i1, hk1⟩ := u_known (C := RX1) (T := TX1) (N := 3) (n := 3) htsG zin_X1 (hts _ (tin 76 (by decide +kernel)))
  obtain ⟨c2, i2, hk2⟩ := u_known (C := RX2) (T := TX2) (N := 3) (n := 3) htsG zin_X2 (hts _ (tin 108 (by decide +kernel)))
  obtain ⟨c3, i3, hk3⟩ := u_known (C := RX3) (T := TX3) (N := 2) (n := 2) htsG zin_X3 (hts _ (tin 95 (by decide +kernel)))
  obtain ⟨c4, i4, hk4⟩ := u_known (C := RX4) (T := TX4) (N := 6) (n := 6) htsG zin_X4 (hts _ (tin 15 (by decide +kernel)))
  have hKc : ∀ (k : Nat) (q : vw_C), vwCl[k]? = some q → u_Kn s q.1 q.2.1 q.2.2 ((fun k => if k = 0 then c0 else if k = 1 then c1 else if k = 2 then c2 else if k = 3 then c3 else c4) k) ((fun k => if k = 0 then i0 else if k = 1 then i1 else if k = 2 then i2 else if k = 3 then i3 else i4) k) := by
    intro k q hq
    match k, hq with
    | 0, hq => cases hq; exact hk0
    | 1, hq => cases hq; exact hk1
    | 2, hq => cases hq; exact hk2
    | 3, hq => cases hq; exact hk3
    | 4, hq => cases hq; exact hk4
    | k + 5, hq => simp [vwCl] at hq
  refine ⟨(fun k => if k = 0 then c0 else if k = 1 then c1 else if k = 2 then c2 else if k = 3 then c3 else c4, fun k => if k = 0 then i0 else if k = 1 then i1 else if k = 2 then i2 else if k = 3 then i3 else i4), ⟨hKc, fun k q h => by simp at h⟩, fun w hw => st_ng (List.mem_filter.mp hw).2 (hts w (List.mem_append_right _ (List.mem_filter.mp hw).1)), ?_, ?_, ?_, ?_, ?_, ?_⟩
  · have key : ∀ q ∈ zNC, Cond.not (.castable q.1 q.2) ∈ flatC (Jvm.Cond.and given_1 narrow_1) := by decide +kernel
    exact fun q hq => va_Nc.of (hs _ (key q hq))
  · have key : ∀ q ∈ zStr, Cond.stringRef RX4 q.1 q.2 ∈ tables_1 ∧ Cond.exactly (.string RX4 q.1) "java/lang/String" ∈ flatC (Jvm.Cond.and given_1 narrow_1) := by decide +kernel
    exact fun q hq => st_str (hts _ (List.mem_append_right _ (key q hq).1)) (hs _ (key q hq).2)
  · exact vx_Zqof (hts _ (tin 195 (by decide +kernel))) (hts _ (tin 8 (by decide +kernel))) (hs _ (by decide +kernel)) hA
  · exact vx_Zqof (hts _ (tin 197 (by decide +kernel))) (hts _ (tin 8 (by decide +kernel))) (hs _ (by decide +kernel)) hA
  · have key : ∀ j, j < 7 → Cond.eq (.elem (.static RX4 "FIRST_KINDS" "[I") (.int (Int32.ofNat j))) (.int (zfk j)) ∈ flatC (Jvm.Cond.and given_1 narrow_1) := by decide +kernel
    exact st_arr (hts _ (tin 32 (by decide +kernel))) (hts _ (tin 1 (by decide +kernel))) (hs _ (by decide +kernel)) (hs _ (by decide +kernel)) (fun j hj => hs _ (key j hj))
  · have key : ∀ j, j < 7 → Cond.eq (.elem (.static RX4 "FIRST_PAYS" "[I") (.int (Int32.ofNat j))) (.int (zfp j)) ∈ flatC (Jvm.Cond.and given_1 narrow_1) := by decide +kernel
    exact st_arr (hts _ (tin 37 (by decide +kernel))) (hts _ (tin 1 (by decide +kernel))) (hs _ (by decide +kernel)) (hs _ (by decide +kernel)) (fun j hj => hs _ (key j hj))

