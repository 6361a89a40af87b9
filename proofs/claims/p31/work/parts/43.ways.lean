/-! Ways: row by row, and step by step -/
theorem rowN_f {f f2 g : Nat → Int32} {r : Nat} {x : Nat → Int32} (h : ∀ i, i < 56 → f i = f2 i) (hr : r < 8) : ∀ c, c ≤ 7 → rowN f g r x c = rowN f2 g r x c
  | 0, _ => rfl
  | c + 1, hc => by
    simp only [rowN]
    rw [rowN_f h hr c (by omega), h (r * 7 + c) (by omega)]
def gN (f : Nat → Int32) (c : Nat) : Nat → Nat → Int32
  | 0 => fun k => if k = c then 1 else 0
  | r + 1 => rowN f (gN f c r) r (fun _ => 0) 7
theorem gN_f {f f2 : Nat → Int32} {c : Nat} (h : ∀ i, i < 56 → f i = f2 i) : ∀ r, r ≤ 8 → gN f c r = gN f2 c r
  | 0, _ => rfl
  | r + 1, hr => by
    simp only [gN]
    rw [gN_f h r (by omega), rowN_f h (by omega) 7 (by omega)]
theorem cv_gN {β : zB} {c : Nat} {k : Nat} (hk : k < 7) : cv β c k = gN (β 1) c 8 k := by
  have key : ∀ r k, k < 7 → cbrN (β 1) (sa z0 0 (va_up (filF (z0 0) 7 0) c 1)) r 0 k = gN (β 1) c r k := by
    intro r
    induction r with
    | zero =>
      intro k hk
      show sa z0 0 (va_up (filF (z0 0) 7 0) c 1) 0 k = if k = c then 1 else 0
      rw [saat]
      unfold va_up filF
      rw [if_pos hk]
    | succ r ih =>
      intro k hk
      show rowP (β 1) r (cbrN (β 1) _ r) 0 k = rowN (β 1) (gN (β 1) c r) r (fun _ => 0) 7 k
      rw [rowP_0 hk]
      exact rowN_ind ih (fun k hk => by unfold filF; rw [if_pos hk]) 7 (by omega) k hk
  exact key 8 k hk
theorem wv_gN {z : zZ} {c : Nat} {k : Nat} (hk : k < 7) : wv z c k = gN (pinF z) c 8 k := by
  have key : ∀ r k, k < 7 → (fwN z (ehF (fun _ => 0) c 7, fun _ => 0) r).1 k = gN (pinF z) c r k := by
    intro r
    induction r with
    | zero =>
      intro k hk
      show ehF (fun _ => 0) c 7 k = if k = c then 1 else 0
      unfold ehF
      rw [if_pos hk]
    | succ r ih =>
      intro k hk
      show (fwS z r (fwN z _ r)).1 k = rowN (pinF z) (gN (pinF z) c r) r (fun _ => 0) 7 k
      unfold fwS cpz
      dsimp only
      rw [if_pos hk]
      exact rowN_ind ih (fun k hk => by unfold filF; rw [if_pos hk]) 7 (by omega) k hk
  exact key 8 k hk
theorem cv_wv {β : zB} {z : zZ} (h : RV β z) {c k : Nat} (hk : k < 7) : cv β c k = wv z c k := by
  rw [cv_gN hk, wv_gN hk, gN_f (f := β 1) (f2 := pinF z) (fun i hi => h.p hi) 8 (by omega)]
/-! step by step -/
def goW (f : Nat → Int32) : Nat → Nat → Nat → Int32
  | 0, c, k => if k = c then 1 else 0
  | d + 1, c, k => (if 0 < f ((7 - d) * 7 + c) then 0 else goW f d (bnc c (-1)) k) + (if f ((7 - d) * 7 + c) < 0 then 0 else goW f d (bnc c 1) k)
theorem goF_W {f : Nat → Int32} : ∀ (d c : Nat) (e : Nat → Int32) (k : Nat), goF f d c e k = e k + goW f d c k
  | 0, c, e, k => by
    show va_up e c (e c + 1) k = e k + if k = c then 1 else 0
    by_cases h : k = c
    · subst h; rw [vat, if_pos rfl]
    · rw [va_ne h, if_neg h, Int32.add_zero]
  | d + 1, c, e, k => by
    simp only [goF, goW]
    by_cases h1 : f ((7 - d) * 7 + c) < 0
    · rw [if_pos h1, if_pos h1]
      by_cases h2 : 0 < f ((7 - d) * 7 + c)
      · rw [if_pos h2, if_pos h2, Int32.add_zero, Int32.add_zero]
      · rw [if_neg h2, if_neg h2, goF_W, Int32.add_zero]
    · rw [if_neg h1, if_neg h1, goF_W]
      by_cases h2 : 0 < f ((7 - d) * 7 + c)
      · rw [if_pos h2, if_pos h2, Int32.zero_add]
      · rw [if_neg h2, if_neg h2, goF_W, Int32.add_assoc]
def sm (x w : Nat → Int32) : Nat → Int32
  | 0 => 0
  | n + 1 => sm x w n + x n * w n
theorem sm_up {x w : Nat → Int32} {j : Nat} {v : Int32} : ∀ n, sm (va_up x j (x j + v)) w n = sm x w n + if j < n then v * w j else 0
  | 0 => by rw [if_neg (by omega)]; rfl
  | n + 1 => by
    simp only [sm]
    rw [sm_up n]
    by_cases e : n = j
    · subst e
      rw [if_neg (by omega), if_pos (by omega), vat, Int32.add_zero, Int32.add_mul, Int32.add_assoc]
    · rw [va_ne e]
      by_cases c : j < n
      · rw [if_pos c, if_pos (by omega), Int32.add_assoc, Int32.add_assoc, Int32.add_comm (v * w j)]
      · rw [if_neg c, if_neg (by omega), Int32.add_zero, Int32.add_zero]
theorem sm_0 {w : Nat → Int32} : ∀ n, sm (fun _ => 0) w n = 0
  | 0 => rfl
  | n + 1 => by
    simp only [sm]
    rw [sm_0 n, Int32.zero_mul, Int32.add_zero]
theorem sm_1 {w : Nat → Int32} {c : Nat} : ∀ n, sm (fun k => if k = c then 1 else 0) w n = if c < n then w c else 0
  | 0 => by rw [if_neg (by omega)]; rfl
  | n + 1 => by
    simp only [sm]
    rw [sm_1 n]
    by_cases e : n = c
    · subst e
      rw [if_neg (by omega), if_pos rfl, if_pos (by omega), Int32.zero_add, Int32.one_mul]
    · rw [if_neg e, Int32.zero_mul, Int32.add_zero]
      by_cases c2 : c < n
      · rw [if_pos c2, if_pos (by omega)]
      · rw [if_neg c2, if_neg (by omega)]
theorem sm_2 {x : Nat → Int32} {k : Nat} : ∀ n, sm x (fun c => if k = c then 1 else 0) n = if k < n then x k else 0
  | 0 => by rw [if_neg (by omega)]; rfl
  | n + 1 => by
    simp only [sm]
    rw [sm_2 n]
    by_cases e : k = n
    · subst e
      rw [if_neg (by omega), if_pos rfl, if_pos (by omega), Int32.zero_add, Int32.mul_one]
    · rw [if_neg e, Int32.mul_zero, Int32.add_zero]
      by_cases c2 : k < n
      · rw [if_pos c2, if_pos (by omega)]
      · rw [if_neg c2, if_neg (by omega)]
/-- what the steps of the pin at c bring -/
def stT (f : Nat → Int32) (r : Nat) (w : Nat → Int32) (c : Nat) : Int32 := (if 0 < f (r * 7 + c) then 0 else w (bnc c (-1))) + (if f (r * 7 + c) < 0 then 0 else w (bnc c 1))
theorem sm_row {f g w : Nat → Int32} {r : Nat} : ∀ c, c ≤ 7 → sm (rowN f g r (fun _ => 0) c) w 7 = sm g (stT f r w) c
  | 0, _ => sm_0 7
  | c + 1, hc => by
    have b1 := bnc_lt (c := c) (s := 1) (by omega)
    have b2 := bnc_lt (c := c) (s := -1) (by omega)
    show sm (rowN f g r (fun _ => 0) (c + 1)) w 7 = sm g (stT f r w) c + g c * stT f r w c
    simp only [rowN]
    rw [← sm_row c (by omega)]
    unfold stT
    by_cases h1 : f (r * 7 + c) < 0
    · rw [if_pos h1, if_pos h1, Int32.add_zero]
      by_cases h2 : 0 < f (r * 7 + c)
      · rw [if_pos h2, if_pos h2, Int32.mul_zero, Int32.add_zero]
      · rw [if_neg h2, if_neg h2, sm_up, if_pos b2]
    · rw [if_neg h1, if_neg h1, sm_up, if_pos b1]
      by_cases h2 : 0 < f (r * 7 + c)
      · rw [if_pos h2, if_pos h2, Int32.zero_add]
      · rw [if_neg h2, if_neg h2, sm_up, if_pos b2, Int32.mul_add, Int32.add_assoc]
theorem goW_gN {f : Nat → Int32} {c k : Nat} (hc : c < 7) (hk : k < 7) : goW f 8 c k = gN f c 8 k := by
  have key : ∀ r, r ≤ 8 → sm (gN f c r) (fun j => goW f (8 - r) j k) 7 = goW f 8 c k := by
    intro r
    induction r with
    | zero => intro _; exact (sm_1 7).trans (if_pos hc)
    | succ r ih =>
      intro hr
      rw [← ih (by omega)]
      show sm (rowN f (gN f c r) r (fun _ => 0) 7) _ 7 = _
      rw [sm_row 7 (by omega)]
      refine congrArg (fun w => sm (gN f c r) w 7) ?_
      funext j
      rw [show 8 - r = (8 - (r + 1)) + 1 by omega]
      show stT f r _ j = _
      simp only [goW, stT]
      rw [show 7 - (8 - (r + 1)) = r by omega]
  rw [← key 8 (by omega)]
  exact (sm_2 7).trans (if_pos hk)
theorem gv_wv {β : zB} {z : zZ} (h : RV β z) {c k : Nat} (hc : c < 7) (hk : k < 7) : gv β c k = wv z c k := by
  rw [← cv_wv h hk, cv_gN hk]
  unfold gv gawP
  rw [saat, goF_W, goW_gN hc hk]
  unfold filF
  rw [if_pos hk, Int32.zero_add]
/-! how many in all -/
def sN (G : Nat → Nat) : Nat → Nat
  | 0 => 0
  | n + 1 => sN G n + G n
theorem sN_up {G : Nat → Nat} {j v : Nat} : ∀ n, sN (va_up G j (G j + v)) n = sN G n + if j < n then v else 0
  | 0 => by rw [if_neg (by omega)]; rfl
  | n + 1 => by
    simp only [sN]
    rw [sN_up n]
    by_cases e : n = j
    · subst e
      rw [if_neg (by omega), if_pos (by omega), va_up_self]
      omega
    · rw [va_up_ne _ _ e]
      split <;> split <;> omega
theorem sN_0 : ∀ n, sN (fun _ => 0) n = 0
  | 0 => rfl
  | n + 1 => by simp only [sN]; rw [sN_0 n]
theorem va_nI {x : Nat → Int32} {X : Nat → Nat} (hx : ∀ k, k < 7 → x k = nI (X k)) {j v : Nat} (hj : j < 7) {w : Int32} (hw : w = nI v) : ∀ k, k < 7 → va_up x j (x j + w) k = nI (va_up X j (X j + v) k) := fun k hk => by
  by_cases e : k = j
  · subst e
    rw [vat, va_up_self, hx k hk, hw, nI_add]
  · rw [va_ne e, va_up_ne _ _ e]; exact hx k hk
theorem row_tot {f g : Nat → Int32} {r : Nat} {G : Nat → Nat} (hg : ∀ k, k < 7 → g k = nI (G k)) : ∀ c, c ≤ 7 → ∃ X : Nat → Nat, (∀ k, k < 7 → rowN f g r (fun _ => 0) c k = nI (X k)) ∧ sN G c ≤ sN X 7 ∧ sN X 7 ≤ 2 * sN G c
  | 0, _ => ⟨fun _ => 0, fun _ _ => rfl, by rw [sN_0]; exact Nat.zero_le _, by rw [sN_0]; exact Nat.zero_le _⟩
  | c + 1, hc => by
    have b1 := bnc_lt (c := c) (s := 1) (by omega)
    have b2 := bnc_lt (c := c) (s := -1) (by omega)
    obtain ⟨X, x1, x2, x3⟩ := row_tot hg c (by omega)
    simp only [rowN]
    have es : sN G (c + 1) = sN G c + G c := rfl
    rw [es]
    by_cases h1 : f (r * 7 + c) < 0
    · have h2 : ¬ 0 < f (r * 7 + c) := fun q => Int32.lt_irrefl (Int32.lt_trans h1 q)
      refine ⟨va_up X (bnc c (-1)) (X (bnc c (-1)) + G c), fun k hk => ?_, ?_, ?_⟩
      · rw [if_pos h1, if_neg h2]; exact va_nI x1 b2 (hg c (by omega)) k hk
      · rw [sN_up, if_pos b2]; omega
      · rw [sN_up, if_pos b2]; omega
    · by_cases h2 : 0 < f (r * 7 + c)
      · refine ⟨va_up X (bnc c 1) (X (bnc c 1) + G c), fun k hk => ?_, ?_, ?_⟩
        · rw [if_neg h1, if_pos h2]; exact va_nI x1 b1 (hg c (by omega)) k hk
        · rw [sN_up, if_pos b1]; omega
        · rw [sN_up, if_pos b1]; omega
      · refine ⟨va_up (va_up X (bnc c (-1)) (X (bnc c (-1)) + G c)) (bnc c 1) (va_up X (bnc c (-1)) (X (bnc c (-1)) + G c) (bnc c 1) + G c), fun k hk => ?_, ?_, ?_⟩
        · rw [if_neg h1, if_neg h2]; exact va_nI (va_nI x1 b2 (hg c (by omega))) b1 (hg c (by omega)) k hk
        · rw [sN_up, if_pos b1, sN_up, if_pos b2]; omega
        · rw [sN_up, if_pos b1, sN_up, if_pos b2]; omega
theorem sN_1 {c : Nat} : ∀ n, sN (fun k => if k = c then 1 else 0) n = if c < n then 1 else 0
  | 0 => by rw [if_neg (by omega)]; rfl
  | n + 1 => by
    simp only [sN]
    rw [sN_1 n]
    split <;> split <;> (try split) <;> omega
theorem gN_tot {f : Nat → Int32} {c : Nat} (hc : c < 7) : ∀ r, ∃ X : Nat → Nat, (∀ k, k < 7 → gN f c r k = nI (X k)) ∧ 1 ≤ sN X 7 ∧ sN X 7 ≤ 2 ^ r
  | 0 => ⟨fun k => if k = c then 1 else 0, fun k _ => by show (if k = c then (1 : Int32) else 0) = nI (if k = c then 1 else 0); by_cases e : k = c <;> simp only [e, if_true, if_false] <;> rfl, by rw [sN_1, if_pos hc]; omega, by rw [sN_1, if_pos hc]; omega⟩
  | r + 1 => by
    obtain ⟨G, g1, g2, g3⟩ := gN_tot hc r (f := f)
    obtain ⟨X, x1, x2, x3⟩ := row_tot (f := f) (r := r) g1 7 (by omega)
    exact ⟨X, x1, by omega, by rw [Nat.pow_succ]; omega⟩
theorem alN_nI {w : Nat → Int32} {X : Nat → Nat} (h : ∀ k, k < 7 → w k = nI (X k)) : ∀ n, n ≤ 7 → alN w n = nI (sN X n)
  | 0, _ => rfl
  | n + 1, hn => by
    simp only [alN, sN]
    rw [alN_nI h n (by omega), h n (by omega), nI_add]
theorem wv_tot (z : zZ) {c : Nat} (hc : c < 7) : ∃ X : Nat → Nat, (∀ k, k < 7 → wv z c k = nI (X k)) ∧ alN (wv z c) 7 = nI (sN X 7) ∧ 1 ≤ sN X 7 ∧ sN X 7 ≤ 256 := by
  obtain ⟨X, x1, x2, x3⟩ := gN_tot (f := pinF z) hc 8
  have h : ∀ k, k < 7 → wv z c k = nI (X k) := fun k hk => (wv_gN hk).trans (x1 k hk)
  exact ⟨X, h, alN_nI h 7 (by omega), x2, by omega⟩
theorem wv_all (z : zZ) : ∀ c, c < 7 → ¬ alN (wv z c) 7 = 0 := fun c hc => by
  obtain ⟨X, x1, x2, x3, x4⟩ := wv_tot z hc
  rw [x2]
  exact nI_ne0 (by omega) (by omega)

