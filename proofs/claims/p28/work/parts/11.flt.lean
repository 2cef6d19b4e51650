/-! floats: the worth of a fact, no NaN -/
def c100 : UInt32 := 1120403456
def c09 : UInt32 := 1063675494
def wf (t : Int) : Nat → UInt32
  | 0 => FP.fdiv (FP.i2f (iI t)) c100
  | k + 1 => FP.fmul (wf t k) c09
/-- the worth of a fact: trust t, d days since it was checked -/
def WF (t d : Int) : UInt32 := wf t (d / 10).toNat
/-- 1 for stale, by the bound n -/
def stI (w bnd : UInt32) : Int := if cmpI (FP.fcmp w bnd) .g < 0 then 1 else 0
theorem stI_b (w bnd : UInt32) : 0 ≤ stI w bnd ∧ stI w bnd ≤ 1 := by unfold stI; split <;> omega
def fin32 (x : UInt32) : Prop := ∃ (c : Nat) (q : Int), FP.Core.val32 x = .fin false c q
def pos32 (x : UInt32) : Prop := FP.Core.val32 x = .inf false ∨ fin32 x
theorem fin_of_lt {x : UInt32} (h : x.toNat < 2139095040) : fin32 x := by
  unfold fin32 FP.Core.val32 FP.Core.decode
  have hE : FP.Core.fieldE FP.Core.b32 x.toNat = x.toNat / 8388608 % 256 := by
    show x.toNat / FP.Core.Fmt.tails FP.Core.b32 % FP.Core.Fmt.exps FP.Core.b32 = _
    rw [show FP.Core.Fmt.tails FP.Core.b32 = 8388608 by decide, show FP.Core.Fmt.exps FP.Core.b32 = 256 by decide]
  have hS : FP.Core.fieldS FP.Core.b32 x.toNat = false := by
    show (x.toNat / FP.Core.Fmt.tails FP.Core.b32 / FP.Core.Fmt.exps FP.Core.b32 % 2 == 1) = false
    rw [show FP.Core.Fmt.tails FP.Core.b32 = 8388608 by decide, show FP.Core.Fmt.exps FP.Core.b32 = 256 by decide]
    have : x.toNat / 8388608 / 256 % 2 = 0 := by omega
    rw [this]
    rfl
  rw [if_neg (by rw [hE, show FP.Core.Fmt.exps FP.Core.b32 - 1 = 255 by decide]; omega), hS]
  split
  · exact ⟨_, _, rfl⟩
  · exact ⟨_, _, rfl⟩
theorem vf_of_val {x : UInt32} (h : FP.Core.val32 x ≠ .nan) : vf_n32 x := by
  unfold vf_n32
  apply UInt32.not_lt.mp
  intro hlt
  apply h
  have hn : (x &&& 0x7fffffff).toNat = x.toNat % 2147483648 := by
    rw [UInt32.toNat_and]
    exact Nat.and_two_pow_sub_one_eq_mod x.toNat 31
  have h2 : 2139095040 < x.toNat % 2147483648 := by
    rw [← hn]
    exact UInt32.lt_iff_toNat_lt.mp hlt
  unfold FP.Core.val32 FP.Core.decode
  have hE : FP.Core.fieldE FP.Core.b32 x.toNat = x.toNat / 8388608 % 256 := by
    show x.toNat / FP.Core.Fmt.tails FP.Core.b32 % FP.Core.Fmt.exps FP.Core.b32 = _
    rw [show FP.Core.Fmt.tails FP.Core.b32 = 8388608 by decide, show FP.Core.Fmt.exps FP.Core.b32 = 256 by decide]
  have hT : FP.Core.fieldT FP.Core.b32 x.toNat = x.toNat % 8388608 := by
    show x.toNat % FP.Core.Fmt.tails FP.Core.b32 = _
    rw [show FP.Core.Fmt.tails FP.Core.b32 = 8388608 by decide]
  rw [if_pos (by rw [hE, show FP.Core.Fmt.exps FP.Core.b32 - 1 = 255 by decide]; omega), if_neg (by rw [hT]; omega)]
theorem pos_ne {x : UInt32} (h : pos32 x) : FP.Core.val32 x ≠ .nan := by
  rcases h with h | ⟨c, q, h⟩ <;> rw [h] <;> exact fun z => by cases z
theorem vf_pos {x : UInt32} (h : pos32 x) : vf_n32 x := vf_of_val (pos_ne h)
theorem round_pos (c : Nat) (q : Int) : FP.Core.round FP.Core.b32 (.fin false c q) = .inf false ∨ ∃ (c' : Nat) (q' : Int), FP.Core.round FP.Core.b32 (.fin false c q) = .fin false c' q' := by
  show FP.Core.roundRatio FP.Core.b32 false c 1 q = _ ∨ ∃ (c' : Nat) (q' : Int), FP.Core.roundRatio FP.Core.b32 false c 1 q = _
  unfold FP.Core.roundRatio
  split
  · exact Or.inr ⟨_, _, rfl⟩
  · unfold FP.Core.roundAt FP.Core.settle FP.Core.bound
    split
    · split
      · exact Or.inr ⟨_, _, rfl⟩
      · exact Or.inl rfl
    · split
      · exact Or.inr ⟨_, _, rfl⟩
      · exact Or.inl rfl
theorem pos_fmul {x y : UInt32} (hx : fin32 x) (hy : fin32 y) : pos32 (FP.fmul x y) := by
  obtain ⟨c, q, hx⟩ := hx
  obtain ⟨d, r, hy⟩ := hy
  unfold pos32 fin32
  show FP.Core.val32 (FP.Core.fmul x y) = _ ∨ ∃ (c' : Nat) (q' : Int), FP.Core.val32 (FP.Core.fmul x y) = _
  rw [FP.Core.val32_fmul, hx, hy]
  exact round_pos _ _
theorem pos_fadd {x y : UInt32} (hx : pos32 x) (hy : pos32 y) : pos32 (FP.fadd x y) := by
  unfold pos32 fin32
  show FP.Core.val32 (FP.Core.fadd x y) = _ ∨ ∃ (c' : Nat) (q' : Int), FP.Core.val32 (FP.Core.fadd x y) = _
  rw [FP.Core.val32_fadd]
  rcases hx with hx | ⟨c, q, hx⟩ <;> rcases hy with hy | ⟨d, r, hy⟩ <;> rw [hx, hy]
  · exact Or.inl rfl
  · exact Or.inl rfl
  · exact Or.inl rfl
  · show FP.Core.round FP.Core.b32 (.fin (FP.Core.sumSign false false (FP.Core.sumUnits false c q false d r (min q r))) _ _) = _ ∨ ∃ (c' : Nat) (q' : Int), FP.Core.round FP.Core.b32 (.fin (FP.Core.sumSign false false (FP.Core.sumUnits false c q false d r (min q r))) _ _) = _
    have hs : FP.Core.sumSign false false (FP.Core.sumUnits false c q false d r (min q r)) = false := by
      unfold FP.Core.sumSign
      split
      · rfl
      · refine decide_eq_false ?_
        show ¬ (FP.Core.signed false (FP.Core.inUnits c q (min q r)) + FP.Core.signed false (FP.Core.inUnits d r (min q r)) < 0)
        unfold FP.Core.signed
        simp only [Bool.false_eq_true, if_false]
        omega
    rw [hs]
    exact round_pos _ _
def runW : Nat → UInt32 → Bool
  | 0, x => decide (x.toNat < 2139095040)
  | k + 1, x => decide (x.toNat < 2139095040) && runW k (FP.fmul x c09)
theorem runW_at : ∀ (n : Nat) (t : Int) (j k : Nat), runW n (wf t j) = true → k ≤ n → (wf t (j + k)).toNat < 2139095040 := by
  intro n
  induction n with
  | zero =>
    intro t j k h hk
    obtain rfl : k = 0 := by omega
    exact of_decide_eq_true h
  | succ n ih =>
    intro t j k h hk
    have h1 := Bool.and_eq_true_iff.mp h
    cases k with
    | zero => exact of_decide_eq_true h1.1
    | succ k =>
      rw [show j + (k + 1) = (j + 1) + k by omega]
      exact ih t (j + 1) k h1.2 (by omega)
theorem runW_0 : (List.range 25).all (fun t => runW 152 (wf (t : Int) 0)) = true := by decide +kernel
theorem runW_1 : (List.range 25).all (fun t => runW 152 (wf ((t : Int) + 25) 0)) = true := by decide +kernel
theorem runW_2 : (List.range 25).all (fun t => runW 152 (wf ((t : Int) + 50) 0)) = true := by decide +kernel
theorem runW_3 : (List.range 26).all (fun t => runW 152 (wf ((t : Int) + 75) 0)) = true := by decide +kernel
theorem runW_all {t : Int} (h : 0 ≤ t ∧ t ≤ 100) : runW 152 (wf t 0) = true := by
  have key : ∀ (s : Int) (m : Nat), (List.range m).all (fun t => runW 152 (wf ((t : Int) + s) 0)) = true → s ≤ t → t < s + m → runW 152 (wf t 0) = true := by
    intro s m h0 h1 h2
    have h3 := List.all_eq_true.mp h0 (t - s).toNat (List.mem_range.mpr (by omega))
    rwa [show (((t - s).toNat : Nat) : Int) + s = t by omega] at h3
  rcases (show t < 25 ∨ (25 ≤ t ∧ t < 50) ∨ (50 ≤ t ∧ t < 75) ∨ 75 ≤ t by omega) with h9 | h9 | h9 | h9
  · exact key 0 25 (by simpa using runW_0) h.1 (by omega)
  · exact key 25 25 runW_1 h9.1 (by omega)
  · exact key 50 25 runW_2 h9.1 (by omega)
  · exact key 75 26 runW_3 h9 (by omega)
theorem fin_wf {t : Int} {k : Nat} (h : 0 ≤ t ∧ t ≤ 100) (hk : k ≤ 152) : fin32 (wf t k) := by
  have := runW_at 152 t 0 k (runW_all h) hk
  rw [Nat.zero_add] at this
  exact fin_of_lt this
theorem fin_WF {t d : Int} (h : 0 ≤ t ∧ t ≤ 100) (hd : d ≤ 1520) : fin32 (WF t d) := fin_wf h (by omega)
theorem fin_pos {x : UInt32} (h : fin32 x) : pos32 x := Or.inr h
theorem fin_c09 : fin32 c09 := fin_of_lt (by decide)
theorem fin_c100 : fin32 c100 := fin_of_lt (by decide)
theorem fin_lines {n : Int} (h : 0 ≤ n ∧ n ≤ 9) : fin32 (FP.i2f (iI n)) := by
  have h1 := co_all (P := fun n => (FP.i2f (iI n)).toNat < 2139095040) 10 (by decide +kernel) (i := n) (by omega)
  exact fin_of_lt h1
theorem pos_0 : pos32 FP.fconst0 := fin_pos (fin_of_lt (by decide))
def wsum (f : Int → UInt32) : Nat → UInt32
  | 0 => FP.fconst0
  | n + 1 => FP.fadd (wsum f n) (f n)
def wsI (f : Int → UInt32) (n : Int) : UInt32 := wsum f n.toNat
theorem wsI_0 (f : Int → UInt32) : wsI f 0 = FP.fconst0 := rfl
theorem wsI_s (f : Int → UInt32) {i : Int} (h : 0 ≤ i) : wsI f (i + 1) = FP.fadd (wsI f i) (f i) := by
  unfold wsI
  rw [show (i + 1).toNat = i.toNat + 1 by omega]
  show FP.fadd (wsum f i.toNat) (f (i.toNat : Int)) = _
  rw [Int.toNat_of_nonneg h]
theorem wsI_congr {f g : Int → UInt32} {n : Int} (h : ∀ j, 0 ≤ j → j < n → f j = g j) : wsI f n = wsI g n := by
  unfold wsI
  have key : ∀ m : Nat, (m : Int) ≤ n ∨ m = 0 → wsum f m = wsum g m := by
    intro m
    induction m with
    | zero => intro _; rfl
    | succ m ih =>
      intro hm
      show FP.fadd (wsum f m) (f m) = FP.fadd (wsum g m) (g m)
      rw [ih (by omega), h m (by omega) (by omega)]
  exact key _ (by omega)
theorem pos_wsI {f : Int → UInt32} {n : Int} (h : ∀ j, 0 ≤ j → j < n → pos32 (f j)) : pos32 (wsI f n) := by
  unfold wsI
  have key : ∀ m : Nat, (m : Int) ≤ n ∨ m = 0 → pos32 (wsum f m) := by
    intro m
    induction m with
    | zero => intro _; exact pos_0
    | succ m ih =>
      intro hm
      exact pos_fadd (ih (by omega)) (h m (by omega) (by omega))
  exact key _ (by omega)
