/-! what is stale stays stale: a worth falls with the days -/
theorem stI_anti {w w' c : UInt32} (hw : fin32 w) (hw' : fin32 w') (hc : fin32 c) (h : cmpI (FP.fcmp w' w) .g ≤ 0) : stI w c ≤ stI w' c := by
  have nw := pos_ne (fin_pos hw)
  have nw' := pos_ne (fin_pos hw')
  have nc := pos_ne (fin_pos hc)
  have b' := stI_b w' c
  by_cases g : cmpI (FP.fcmp w c) .g < 0
  · have h1 : FP.Core.fcmp w c = some .lt := by
      have e : FP.fcmp w c = FP.Core.fcmp w c := rfl
      rw [e] at g
      cases hv : FP.Core.fcmp w c with
      | none => rw [hv] at g; exact absurd g (by decide)
      | some o => cases o with
        | lt => rfl
        | eq => rw [hv] at g; exact absurd g (by decide)
        | gt => rw [hv] at g; exact absurd g (by decide)
    have k1 := (FP.Core.fcmp_lt_key nw nc).mp h1
    have k2 : FP.Core.fkey w' ≤ FP.Core.fkey w := by
      have e : FP.fcmp w' w = FP.Core.fcmp w' w := rfl
      rw [e] at h
      cases hv : FP.Core.fcmp w' w with
      | none => rw [hv] at h; exact absurd h (by decide)
      | some o => cases o with
        | lt => have := (FP.Core.fcmp_lt_key nw' nw).mp hv; omega
        | eq => have := (FP.Core.fcmp_eq_key nw' nw).mp hv; omega
        | gt => rw [hv] at h; exact absurd h (by decide)
    have h3 := (FP.Core.fcmp_lt_key nw' nc).mpr (by omega)
    have h4 : stI w' c = 1 := by
      unfold stI
      refine if_pos ?_
      show cmpI (FP.Core.fcmp w' c) .g < 0
      rw [h3]
      decide
    have := stI_b w c
    omega
  · have : stI w c = 0 := by
      unfold stI
      exact if_neg g
    omega
def runM : Nat → UInt32 → Bool
  | 0, _ => true
  | k + 1, x => decide (cmpI (FP.fcmp (FP.fmul x c09) x) .g ≤ 0) && runM k (FP.fmul x c09)
theorem runM_at : ∀ (n : Nat) (t : Int) (j k : Nat), runM n (wf t j) = true → k < n → cmpI (FP.fcmp (wf t (j + k + 1)) (wf t (j + k))) .g ≤ 0 := by
  intro n
  induction n with
  | zero => intro t j k h hk; omega
  | succ n ih =>
    intro t j k h hk
    have h1 := Bool.and_eq_true_iff.mp h
    cases k with
    | zero => exact of_decide_eq_true h1.1
    | succ k =>
      rw [show j + (k + 1) = (j + 1) + k by omega]
      exact ih t (j + 1) k h1.2 (by omega)
theorem runM_0 : (List.range 25).all (fun t => runM 152 (wf ((t : Int) + 0) 0)) = true := by decide +kernel
theorem runM_1 : (List.range 25).all (fun t => runM 152 (wf ((t : Int) + 25) 0)) = true := by decide +kernel
theorem runM_2 : (List.range 25).all (fun t => runM 152 (wf ((t : Int) + 50) 0)) = true := by decide +kernel
theorem runM_3 : (List.range 26).all (fun t => runM 152 (wf ((t : Int) + 75) 0)) = true := by decide +kernel
theorem runM_all {t : Int} (h : 0 ≤ t ∧ t ≤ 100) : runM 152 (wf t 0) = true := by
  have key : ∀ (s : Int) (m : Nat), (List.range m).all (fun t => runM 152 (wf ((t : Int) + s) 0)) = true → s ≤ t → t < s + m → runM 152 (wf t 0) = true := by
    intro s m h0 h1 h2
    have h3 := List.all_eq_true.mp h0 (t - s).toNat (List.mem_range.mpr (by omega))
    rwa [show (((t - s).toNat : Nat) : Int) + s = t by omega] at h3
  rcases (show t < 25 ∨ (25 ≤ t ∧ t < 50) ∨ (50 ≤ t ∧ t < 75) ∨ 75 ≤ t by omega) with h9 | h9 | h9 | h9
  · exact key 0 25 runM_0 h.1 (by omega)
  · exact key 25 25 runM_1 h9.1 (by omega)
  · exact key 50 25 runM_2 h9.1 (by omega)
  · exact key 75 26 runM_3 h9 (by omega)
theorem st_step {t : Int} {k : Nat} {c : UInt32} (ht : 0 ≤ t ∧ t ≤ 100) (hk : k < 152) (hc : fin32 c) : stI (wf t k) c ≤ stI (wf t (k + 1)) c := by
  have h := runM_at 152 t 0 k (runM_all ht) hk
  rw [Nat.zero_add] at h
  exact stI_anti (fin_wf ht (by omega)) (fin_wf ht (by omega)) hc h
theorem st_more {t : Int} {c : UInt32} (ht : 0 ≤ t ∧ t ≤ 100) (hc : fin32 c) : ∀ (m k : Nat), k + m ≤ 152 → stI (wf t k) c ≤ stI (wf t (k + m)) c := by
  intro m
  induction m with
  | zero => intro k _; exact Int.le_refl _
  | succ m ih =>
    intro k hk
    have h1 := ih k (by omega)
    have h2 := st_step (t := t) (k := k + m) ht (by omega) hc
    rw [show k + (m + 1) = k + m + 1 by omega]
    omega
theorem stA_later {C : gM} {N d : Int} (hI : Iv C N) (hN : N ≤ 500) (hd : 0 ≤ d ∧ d ≤ 999) : stA C (C 1 4) ≤ stA C (d + C 1 4) := by
  have hT := hI.1.2.1
  have hb := bc_13 hI
  have hc : fin32 (wf (C (1 + 1) 2) 0) := fin_wf hb (by omega)
  unfold stA
  refine smI_mono fun i a1 a2 => ?_
  by_cases hs : C (4 * i + 1 + 4) 2 = 3
  · rw [if_pos hs, if_pos hs]
    exact Int.le_refl _
  · rw [if_neg hs, if_neg hs]
    unfold staleN
    refine smI_mono fun j b1 b2 => ?_
    have hl := hI.1.2.2.2.2.2.2.2.2.2.2 i a1 a2
    obtain ⟨f1, f2, f3⟩ := hl.2.2.2.2.2.2.2.2 j b1 b2
    have ht := hI.1.2.2.2.2.2.2.2.2.2.1 _ f1
    unfold fst WF
    obtain ⟨k, hk⟩ : ∃ k : Nat, ((C 1 4 - C (4 * i + 1 + 4 + 3) j) / 10).toNat = k := ⟨_, rfl⟩
    obtain ⟨m, hm⟩ : ∃ m : Nat, ((d + C 1 4 - C (4 * i + 1 + 4 + 3) j) / 10).toNat = k + m := ⟨((d + C 1 4 - C (4 * i + 1 + 4 + 3) j) / 10).toNat - k, by omega⟩
    rw [hk, hm]
    exact st_more ht hc m k (by omega)
