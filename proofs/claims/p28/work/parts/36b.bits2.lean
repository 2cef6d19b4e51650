/-! the bits of every worth: trust 0 to 100, at most 51 tens of days -/
def runB : Nat → UInt32 → Bool
  | 0, x => bOk x 126 x
  | k + 1, x => bOk x 126 x && runB k (FP.fmul x c09)
theorem runB_at : ∀ (m : Nat) (t : Int) (j k : Nat), runB m (wf t j) = true → k ≤ m → bOk (wf t (j + k)) 126 (wf t (j + k)) = true := by
  intro m
  induction m with
  | zero =>
    intro t j k h hk
    obtain rfl : k = 0 := by omega
    exact h
  | succ m ih =>
    intro t j k h hk
    have h1 := Bool.and_eq_true_iff.mp h
    cases k with
    | zero => exact h1.1
    | succ k =>
      rw [show j + (k + 1) = (j + 1) + k by omega]
      exact ih t (j + 1) k h1.2 (by omega)
theorem runB_0 : (List.range 10).all (fun t => runB 51 (wf ((t : Int) + 0) 0)) = true := by decide +kernel
theorem runB_1 : (List.range 10).all (fun t => runB 51 (wf ((t : Int) + 10) 0)) = true := by decide +kernel
theorem runB_2 : (List.range 10).all (fun t => runB 51 (wf ((t : Int) + 20) 0)) = true := by decide +kernel
theorem runB_3 : (List.range 10).all (fun t => runB 51 (wf ((t : Int) + 30) 0)) = true := by decide +kernel
theorem runB_4 : (List.range 10).all (fun t => runB 51 (wf ((t : Int) + 40) 0)) = true := by decide +kernel
theorem runB_5 : (List.range 10).all (fun t => runB 51 (wf ((t : Int) + 50) 0)) = true := by decide +kernel
theorem runB_6 : (List.range 10).all (fun t => runB 51 (wf ((t : Int) + 60) 0)) = true := by decide +kernel
theorem runB_7 : (List.range 10).all (fun t => runB 51 (wf ((t : Int) + 70) 0)) = true := by decide +kernel
theorem runB_8 : (List.range 10).all (fun t => runB 51 (wf ((t : Int) + 80) 0)) = true := by decide +kernel
theorem runB_9 : (List.range 11).all (fun t => runB 51 (wf ((t : Int) + 90) 0)) = true := by decide +kernel
theorem runB_all {t : Int} (h : 0 ≤ t ∧ t ≤ 100) : runB 51 (wf t 0) = true := by
  rcases (show t < 10 ∨ 10 ≤ t by omega) with g0 | g0
  · have h1 := List.all_eq_true.mp runB_0 (t - 0).toNat (List.mem_range.mpr (by omega))
    rwa [show (((t - 0).toNat : Nat) : Int) + 0 = t by omega] at h1
  rcases (show t < 20 ∨ 20 ≤ t by omega) with g1 | g1
  · have h1 := List.all_eq_true.mp runB_1 (t - 10).toNat (List.mem_range.mpr (by omega))
    rwa [show (((t - 10).toNat : Nat) : Int) + 10 = t by omega] at h1
  rcases (show t < 30 ∨ 30 ≤ t by omega) with g2 | g2
  · have h1 := List.all_eq_true.mp runB_2 (t - 20).toNat (List.mem_range.mpr (by omega))
    rwa [show (((t - 20).toNat : Nat) : Int) + 20 = t by omega] at h1
  rcases (show t < 40 ∨ 40 ≤ t by omega) with g3 | g3
  · have h1 := List.all_eq_true.mp runB_3 (t - 30).toNat (List.mem_range.mpr (by omega))
    rwa [show (((t - 30).toNat : Nat) : Int) + 30 = t by omega] at h1
  rcases (show t < 50 ∨ 50 ≤ t by omega) with g4 | g4
  · have h1 := List.all_eq_true.mp runB_4 (t - 40).toNat (List.mem_range.mpr (by omega))
    rwa [show (((t - 40).toNat : Nat) : Int) + 40 = t by omega] at h1
  rcases (show t < 60 ∨ 60 ≤ t by omega) with g5 | g5
  · have h1 := List.all_eq_true.mp runB_5 (t - 50).toNat (List.mem_range.mpr (by omega))
    rwa [show (((t - 50).toNat : Nat) : Int) + 50 = t by omega] at h1
  rcases (show t < 70 ∨ 70 ≤ t by omega) with g6 | g6
  · have h1 := List.all_eq_true.mp runB_6 (t - 60).toNat (List.mem_range.mpr (by omega))
    rwa [show (((t - 60).toNat : Nat) : Int) + 60 = t by omega] at h1
  rcases (show t < 80 ∨ 80 ≤ t by omega) with g7 | g7
  · have h1 := List.all_eq_true.mp runB_7 (t - 70).toNat (List.mem_range.mpr (by omega))
    rwa [show (((t - 70).toNat : Nat) : Int) + 70 = t by omega] at h1
  rcases (show t < 90 ∨ 90 ≤ t by omega) with g8 | g8
  · have h1 := List.all_eq_true.mp runB_8 (t - 80).toNat (List.mem_range.mpr (by omega))
    rwa [show (((t - 80).toNat : Nat) : Int) + 80 = t by omega] at h1
  have h1 := List.all_eq_true.mp runB_9 (t - 90).toNat (List.mem_range.mpr (by omega))
  rwa [show (((t - 90).toNat : Nat) : Int) + 90 = t by omega] at h1
theorem bOk_WF {t d : Int} (h : 0 ≤ t ∧ t ≤ 100) (hd : d ≤ 519) : bOk (WF t d) 126 (WF t d) = true := by
  have := runB_at 51 t 0 (d / 10).toNat (runB_all h) (by omega)
  rwa [Nat.zero_add] at this
