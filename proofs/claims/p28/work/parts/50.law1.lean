/-! the law: what stands at its entry, its own rows -/
theorem eq_int {tm : Term} {args : Array Value} {s : State} {z : Int32} (h : (Cond.eq tm (.int z)).before args s = true) : tm.eval args s none [] s = some (.int z) := by
  cases hv : tm.eval args s none [] s with
  | none => simp [Cond.before, Cond.holds, Cond.value, hv] at h
  | some w =>
    have hz : (Term.int z).eval args s none [] s = some (.int z) := rfl
    simp only [Cond.before, Cond.holds, Cond.value, hv, hz] at h
    cases w <;> simp_all
theorem law_K {s : State} {av : Array Value} (hts : ∀ w ∈ lw_tbl, w.before av s = true) : ∃ G : gG, Kx G s := by
  have hg : ∀ w ∈ lw_g, w.before av s = true := fun w h => hts w (List.mem_filter.mp h).1
  obtain ⟨c0, i0, k0⟩ := u_known (C := RX0) (T := TX0) (N := 7) hg inX0 (hg _ q21)
  obtain ⟨c1, i1, k1⟩ := u_known (C := RX1) (T := TX1) (N := 3) hg inX1 (hg _ q88)
  obtain ⟨c2, i2, k2⟩ := u_known (C := RX2) (T := TX2) (N := 10) hg inX2 (hg _ q28)
  obtain ⟨c3, i3, k3⟩ := u_known (C := RX3) (T := TX3) (N := 4) hg inX3 (hg _ q146)
  obtain ⟨c4, i4, k4⟩ := u_known (C := RX4) (T := TX4) (N := 5) hg inX4 (hg _ q107)
  obtain ⟨c5, i5, k5⟩ := u_known (C := RX5) (T := TX5) (N := 3) hg inX5 (hg _ q130)
  obtain ⟨c6, i6, k6⟩ := u_known (C := RX6) (T := TX6) (N := 7) hg inX6 (hg _ q13)
  obtain ⟨a0, b0, d0, f0, g0, h0⟩ := Cond.arrayClass_spec (hg _ q64)
  obtain ⟨a2, b2, d2, f2, g2, h2⟩ := Cond.arrayClass_spec (hg _ q128)
  have o3 : (Cond.arrayOver (.object RX2)).before av s = true := hts _ (List.mem_of_getElem? (i := 27) (by decide +kernel))
  have o4 : (Cond.arrayOver (.object RX0)).before av s = true := hts _ (List.mem_of_getElem? (i := 94) (by decide +kernel))
  obtain ⟨d3, a3, b3, f3, -, g3, h3, j3⟩ := Cond.arrayOver_spec o3
  obtain ⟨d4, a4, b4, f4, -, g4, h4, j4⟩ := Cond.arrayOver_spec o4
  refine ⟨((fun k => match k with | 0 => c0 | 1 => c1 | 2 => c2 | 3 => c3 | 4 => c4 | 5 => c5 | _ => c6, fun k => match k with | 0 => i0 | 1 => i1 | 2 => i2 | 3 => i3 | 4 => i4 | 5 => i5 | _ => i6), fun k => match k with | 0 => a0 | 1 => a0 | 2 => a2 | 3 => a3 | _ => a4), ⟨fun k q hq => ?_, fun k q hq => ?_⟩, va_AO.of o3, va_AO.of o4, fun w hw => ?_⟩
  · match k, hq with
    | 0, hq => cases hq; exact k0
    | 1, hq => cases hq; exact k1
    | 2, hq => cases hq; exact k2
    | 3, hq => cases hq; exact k3
    | 4, hq => cases hq; exact k4
    | 5, hq => cases hq; exact k5
    | 6, hq => cases hq; exact k6
    | k + 7, hq => simp at hq
  · match k, hq with
    | 0, hq => cases hq; exact ⟨fun n z => ⟨fun k h => (by cases h), b0, g0, d0, h0⟩, f0⟩
    | 1, hq => cases hq; exact ⟨fun n z => ⟨fun k h => (by cases h), b0, g0, d0, h0⟩, f0⟩
    | 2, hq => cases hq; exact ⟨fun n z => ⟨fun k h => (by cases h), b2, g2, d2, h2⟩, f2⟩
    | 3, hq => cases hq; exact ⟨fun n z => ⟨fun k h => (by cases h), b3, g3, d3, h3⟩, b3, d3, g3, h3, f3, j3⟩
    | 4, hq => cases hq; exact ⟨fun n z => ⟨fun k h => (by cases h), b4, g4, d4, h4⟩, b4, d4, g4, h4, f4, j4⟩
    | k + 5, hq => simp [tysG] at hq
  · simp only [nestW, List.mem_cons, List.not_mem_nil, or_false] at hw
    rcases hw with rfl | rfl | rfl | rfl | rfl | rfl | rfl
    · exact va_Nw.of rfl (hts _ (List.mem_of_getElem? (i := 29) (by decide +kernel)))
    · exact va_Nw.of rfl (hts _ (List.mem_of_getElem? (i := 113) (by decide +kernel)))
    · exact va_Nw.of rfl (hts _ (List.mem_of_getElem? (i := 131) (by decide +kernel)))
    · exact va_Nw.of rfl (hts _ (List.mem_of_getElem? (i := 147) (by decide +kernel)))
    · exact va_Nw.of rfl (hts _ (List.mem_of_getElem? (i := 152) (by decide +kernel)))
    · exact va_Nw.of rfl (hts _ (List.mem_of_getElem? (i := 280) (by decide +kernel)))
    · exact va_Nw.of rfl (hts _ (List.mem_of_getElem? (i := 293) (by decide +kernel)))
theorem law_Z {s : State} {av : Array Value} (hts : ∀ w ∈ lw_tbl, w.before av s = true) (hgv : (Jvm.Cond.and given_1 narrow_1).before av s = true) : Zs s.heap.size s := by
  have hg : ∀ w ∈ lw_g, w.before av s = true := fun w h => hts w (List.mem_filter.mp h).1
  have hs := flat_of_before _ hgv
  have hA : ∀ a : Nat, a < s.heap.size → ¬ (s.heap.size ≤ a) := fun a h z => by omega
  have l0 : (Cond.laysStatic RX6 "LEAST_OF_SETTING" "[I").before av s = true := hts _ (List.mem_of_getElem? (i := 331) (by decide +kernel))
  have l1 : (Cond.laysStatic RX6 "MOST_OF_SETTING" "[I").before av s = true := hts _ (List.mem_of_getElem? (i := 333) (by decide +kernel))
  have ini : (Cond.initialized RX6).before av s = true := hg _ q3
  constructor
  · obtain ⟨t, h1, h2⟩ := va_Tof (tm := .static RX6 "LEAST_OF_SETTING" "[I") (ty := .int) (N := 5) (f := fun j => .int (iI (loT j))) (A := fun q => s.heap.size ≤ q) (by decide) (hs _ (by decide +kernel)) (eq_int (hs _ (by decide +kernel))) (fun j hj => by
      rcases (show j = 0 ∨ j = 1 ∨ j = 2 ∨ j = 3 ∨ j = 4 by omega) with rfl | rfl | rfl | rfl | rfl
      · exact eq_int (z := 1) (hs _ (by decide +kernel))
      · exact eq_int (z := 10) (hs _ (by decide +kernel))
      · exact eq_int (z := 0) (hs _ (by decide +kernel))
      · exact eq_int (z := 1) (hs _ (by decide +kernel))
      · exact eq_int (z := 1) (hs _ (by decide +kernel))) hA
    exact ⟨t, va_Zref l0 ini h1 hA, h2⟩
  · obtain ⟨t, h1, h2⟩ := va_Tof (tm := .static RX6 "MOST_OF_SETTING" "[I") (ty := .int) (N := 5) (f := fun j => .int (iI (hiT j))) (A := fun q => s.heap.size ≤ q) (by decide) (hs _ (by decide +kernel)) (eq_int (hs _ (by decide +kernel))) (fun j hj => by
      rcases (show j = 0 ∨ j = 1 ∨ j = 2 ∨ j = 3 ∨ j = 4 by omega) with rfl | rfl | rfl | rfl | rfl
      · exact eq_int (z := 24) (hs _ (by decide +kernel))
      · exact eq_int (z := 200) (hs _ (by decide +kernel))
      · exact eq_int (z := 100) (hs _ (by decide +kernel))
      · exact eq_int (z := 3) (hs _ (by decide +kernel))
      · exact eq_int (z := 9) (hs _ (by decide +kernel))) hA
    exact ⟨t, va_Zref l1 ini h1 hA, h2⟩
/-- a new desk -/
theorem Iv_0 : Iv C0 0 := by
  have p0 : C0 1 3 = 0 := rfl
  refine ⟨⟨by decide, by decide, by decide, by decide, by decide, by decide, by decide, by decide, by decide, fun s hs => ?_, fun i a1 a2 => by omega⟩, by decide, by decide, fun i a1 a2 => by omega⟩
  rcases (show s = 0 ∨ s = 1 ∨ s = 2 ∨ s = 3 ∨ s = 4 ∨ s = 5 by omega) with rfl | rfl | rfl | rfl | rfl | rfl <;> decide
theorem C0_p : C0 1 3 = 0 ∧ C0 169 2 = 0 ∧ C0 0 2 = 0 ∧ C0 2 0 = 8 ∧ C0 2 3 = 2 := by decide
theorem s_undo0 (l : Launch) (G : gG) (b : Nat) (C S : gM) (N : Int) (hI : Iv C N) (hN : N ≤ 500) (h0 : C 169 2 = 0) : Ct l G b yX6_undo cX6_undo 1 (some .int) rmX6_undo [.ref (ad b 0)] 578 (wM G b C S) (RI G b C S (fun v => v = -5)) := by
  refine Ct_mono (tX6_undo l G b C S N hI.1 (by omega) hI.2.1 hI.2.2.1 (fun z => by omega)) (fun r n w h => WI_RI (fun v C' hv => ?_) h)
  rcases hv with ⟨h1, h2, h3⟩ | ⟨h1, h2, h3⟩
  · exact ⟨h3, h2⟩
  · omega
theorem s_restore0 (l : Launch) (G : gG) (b : Nat) (C S : gM) (N : Int) (hI : Iv C N) (hN : N ≤ 500) (h0 : C 0 2 = 0) (h85 : 0 ≤ C 85 3 ∧ C 85 3 ≤ 20) : Ct l G b yX6_restore cX6_restore 1 (some .int) rmX6_restore [.ref (ad b 0)] 578 (wM G b C S) (RI G b C S (fun v => v = -5)) := by
  refine Ct_mono (tX6_restore l G b C S N hI.1 (by omega) hI.2.1 hI.2.2.1 (Or.inl h0) h85) (fun r n w h => WI_RI (fun v C' hv => ?_) h)
  rcases hv with ⟨h1, h2, h3⟩ | ⟨h1, h2, h3⟩
  · exact ⟨h3, h2⟩
  · omega
theorem IvD_up {C : gM} {o N N' : Int} (h : IvD C o N) (hN : N ≤ N') : IvD C o N' := ⟨DkOk_N h.1 hN, h.2⟩
