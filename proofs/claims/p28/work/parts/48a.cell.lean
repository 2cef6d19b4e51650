set_option maxHeartbeats 4000000 in
theorem tL_cell (l : Launch) (G : gG) (b : Nat) (C S : gM) (sb L : Nat) (xs : Nat → Int32) (k : Int) (hL : L ≤ 260) (hk : 0 ≤ k ∧ k ≤ 40) : CtK l G b (SX b sb L xs) yL_cell cL_cell 2 (some .int) rmL_cell [.ref sb, .int (iI (k))] 578 (wM G b C S) (RI G b C S (fun v => 0 ≤ v ∧ v ≤ 2147483647)) := by
  refine CtK_of (by decide) (Nat.le_of_ble_eq_true rfl) q493 ?_
  intro x hl hB hE hKK
  subst hl
  show YM x G b 0 0 C S 0 [(0, .ref sb), (1, .int (iI (k)))] []
  refine y_iload_n hB 1 dL_cell_0 rfl rfl ?_
  refine y_aload_n hB 0 dL_cell_1 rfl rfl ?_
  refine y_scl hB hKK dL_cell_2 ?_
  refine y_icmp_ge hB 12 dL_cell_3 (by decide) (by omega) (by omega) (fun c_3 => ?_) (fun c_3 => ?_)
  · refine y_ldci hB q494 dL_cell_12 ?_
    rw [show (15485959 : Int32) = iI 15485959 from rfl]
    refine y_iload_n hB 1 dL_cell_14 rfl rfl ?_
    refine y_imul (t := 15485959 * k) hB dL_cell_15 (by omega) ?_
    refine y_sipush (v := 1269) hB dL_cell_16 (by decide) ?_
    refine y_iadd (t := 15485959 * k + 1269) hB dL_cell_19 (by omega) ?_
    refine y_ldci hB q495 dL_cell_20 ?_
    rw [show (2147483647 : Int32) = iI 2147483647 from rfl]
    refine y_iandR hB dL_cell_22 ?_
    rw [show (iI (15485959 * k + 1269)) &&& (iI (2147483647)) = iI (m31 (iI (15485959 * k + 1269))) from and31 _]
    exact m_ri hB hE dL_cell_23 rfl (m31_b _)
  · refine y_aload_n hB 0 dL_cell_6 rfl rfl ?_
    refine y_iload_n hB 1 dL_cell_7 rfl rfl ?_
    obtain ⟨e, he⟩ : ∃ e : Int, (xs k.toNat).toInt = e := ⟨_, rfl⟩
    refine y_scr hB hKK (i := k) (by omega) hL he dL_cell_8 ?_
    refine y_goto hB 20 dL_cell_9 (by decide) ?_
    refine y_ldci hB q495 dL_cell_20 ?_
    rw [show (2147483647 : Int32) = iI 2147483647 from rfl]
    refine y_iandR hB dL_cell_22 ?_
    rw [show (iI (e)) &&& (iI (2147483647)) = iI (m31 (iI (e))) from and31 _]
    exact m_ri hB hE dL_cell_23 rfl (m31_b _)
