/-! the text: its length alone -/
set_option maxHeartbeats 4000000 in
theorem tX4_length (l : Launch) (G : gG) (b : Nat) (C S : gM)  : Ct l G b yX4_length cX4_length 1 (some .int) rmX4_length [.ref (ad b (507))] 578 (wM G b C S) (RI G b C S (fun v => v = C 507 1)) := by
  refine CtK_of (by decide) (Nat.le_of_ble_eq_true rfl) q490 ?_
  intro x hl hB hE _
  subst hl
  show YM x G b 0 0 C S 0 [(0, .ref (ad b (507)))] []
  refine y_aload_n hB 0 dX4_length_0 rfl rfl ?_
  refine gt_4_1 hB (by decide) (t1 := C 507 1) rfl dX4_length_1 ?_
  exact m_ri hB hE dX4_length_4 rfl (rfl)
