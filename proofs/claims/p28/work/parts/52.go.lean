set_option maxHeartbeats 4000000 in
theorem law_go {x : gX} {G : gG} {b sb L : Nat} {xs : Nat → Int32} {nm : String} (hB : Bx x G b RL cL_law 6 ret room_1 nm) (hX : SX b sb L xs (gs x)) (hZ : Zs b (gs x)) (hL : L ≤ 260) (w0 : Int → va_E) (hEnd : ∀ (C : gM) (lv : List (Nat × Value)), YM x G b 578 5022 C S0 359 lv [.int (iI 1)]) : Y x G b 0 0 0 w0 0 [(0, .ref sb)] [] := by
  refine y_new hB (C := RX6) (T := TX6) (N := 7) (ci := 6) tyX6 tyX6_ok inX6 q12 q13 q3 rfl (fs := frX6) frX6_ok (Nat.le_of_ble_eq_true rfl) (Nat.le_of_ble_eq_true rfl) dL_law_0 ?_
  refine y_dup hB dL_law_3 rfl ?_
  refine y_callI hB msX6_init q14 (iX6 _ G b _ (upW_self _ _ _)) rfl rfl ⟨Nat.le_of_ble_eq_true rfl, Nat.le_of_ble_eq_true rfl⟩ (Nat.le_of_ble_eq_true rfl) ⟨Nat.le_of_ble_eq_true rfl, Nat.le_of_ble_eq_true rfl⟩ dL_law_4 (fun r1 n1 w1 h1 => ?_)
  obtain ⟨rfl, rfl, hw1⟩ := h1
  show Y x G b _ _ 578 w1 7 [(0, .ref sb)] (.ref (ad b 0) :: [])
  refine y_astore_n (lv' := [(1, .ref (ad b 0)), (0, .ref sb)]) hB dL_law_7 rfl (by decide) rfl ?_
  refine y_world (w2 := wM G b C0 S0) hw1 ?_
  refine y_widen (cl' := 578) (sl' := 5022) (Nat.le_of_ble_eq_true rfl) (Nat.le_of_ble_eq_true rfl) ?_
  exact law_from hB hX hZ hL Iv_0 C0_p (by decide) hEnd
