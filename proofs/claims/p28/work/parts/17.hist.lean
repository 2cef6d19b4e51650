/-! the history: a ring of four desks -/
theorem up2_id (C : gM) (k j : Int) : up2 C k j (C k j) = C := by
  funext a i
  by_cases h : a = k
  · subst h
    rw [rd_at]
    by_cases h2 : i = j
    · rw [if_pos h2, h2]
    · rw [if_neg h2]
  · rw [rd_k h]
def hfst (C : gM) : Int := if C 169 2 < 4 then C 169 1 else (C 169 1 + 1) % 4
def hsz (C : gM) : Int := if C 169 2 < 4 then C 169 2 else 3
def hat (f n : Int) : Int := 171 + 84 * ((f + n) % 4)
def remC (C : gM) : gM := up2 (cpN (up2 (up2 C 169 1 (hfst C)) 169 2 (hsz C)) (hat (hfst C) (hsz C)) 1 (C 1 3)) 169 2 (hsz C + 1)
def tkL (C : gM) : gM := up2 (cpN C 1 (hat (C 169 1) (C 169 2 - 1)) (C (hat (C 169 1) (C 169 2 - 1)) 3)) 169 2 (C 169 2 - 1)
theorem hat_b (f n : Int) : 171 ≤ hat f n ∧ hat f n ≤ 423 := by unfold hat; omega
theorem hat_desk (f n : Int) : isDesk (hat f n) := by
  have := desk_h (t := (f + n) % 4) (by omega)
  rwa [show 170 + 1 + 84 * ((f + n) % 4) = hat f n by unfold hat; omega] at this
theorem remC_out {C : gM} {a : Int} (h : a < 169 ∨ a = 170 ∨ 507 ≤ a) (h3 : 0 ≤ C 1 3 ∧ C 1 3 ≤ 20) : remC C a = C a := by
  have := hat_b (hfst C) (hsz C)
  unfold remC
  rw [up2_ne _ _ _ (by omega), cpN_out (by omega) h3.1, up2_ne _ _ _ (by omega), up2_ne _ _ _ (by omega)]
theorem remC_ag {C : gM} (h3 : 0 ≤ C 1 3 ∧ C 1 3 ≤ 20) : agD C (remC C) 1 := fun a _ _ => remC_out (by omega) h3
set_option maxHeartbeats 4000000 in
theorem tX1_size (l : Launch) (G : gG) (b : Nat) (C S : gM)  : Ct l G b yX1_size cX1_size 1 (some .int) rmX1_size [.ref (ad b (169))] 578 (wM G b C S) (RI G b C S (fun v => v = C 169 2)) := by
  refine CtK_of (by decide) (Nat.le_of_ble_eq_true rfl) q346 ?_
  intro x hl hB hE _
  subst hl
  show YM x G b 0 0 C S 0 [(0, .ref (ad b (169)))] []
  refine y_aload_n hB 0 dX1_size_0 rfl rfl ?_
  refine gt_1_2 hB (by decide) (t1 := C 169 2) rfl dX1_size_1 ?_
  exact m_ri hB hE dX1_size_4 rfl (rfl)
set_option maxHeartbeats 4000000 in
theorem tX1_stateAt (l : Launch) (G : gG) (b : Nat) (C S : gM) (u q : Int) (hf : 0 ≤ C 169 1 ∧ C 169 1 < 4) (hu : 0 ≤ u ∧ u < 4) (e : hat (C 169 1) u = q) : Ct l G b yX1_stateAt cX1_stateAt 3 (some (.object "LivesAhead$Desk")) rmX1_stateAt [.ref (ad b (169)), .int (iI (u))] 578 (wM G b C S) (RR G b C S (.ref (ad b q))) := by
  refine CtK_of (by decide) (Nat.le_of_ble_eq_true rfl) q206 ?_
  intro x hl hB hE _
  subst hl
  show YM x G b 0 0 C S 0 [(0, .ref (ad b (169))), (1, .int (iI (u)))] []
  unfold hat at e
  refine y_aload_n hB 0 dX1_stateAt_0 rfl rfl ?_
  refine gt_1_1 hB (by decide) (t1 := C 169 1) rfl dX1_stateAt_1 ?_
  refine y_iload_n hB 1 dX1_stateAt_4 rfl rfl ?_
  refine y_iadd (t := C 169 1 + u) hB dX1_stateAt_5 (by omega) ?_
  refine y_istore_n (lv' := [(2, .int (iI (C 169 1 + u))), (0, .ref (ad b (169))), (1, .int (iI (u)))]) hB dX1_stateAt_6 rfl (by decide) rfl ?_
  refine y_iload_n hB 2 dX1_stateAt_7 rfl rfl ?_
  refine y_if_lt hB 15 dX1_stateAt_8 (by decide) (by omega) (fun c_8 => ?_) (fun c_8 => ?_)
  · exfalso
    omega
  · refine y_iload_n hB 0 dX1_stateAt_11 rfl rfl ?_
    refine y_if_ge hB 17 dX1_stateAt_12 (by decide) (by omega) (fun c_12 => ?_) (fun c_12 => ?_)
    · refine y_aload_n hB 1 dX1_stateAt_17 rfl rfl ?_
      refine gt_1_0 hB (by decide) (t1 := 170) (by omega) dX1_stateAt_18 ?_
      refine y_iload_n hB 0 dX1_stateAt_21 rfl rfl ?_
      refine y_iconst (v := 4) hB dX1_stateAt_22 rfl ?_
      refine y_irem hB dX1_stateAt_23 (by omega) (by omega) ?_
      refine ald_8 hB (by decide) (by omega) (t1 := 84 * ((C 169 1 + u) % 4) + 171) (by omega) dX1_stateAt_24 ?_
      rw [show 84 * ((C 169 1 + u) % 4) + 171 = q by omega]
      exact m_rr hB hE dX1_stateAt_25 (Or.inr ⟨_, rfl⟩)
    · exfalso
      omega
set_option maxHeartbeats 4000000 in
theorem tX1_remember (l : Launch) (G : gG) (b : Nat) (C S : gM) (hf : 0 ≤ C 169 1 ∧ C 169 1 < 4) (hs : 0 ≤ C 169 2 ∧ C 169 2 ≤ 4) (h3 : 0 ≤ C 1 3 ∧ C 1 3 ≤ 20) : Ct l G b yX1_remember cX1_remember 3 none rmX1_remember [.ref (ad b (169)), .ref (ad b (1))] 578 (wM G b C S) (WV G b S (fun C' => C' = remC C)) := by
  refine CtK_of (by decide) (Nat.le_of_ble_eq_true rfl) q202 ?_
  intro x hl hB hE _
  subst hl
  show YM x G b 0 0 C S 0 [(0, .ref (ad b (169))), (1, .ref (ad b (1)))] []
  refine y_aload_n hB 0 dX1_remember_0 rfl rfl ?_
  refine gt_1_2 hB (by decide) (t1 := C 169 2) rfl dX1_remember_1 ?_
  refine y_iconst (v := 4) hB dX1_remember_4 rfl ?_
  refine y_icmp_lt hB 25 dX1_remember_5 (by decide) (by omega) (by omega) (fun c_5 => ?_) (fun c_5 => ?_)
  · have f1 : hfst C = C 169 1 := if_pos (by omega)
    have f2 : hsz C = C 169 2 := if_pos (by omega)
    refine y_aload_n hB 0 dX1_remember_25 rfl rfl ?_
    refine y_aload_n hB 0 dX1_remember_26 rfl rfl ?_
    refine gt_1_2 hB (by decide) (t1 := C 169 2) rfl dX1_remember_27 ?_
    obtain ⟨q30, hq_30⟩ : ∃ q, hat (C 169 1) (C 169 2) = q := ⟨_, rfl⟩
    have hdq_30 : isDesk q30 := hq_30 ▸ hat_desk _ _
    have hqb_30 : 171 ≤ q30 ∧ q30 ≤ 423 := hq_30 ▸ hat_b _ _
    refine m_V hB msX1_stateAt q203 (tX1_stateAt _ G b C S (C 169 2) q30 (by omega) (by omega) (by rw [show C 169 1 = C 169 1 from rfl]; exact hq_30)) (t := 7) (by decide) (by decide) rfl rfl rfl rfl rfl ⟨Nat.le_of_ble_eq_true rfl, Nat.le_of_ble_eq_true rfl⟩ (Nat.le_of_ble_eq_true rfl) ⟨rfl, rfl⟩ ⟨Nat.le_of_ble_eq_true rfl, Nat.le_of_ble_eq_true rfl⟩ dX1_remember_30 (k_RR ?_)
    refine y_astore_n (lv' := [(2, .ref (ad b (q30))), (0, .ref (ad b (169))), (1, .ref (ad b (1)))]) hB dX1_remember_33 rfl (by decide) rfl ?_
    refine y_aload_n hB 0 dX1_remember_34 rfl rfl ?_
    refine y_ifnull hB dX1_remember_35 ?_
    refine y_aload_n hB 0 dX1_remember_38 rfl rfl ?_
    refine y_aload_n hB 2 dX1_remember_39 rfl rfl ?_
    refine m_V hB msX0_copyFrom q207 (tX0_copyFrom _ G b C S q30 1 0 hdq_30 desk_1 (by omega) (by omega)) (t := 1) (hdq_30).1 (by decide) rfl rfl rfl rfl rfl ⟨Nat.le_of_ble_eq_true rfl, Nat.le_of_ble_eq_true rfl⟩ (Nat.le_of_ble_eq_true rfl) ⟨rfl, rfl⟩ ⟨Nat.le_of_ble_eq_true rfl, Nat.le_of_ble_eq_true rfl⟩ dX1_remember_40 (k_WV (fun C_40 h_40 => ?_))
    have e169 : C_40 169 2 = hsz C := (by rw [h_40, cpN_out (by omega) (by first | omega | (rw [rd_k (by omega), rd_k (by omega)]; omega)), f2] <;> exact rd_hit rfl rfl)
    have hb169 : 0 ≤ C_40 169 2 ∧ C_40 169 2 ≤ 3 := (by rw [e169, f2]; omega)
    refine y_aload_n hB 1 dX1_remember_43 rfl rfl ?_
    refine y_dup hB dX1_remember_44 rfl ?_
    refine gt_1_2 hB (by decide) (t1 := C_40 169 2) rfl dX1_remember_45 ?_
    refine y_iconst (v := 1) hB dX1_remember_48 rfl ?_
    refine y_iadd (t := C_40 169 2 + 1) hB dX1_remember_49 (by omega) ?_
    refine pt_1_2 hB (by decide) dX1_remember_50 ?_
    exact m_wv hB hE dX1_remember_53 (by unfold remC; rw [e169, f1, f2, h_40, hq_30]; first | rw [up2_id, up2_id] | rw [rd_k (by omega), rd_k (by omega)])
  · have f1 : hfst C = (C 169 1 + 1) % 4 := if_neg (by omega)
    have f2 : hsz C = 3 := if_neg (by omega)
    refine y_aload_n hB 0 dX1_remember_8 rfl rfl ?_
    refine y_aload_n hB 0 dX1_remember_9 rfl rfl ?_
    refine gt_1_1 hB (by decide) (t1 := C 169 1) rfl dX1_remember_10 ?_
    refine y_iconst (v := 1) hB dX1_remember_13 rfl ?_
    refine y_iadd (t := C 169 1 + 1) hB dX1_remember_14 (by omega) ?_
    refine y_iconst (v := 4) hB dX1_remember_15 rfl ?_
    refine y_irem hB dX1_remember_16 (by omega) (by omega) ?_
    refine pt_1_1 hB (by decide) dX1_remember_17 ?_
    refine y_aload_n hB 0 dX1_remember_20 rfl rfl ?_
    refine y_iconst (v := 3) hB dX1_remember_21 rfl ?_
    refine pt_1_2 hB (by decide) dX1_remember_22 ?_
    refine y_aload_n hB 0 dX1_remember_25 rfl rfl ?_
    refine y_aload_n hB 0 dX1_remember_26 rfl rfl ?_
    refine gt_1_2 hB (by decide) (t1 := 3) (rd_hit (by omega) (by omega)) dX1_remember_27 ?_
    obtain ⟨q30, hq_30⟩ : ∃ q, hat ((C 169 1 + 1) % 4) (3) = q := ⟨_, rfl⟩
    have hdq_30 : isDesk q30 := hq_30 ▸ hat_desk _ _
    have hqb_30 : 171 ≤ q30 ∧ q30 ≤ 423 := hq_30 ▸ hat_b _ _
    refine m_V hB msX1_stateAt q203 (tX1_stateAt _ G b (up2 (up2 C 169 1 ((C 169 1 + 1) % 4)) 169 2 3) S 3 q30 (by have h90 : (up2 (up2 C 169 1 ((C 169 1 + 1) % 4)) 169 2 3) 169 1 = (C 169 1 + 1) % 4 := ((rd_i (by omega)).trans (rd_hit (by omega) (by omega))); omega) (by omega) (by rw [show (up2 (up2 C 169 1 ((C 169 1 + 1) % 4)) 169 2 3) 169 1 = (C 169 1 + 1) % 4 from ((rd_i (by omega)).trans (rd_hit (by omega) (by omega)))]; exact hq_30)) (t := 7) (by decide) (by decide) rfl rfl rfl rfl rfl ⟨Nat.le_of_ble_eq_true rfl, Nat.le_of_ble_eq_true rfl⟩ (Nat.le_of_ble_eq_true rfl) ⟨rfl, rfl⟩ ⟨Nat.le_of_ble_eq_true rfl, Nat.le_of_ble_eq_true rfl⟩ dX1_remember_30 (k_RR ?_)
    refine y_astore_n (lv' := [(2, .ref (ad b (q30))), (0, .ref (ad b (169))), (1, .ref (ad b (1)))]) hB dX1_remember_33 rfl (by decide) rfl ?_
    refine y_aload_n hB 0 dX1_remember_34 rfl rfl ?_
    refine y_ifnull hB dX1_remember_35 ?_
    refine y_aload_n hB 0 dX1_remember_38 rfl rfl ?_
    refine y_aload_n hB 2 dX1_remember_39 rfl rfl ?_
    refine m_V hB msX0_copyFrom q207 (tX0_copyFrom _ G b (up2 (up2 C 169 1 ((C 169 1 + 1) % 4)) 169 2 3) S q30 1 0 hdq_30 desk_1 (by omega) (by have h90 : (up2 (up2 C 169 1 ((C 169 1 + 1) % 4)) 169 2 3) 1 3 = C 1 3 := ((rd_k (by omega)).trans (rd_k (by omega))); omega)) (t := 1) (hdq_30).1 (by decide) rfl rfl rfl rfl rfl ⟨Nat.le_of_ble_eq_true rfl, Nat.le_of_ble_eq_true rfl⟩ (Nat.le_of_ble_eq_true rfl) ⟨rfl, rfl⟩ ⟨Nat.le_of_ble_eq_true rfl, Nat.le_of_ble_eq_true rfl⟩ dX1_remember_40 (k_WV (fun C_40 h_40 => ?_))
    have e169 : C_40 169 2 = hsz C := (by rw [h_40, cpN_out (by omega) (by first | omega | (rw [rd_k (by omega), rd_k (by omega)]; omega)), f2] <;> exact rd_hit rfl rfl)
    have hb169 : 0 ≤ C_40 169 2 ∧ C_40 169 2 ≤ 3 := (by rw [e169, f2]; omega)
    refine y_aload_n hB 1 dX1_remember_43 rfl rfl ?_
    refine y_dup hB dX1_remember_44 rfl ?_
    refine gt_1_2 hB (by decide) (t1 := C_40 169 2) rfl dX1_remember_45 ?_
    refine y_iconst (v := 1) hB dX1_remember_48 rfl ?_
    refine y_iadd (t := C_40 169 2 + 1) hB dX1_remember_49 (by omega) ?_
    refine pt_1_2 hB (by decide) dX1_remember_50 ?_
    exact m_wv hB hE dX1_remember_53 (by unfold remC; rw [e169, f1, f2, h_40, hq_30]; first | rw [up2_id, up2_id] | rw [rd_k (by omega), rd_k (by omega)])
set_option maxHeartbeats 4000000 in
theorem tX1_takeLatest (l : Launch) (G : gG) (b : Nat) (C S : gM) (hf : 0 ≤ C 169 1 ∧ C 169 1 < 4) (hs : 1 ≤ C 169 2 ∧ C 169 2 ≤ 4) (h3 : 0 ≤ C (hat (C 169 1) (C 169 2 - 1)) 3 ∧ C (hat (C 169 1) (C 169 2 - 1)) 3 ≤ 20) : Ct l G b yX1_takeLatest cX1_takeLatest 3 none rmX1_takeLatest [.ref (ad b (169)), .ref (ad b (1))] 578 (wM G b C S) (WV G b S (fun C' => C' = tkL C)) := by
  refine CtK_of (by decide) (Nat.le_of_ble_eq_true rfl) q350 ?_
  intro x hl hB hE _
  subst hl
  show YM x G b 0 0 C S 0 [(0, .ref (ad b (169))), (1, .ref (ad b (1)))] []
  refine y_aload_n hB 0 dX1_takeLatest_0 rfl rfl ?_
  refine y_aload_n hB 0 dX1_takeLatest_1 rfl rfl ?_
  refine gt_1_2 hB (by decide) (t1 := C 169 2) rfl dX1_takeLatest_2 ?_
  refine y_iconst (v := 1) hB dX1_takeLatest_5 rfl ?_
  refine y_isub (t := C 169 2 - 1) hB dX1_takeLatest_6 (by omega) ?_
  obtain ⟨q7, hq_7⟩ : ∃ q, hat (C 169 1) (C 169 2 - 1) = q := ⟨_, rfl⟩
  have hdq_7 : isDesk q7 := hq_7 ▸ hat_desk _ _
  have hqb_7 : 171 ≤ q7 ∧ q7 ≤ 423 := hq_7 ▸ hat_b _ _
  refine m_V hB msX1_stateAt q203 (tX1_stateAt _ G b C S (C 169 2 - 1) q7 (by omega) (by omega) (by rw [show C 169 1 = C 169 1 from rfl]; exact hq_7)) (t := 7) (by decide) (by decide) rfl rfl rfl rfl rfl ⟨Nat.le_of_ble_eq_true rfl, Nat.le_of_ble_eq_true rfl⟩ (Nat.le_of_ble_eq_true rfl) ⟨rfl, rfl⟩ ⟨Nat.le_of_ble_eq_true rfl, Nat.le_of_ble_eq_true rfl⟩ dX1_takeLatest_7 (k_RR ?_)
  rw [hq_7] at h3
  refine y_astore_n (lv' := [(2, .ref (ad b (q7))), (0, .ref (ad b (169))), (1, .ref (ad b (1)))]) hB dX1_takeLatest_10 rfl (by decide) rfl ?_
  refine y_aload_n hB 0 dX1_takeLatest_11 rfl rfl ?_
  refine y_ifnull hB dX1_takeLatest_12 ?_
  refine y_aload_n hB 2 dX1_takeLatest_15 rfl rfl ?_
  refine y_aload_n hB 0 dX1_takeLatest_16 rfl rfl ?_
  refine m_V hB msX0_copyFrom q207 (tX0_copyFrom _ G b C S 1 q7 0 desk_1 hdq_7 (by omega) (by omega)) (t := 1) (desk_1).1 (by decide) rfl rfl rfl rfl rfl ⟨Nat.le_of_ble_eq_true rfl, Nat.le_of_ble_eq_true rfl⟩ (Nat.le_of_ble_eq_true rfl) ⟨rfl, rfl⟩ ⟨Nat.le_of_ble_eq_true rfl, Nat.le_of_ble_eq_true rfl⟩ dX1_takeLatest_17 (k_WV (fun C_17 h_17 => ?_))
  have e169 : C_17 169 2 = C 169 2 := (by rw [h_17, cpN_out (by omega) h3.1])
  refine y_aload_n hB 1 dX1_takeLatest_20 rfl rfl ?_
  refine y_dup hB dX1_takeLatest_21 rfl ?_
  refine gt_1_2 hB (by decide) (t1 := C_17 169 2) rfl dX1_takeLatest_22 ?_
  refine y_iconst (v := 1) hB dX1_takeLatest_25 rfl ?_
  refine y_isub (t := C_17 169 2 - 1) hB dX1_takeLatest_26 (by omega) ?_
  refine pt_1_2 hB (by decide) dX1_takeLatest_27 ?_
  exact m_wv hB hE dX1_takeLatest_30 (by unfold tkL; rw [e169, h_17, hq_7])
