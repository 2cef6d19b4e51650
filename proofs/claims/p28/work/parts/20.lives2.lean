/-! the other acts of the desk, and what is told -/
set_option maxHeartbeats 4000000 in
theorem tX6_undo (l : Launch) (G : gG) (b : Nat) (C S : gM) (N : Int) (hD : DkOk C 1 N) (hN : N ≤ 512) (hhf : 0 ≤ C 169 1 ∧ C 169 1 < 4) (hhs : 0 ≤ C 169 2 ∧ C 169 2 ≤ 4) (hht0 : 1 ≤ C 169 2 → 0 ≤ C (hat (C 169 1) (C 169 2 - 1)) 3 ∧ C (hat (C 169 1) (C 169 2 - 1)) 3 ≤ 20) : Ct l G b yX6_undo cX6_undo 1 (some .int) rmX6_undo [.ref (ad b (0))] 578 (wM G b C S) (WI G b S (fun v C' => ((C 169 2 < 1) ∧ v = -5 ∧ C' = C) ∨ ((1 ≤ C 169 2) ∧ v = C 169 2 - 1 ∧ C' = tkL C))) := by
  refine CtK_of (by decide) (Nat.le_of_ble_eq_true rfl) q342 ?_
  intro x hl hB hE _
  subst hl
  show YM x G b 0 0 C S 0 [(0, .ref (ad b (0)))] []
  obtain ⟨hd3, hd4, hd5, hd6, hs0, hs1, hs2, hs3, hs4, htr, hlv⟩ := id hD
  refine y_aload_n hB 0 dX6_undo_0 rfl rfl ?_
  refine gt_6_3 hB (by decide) (t1 := 169) (by omega) dX6_undo_1 ?_
  refine m_V hB msX1_size q343 (tX1_size _ G b C S) (t := 7) (by decide) (by decide) rfl rfl rfl rfl rfl ⟨Nat.le_of_ble_eq_true rfl, Nat.le_of_ble_eq_true rfl⟩ (Nat.le_of_ble_eq_true rfl) ⟨rfl, rfl⟩ ⟨Nat.le_of_ble_eq_true rfl, Nat.le_of_ble_eq_true rfl⟩ dX6_undo_4 (k_RI (fun v_4 h_4 => ?_))
  refine y_iconst (v := 1) hB dX6_undo_7 rfl ?_
  refine y_icmp_ge hB 14 dX6_undo_8 (by decide) (by omega) (by omega) (fun c_8 => ?_) (fun c_8 => ?_)
  · have hhs1 : 1 ≤ C 169 2 ∧ C 169 2 ≤ 4 := by omega
    have hht := hht0 (by omega)
    refine y_aload_n hB 0 dX6_undo_14 rfl rfl ?_
    refine gt_6_3 hB (by decide) (t1 := 169) (by omega) dX6_undo_15 ?_
    refine y_aload_n hB 0 dX6_undo_18 rfl rfl ?_
    refine gt_6_0 hB (by decide) (t1 := 1) (by omega) dX6_undo_19 ?_
    refine m_V hB msX1_takeLatest q347 (tX1_takeLatest _ G b C S hhf hhs1 hht) (t := 7) (by decide) (by decide) rfl rfl rfl rfl rfl ⟨Nat.le_of_ble_eq_true rfl, Nat.le_of_ble_eq_true rfl⟩ (Nat.le_of_ble_eq_true rfl) ⟨rfl, rfl⟩ ⟨Nat.le_of_ble_eq_true rfl, Nat.le_of_ble_eq_true rfl⟩ dX6_undo_22 (k_WV (fun C_22 h_22 => ?_))
    obtain rfl := h_22
    refine y_aload_n hB 0 dX6_undo_25 rfl rfl ?_
    refine gt_6_3 hB (by decide) (t1 := 169) (by omega) dX6_undo_26 ?_
    refine m_V hB msX1_size q343 (tX1_size _ G b (tkL C) S) (t := 7) (by decide) (by decide) rfl rfl rfl rfl rfl ⟨Nat.le_of_ble_eq_true rfl, Nat.le_of_ble_eq_true rfl⟩ (Nat.le_of_ble_eq_true rfl) ⟨rfl, rfl⟩ ⟨Nat.le_of_ble_eq_true rfl, Nat.le_of_ble_eq_true rfl⟩ dX6_undo_29 (k_RI (fun v_29 h_29 => ?_))
    exact m_wi hB hE dX6_undo_32 rfl (Or.inr (⟨by omega, by rw [h_29]; unfold tkL; rw [rd_hit rfl rfl], rfl⟩))
  · refine y_bipush (v := -5) hB dX6_undo_11 (by decide) ?_
    exact m_wi hB hE dX6_undo_13 rfl (Or.inl (⟨by omega, rfl, rfl⟩))
set_option maxHeartbeats 4000000 in
theorem tX6_keep (l : Launch) (G : gG) (b : Nat) (C S : gM) (N : Int) (hD : DkOk C 1 N) (hN : N ≤ 512) (hhf : 0 ≤ C 169 1 ∧ C 169 1 < 4) (hhs : 0 ≤ C 169 2 ∧ C 169 2 ≤ 4) : Ct l G b yX6_keep cX6_keep 1 (some .int) rmX6_keep [.ref (ad b (0))] 578 (wM G b C S) (WI G b S (fun v C' => v = C 1 4 ∧ C' = up2 (cpN C 85 1 (C 1 3)) 0 2 1)) := by
  refine CtK_of (by decide) (Nat.le_of_ble_eq_true rfl) q354 ?_
  intro x hl hB hE _
  subst hl
  show YM x G b 0 0 C S 0 [(0, .ref (ad b (0)))] []
  obtain ⟨hd3, hd4, hd5, hd6, hs0, hs1, hs2, hs3, hs4, htr, hlv⟩ := id hD
  refine y_aload_n hB 0 dX6_keep_0 rfl rfl ?_
  refine gt_6_1 hB (by decide) (t1 := 85) (by omega) dX6_keep_1 ?_
  refine y_aload_n hB 0 dX6_keep_4 rfl rfl ?_
  refine gt_6_0 hB (by decide) (t1 := 1) (by omega) dX6_keep_5 ?_
  refine m_V hB msX0_copyFrom q355 (tX0_copyFrom _ G b C S 85 1 0 desk_85 desk_1 (by omega) (by omega)) (t := 1) (desk_85).1 (by decide) rfl rfl rfl rfl rfl ⟨Nat.le_of_ble_eq_true rfl, Nat.le_of_ble_eq_true rfl⟩ (Nat.le_of_ble_eq_true rfl) ⟨rfl, rfl⟩ ⟨Nat.le_of_ble_eq_true rfl, Nat.le_of_ble_eq_true rfl⟩ dX6_keep_8 (k_WV (fun C_8 h_8 => ?_))
  refine y_aload_n hB 0 dX6_keep_11 rfl rfl ?_
  refine y_iconst (v := 1) hB dX6_keep_12 rfl ?_
  refine pt_6_2 hB (by decide) (by omega) dX6_keep_13 ?_
  refine y_aload_n hB 0 dX6_keep_16 rfl rfl ?_
  refine gt_6_0 hB (by decide) (t1 := 1) (by omega) dX6_keep_17 ?_
  refine m_V hB msX0_today q356 (tX0_today _ G b (up2 C_8 0 2 1) S 1 (desk_1).1) (t := 1) (desk_1).1 (by decide) rfl rfl rfl rfl rfl ⟨Nat.le_of_ble_eq_true rfl, Nat.le_of_ble_eq_true rfl⟩ (Nat.le_of_ble_eq_true rfl) ⟨rfl, rfl⟩ ⟨Nat.le_of_ble_eq_true rfl, Nat.le_of_ble_eq_true rfl⟩ dX6_keep_20 (k_RI (fun v_20 h_20 => ?_))
  exact m_wi hB hE dX6_keep_23 rfl (⟨by rw [h_20, rd_k (by omega), h_8, cpN_out (by omega) (by omega)], by rw [h_8]⟩)
set_option maxHeartbeats 4000000 in
theorem tX6_restore (l : Launch) (G : gG) (b : Nat) (C S : gM) (N : Int) (hD : DkOk C 1 N) (hN : N ≤ 512) (hhf : 0 ≤ C 169 1 ∧ C 169 1 < 4) (hhs : 0 ≤ C 169 2 ∧ C 169 2 ≤ 4) (hz : C 0 2 = 0 ∨ C 0 2 = 1) (h85 : 0 ≤ C 85 3 ∧ C 85 3 ≤ 20) : Ct l G b yX6_restore cX6_restore 1 (some .int) rmX6_restore [.ref (ad b (0))] 578 (wM G b C S) (WI G b S (fun v C' => ((C 0 2 = 0) ∧ v = -5 ∧ C' = C) ∨ ((C 0 2 = 1) ∧ v = remC C 85 4 ∧ C' = cpN (remC C) 1 85 (remC C 85 3)))) := by
  refine CtK_of (by decide) (Nat.le_of_ble_eq_true rfl) q363 ?_
  intro x hl hB hE _
  subst hl
  show YM x G b 0 0 C S 0 [(0, .ref (ad b (0)))] []
  obtain ⟨hd3, hd4, hd5, hd6, hs0, hs1, hs2, hs3, hs4, htr, hlv⟩ := id hD
  refine y_aload_n hB 0 dX6_restore_0 rfl rfl ?_
  refine gt_6_2 hB (by decide) (t1 := C 0 2) rfl dX6_restore_1 ?_
  refine y_if_ne hB 10 dX6_restore_4 (by decide) (by omega) (fun c_4 => ?_) (fun c_4 => ?_)
  · refine y_aload_n hB 0 dX6_restore_10 rfl rfl ?_
    refine gt_6_3 hB (by decide) (t1 := 169) (by omega) dX6_restore_11 ?_
    refine y_aload_n hB 0 dX6_restore_14 rfl rfl ?_
    refine gt_6_0 hB (by decide) (t1 := 1) (by omega) dX6_restore_15 ?_
    refine m_V hB msX1_remember q199 (tX1_remember _ G b C S hhf hhs hd3) (t := 7) (by decide) (by decide) rfl rfl rfl rfl rfl ⟨Nat.le_of_ble_eq_true rfl, Nat.le_of_ble_eq_true rfl⟩ (Nat.le_of_ble_eq_true rfl) ⟨rfl, rfl⟩ ⟨Nat.le_of_ble_eq_true rfl, Nat.le_of_ble_eq_true rfl⟩ dX6_restore_18 (k_WV (fun C_18 h_18 => ?_))
    obtain rfl := h_18
    have agR := remC_ag hd3
    have hDR := DkOk_ag agR hD
    have er := agR 1 (by omega) (by omega)
    have e3 : (remC C) 1 3 = C 1 3 := by rw [er]
    have e4 : (remC C) 1 4 = C 1 4 := by rw [er]
    have e5 : (remC C) 1 5 = C 1 5 := by rw [er]
    have e6 : (remC C) 1 6 = C 1 6 := by rw [er]
    have h853 : (remC C) 85 3 = C 85 3 := by rw [remC_out (by omega) hd3]
    refine y_aload_n hB 0 dX6_restore_21 rfl rfl ?_
    refine gt_6_0 hB (by decide) (t1 := 1) (by omega) dX6_restore_22 ?_
    refine y_aload_n hB 0 dX6_restore_25 rfl rfl ?_
    refine gt_6_1 hB (by decide) (t1 := 85) (by omega) dX6_restore_26 ?_
    refine m_V hB msX0_copyFrom q355 (tX0_copyFrom _ G b (remC C) S 1 85 0 desk_1 desk_85 (by omega) (by omega)) (t := 1) (desk_1).1 (by decide) rfl rfl rfl rfl rfl ⟨Nat.le_of_ble_eq_true rfl, Nat.le_of_ble_eq_true rfl⟩ (Nat.le_of_ble_eq_true rfl) ⟨rfl, rfl⟩ ⟨Nat.le_of_ble_eq_true rfl, Nat.le_of_ble_eq_true rfl⟩ dX6_restore_29 (k_WV (fun C_29 h_29 => ?_))
    refine y_aload_n hB 0 dX6_restore_32 rfl rfl ?_
    refine gt_6_0 hB (by decide) (t1 := 1) (by omega) dX6_restore_33 ?_
    refine m_V hB msX0_today q356 (tX0_today _ G b C_29 S 1 (desk_1).1) (t := 1) (desk_1).1 (by decide) rfl rfl rfl rfl rfl ⟨Nat.le_of_ble_eq_true rfl, Nat.le_of_ble_eq_true rfl⟩ (Nat.le_of_ble_eq_true rfl) ⟨rfl, rfl⟩ ⟨Nat.le_of_ble_eq_true rfl, Nat.le_of_ble_eq_true rfl⟩ dX6_restore_36 (k_RI (fun v_36 h_36 => ?_))
    exact m_wi hB hE dX6_restore_39 rfl (Or.inr (⟨by omega, by rw [h_36, h_29, cpN_o (by omega)], h_29⟩))
  · refine y_bipush (v := -5) hB dX6_restore_7 (by decide) ?_
    exact m_wi hB hE dX6_restore_9 rfl (Or.inl (⟨by omega, rfl, rfl⟩))
set_option maxHeartbeats 4000000 in
theorem tX6_worth (l : Launch) (G : gG) (b : Nat) (C S : gM) (u N : Int) (hu : -2147483648 ≤ u ∧ u ≤ 2147483647) (hD : DkOk C 1 N) (hN : N ≤ 512) (hhf : 0 ≤ C 169 1 ∧ C 169 1 < 4) (hhs : 0 ≤ C 169 2 ∧ C 169 2 ≤ 4) : Ct l G b yX6_worth cX6_worth 3 (some .float) rmX6_worth [.ref (ad b (0)), .int (iI (u))] 578 (wM G b C S) (RF G b C S (fun v => (¬ (0 ≤ u ∧ u < C 1 3) ∧ v = 3212836864) ∨ ((0 ≤ u ∧ u < C 1 3) ∧ v = wsI (fun j => FP.fmul (WF (C (1 + 2) (C (4 * u + 5 + 1) j)) (C 1 4 - C (4 * u + 5 + 3) j)) (FP.i2f (iI (C (4 * u + 5 + 2) j)))) (C (4 * u + 5) 6)))) := by
  refine CtK_of (by decide) (Nat.le_of_ble_eq_true rfl) q540 ?_
  intro x hl hB hE _
  subst hl
  show YM x G b 0 0 C S 0 [(0, .ref (ad b (0))), (1, .int (iI (u)))] []
  obtain ⟨hd3, hd4, hd5, hd6, hs0, hs1, hs2, hs3, hs4, htr, hlv⟩ := id hD
  refine y_aload_n hB 0 dX6_worth_0 rfl rfl ?_
  refine gt_6_0 hB (by decide) (t1 := 1) (by omega) dX6_worth_1 ?_
  refine y_iload_n hB 1 dX6_worth_4 rfl rfl ?_
  by_cases hpr : 0 ≤ u ∧ u < C 1 3
  · refine m_V hB msX0_lifeOf q368 (tX0_lifeOf _ G b C S 1 u (4 * u + 5) desk_1 (by omega) (by omega) (by omega)) (t := 1) (desk_1).1 (by decide) rfl rfl rfl rfl rfl ⟨Nat.le_of_ble_eq_true rfl, Nat.le_of_ble_eq_true rfl⟩ (Nat.le_of_ble_eq_true rfl) ⟨rfl, rfl⟩ ⟨Nat.le_of_ble_eq_true rfl, Nat.le_of_ble_eq_true rfl⟩ dX6_worth_5 (k_RR ?_)
    have hq_5 : isLife (4 * u + 5) := life_at desk_1 (i := u) (by omega) (by omega)
    have hl_5 := hlv (u) (by omega) (by omega)
    rw [show 4 * (u) + 1 + 4 = 4 * u + 5 by omega] at hl_5
    obtain ⟨ha_5, hb_5, hc_5, hd_5, he_5, hf_5, hg_5, hh_5, hi_5⟩ := id hl_5
    refine y_astore_n (lv' := [(2, .ref (ad b (4 * u + 5))), (0, .ref (ad b (0))), (1, .int (iI (u)))]) hB dX6_worth_8 rfl (by decide) rfl ?_
    refine y_aload_n hB 0 dX6_worth_9 rfl rfl ?_
    refine y_ifnonnull hB 17 dX6_worth_10 (by decide) ?_
    refine y_aload_n hB 1 dX6_worth_17 rfl rfl ?_
    refine gt_6_0 hB (by decide) (t1 := 1) (by omega) dX6_worth_18 ?_
    refine y_aload_n hB 0 dX6_worth_21 rfl rfl ?_
    refine m_V hB msX0_worthOfLife q542 (tX0_worthOfLife _ G b C S 1 (4 * u + 5) N desk_1 hq_5 hD hl_5 hN) (t := 1) (desk_1).1 (by decide) rfl rfl rfl rfl rfl ⟨Nat.le_of_ble_eq_true rfl, Nat.le_of_ble_eq_true rfl⟩ (Nat.le_of_ble_eq_true rfl) ⟨rfl, rfl⟩ ⟨Nat.le_of_ble_eq_true rfl, Nat.le_of_ble_eq_true rfl⟩ dX6_worth_22 (k_RF (fun v_22 h_22 => ?_))
    exact m_rf hB hE dX6_worth_25 (Or.inr ⟨by omega, h_22⟩)
  · refine m_V hB msX0_lifeOf q368 (tX0_lifeOfN _ G b C S 1 u desk_1 (by omega) (by omega) (by omega)) (t := 1) (desk_1).1 (by decide) rfl rfl rfl rfl rfl ⟨Nat.le_of_ble_eq_true rfl, Nat.le_of_ble_eq_true rfl⟩ (Nat.le_of_ble_eq_true rfl) ⟨rfl, rfl⟩ ⟨Nat.le_of_ble_eq_true rfl, Nat.le_of_ble_eq_true rfl⟩ dX6_worth_5 (k_RR ?_)
    refine y_astore_nN (lv' := [(2, .null), (0, .ref (ad b (0))), (1, .int (iI (u)))]) hB dX6_worth_8 rfl (by decide) rfl ?_
    refine y_aload_nN hB 0 dX6_worth_9 rfl rfl ?_
    refine y_ifnonnullN hB dX6_worth_10 ?_
    refine y_ldcwf hB q541 dX6_worth_13 ?_
    exact m_rf hB hE dX6_worth_16 (Or.inl ⟨by omega, rfl⟩)
set_option maxHeartbeats 4000000 in
theorem tX6_urgent (l : Launch) (G : gG) (b : Nat) (C S : gM) (u N : Int) (hu : -2147483648 ≤ u ∧ u ≤ 2147483647) (hD : DkOk C 1 N) (hN : N ≤ 512) (hhf : 0 ≤ C 169 1 ∧ C 169 1 < 4) (hhs : 0 ≤ C 169 2 ∧ C 169 2 ≤ 4) : Ct l G b yX6_urgent cX6_urgent 2 (some .int) rmX6_urgent [.ref (ad b (0)), .int (iI (u))] 578 (wM G b C S) (WI G b S (fun v C' => (u < 0 ∧ v = -2 ∧ C' = C) ∨ (0 ≤ u ∧ Rkd C' 570 (fun i => C (4 * i + 1 + 4) 2 = 0) (urgP C 1) (C 1 3) ∧ (∀ a, a < 570 ∨ 572 < a → C' a = C a) ∧ ((u < C' 570 2 ∧ v = C' 571 u) ∨ (¬ u < C' 570 2 ∧ v = -5))))) := by
  refine CtK_of (by decide) (Nat.le_of_ble_eq_true rfl) q549 ?_
  intro x hl hB hE _
  subst hl
  show YM x G b 0 0 C S 0 [(0, .ref (ad b (0))), (1, .int (iI (u)))] []
  obtain ⟨hd3, hd4, hd5, hd6, hs0, hs1, hs2, hs3, hs4, htr, hlv⟩ := id hD
  refine y_iload_n hB 1 dX6_urgent_0 rfl rfl ?_
  refine y_if_ge hB 7 dX6_urgent_1 (by decide) (by omega) (fun c_1 => ?_) (fun c_1 => ?_)
  · refine y_aload_n hB 0 dX6_urgent_7 rfl rfl ?_
    refine gt_6_0 hB (by decide) (t1 := 1) (by omega) dX6_urgent_8 ?_
    refine y_aload_n hB 0 dX6_urgent_11 rfl rfl ?_
    refine gt_6_5 hB (by decide) (t1 := 570) (by omega) dX6_urgent_12 ?_
    refine m_V hB msX0_rankUrgencies q550 (tX0_rankUrgencies _ G b C S 1 570 N desk_1 rk_570 (by omega) hD hN) (t := 1) (desk_1).1 (by decide) rfl rfl rfl rfl rfl ⟨Nat.le_of_ble_eq_true rfl, Nat.le_of_ble_eq_true rfl⟩ (Nat.le_of_ble_eq_true rfl) ⟨rfl, rfl⟩ ⟨Nat.le_of_ble_eq_true rfl, Nat.le_of_ble_eq_true rfl⟩ dX6_urgent_15 (k_WV (fun C_15 h_15 => ?_))
    have hk_15 := h_15.1.1
    refine y_aload_n hB 0 dX6_urgent_18 rfl rfl ?_
    refine gt_6_5 hB (by decide) (t1 := 570) (by omega) dX6_urgent_19 ?_
    refine y_iload_n hB 1 dX6_urgent_22 rfl rfl ?_
    refine m_V hB msX5_personAt q556 (tX5_personAt _ G b C_15 S 570 u rk_570 (by omega) (by omega)) (t := 12) (by decide) (by decide) rfl rfl rfl rfl rfl ⟨Nat.le_of_ble_eq_true rfl, Nat.le_of_ble_eq_true rfl⟩ (Nat.le_of_ble_eq_true rfl) ⟨rfl, rfl⟩ ⟨Nat.le_of_ble_eq_true rfl, Nat.le_of_ble_eq_true rfl⟩ dX6_urgent_23 (k_RI (fun v_23 h_23 => ?_))
    exact m_wi hB hE dX6_urgent_26 rfl (Or.inr ⟨by omega, h_15.1, fun a ha => h_15.2 a (by omega), by rcases h_23 with g | g; exact Or.inl ⟨g.2.1, g.2.2⟩; exact Or.inr ⟨by omega, g.2⟩⟩)
  · refine y_bipush (v := -2) hB dX6_urgent_4 (by decide) ?_
    exact m_wi hB hE dX6_urgent_6 rfl (Or.inl ⟨by omega, rfl, rfl⟩)
set_option maxHeartbeats 4000000 in
theorem tX6_page (l : Launch) (G : gG) (b : Nat) (C S : gM) (u N : Int) (hu : -2147483648 ≤ u ∧ u ≤ 2147483647) (hD : DkOk C 1 N) (hN : N ≤ 512) (hhf : 0 ≤ C 169 1 ∧ C 169 1 < 4) (hhs : 0 ≤ C 169 2 ∧ C 169 2 ≤ 4) : Ct l G b yX6_page cX6_page 2 (some .int) rmX6_page [.ref (ad b (0)), .int (iI (u))] 578 (wM G b C S) (WI G b S (fun v C' => (u < 0 ∧ v = -2 ∧ C' = C) ∨ (0 ≤ u ∧ Laid C C' 1 ∧ ((u < C' 573 2 ∧ v = C' 577 u) ∨ (¬ u < C' 573 2 ∧ v = -5))))) := by
  refine CtK_of (by decide) (Nat.le_of_ble_eq_true rfl) q414 ?_
  intro x hl hB hE _
  subst hl
  show YM x G b 0 0 C S 0 [(0, .ref (ad b (0))), (1, .int (iI (u)))] []
  obtain ⟨hd3, hd4, hd5, hd6, hs0, hs1, hs2, hs3, hs4, htr, hlv⟩ := id hD
  refine y_iload_n hB 1 dX6_page_0 rfl rfl ?_
  refine y_if_ge hB 7 dX6_page_1 (by decide) (by omega) (fun c_1 => ?_) (fun c_1 => ?_)
  · refine y_aload_n hB 0 dX6_page_7 rfl rfl ?_
    refine gt_6_6 hB (by decide) (t1 := 573) (by omega) dX6_page_8 ?_
    refine y_aload_n hB 0 dX6_page_11 rfl rfl ?_
    refine gt_6_0 hB (by decide) (t1 := 1) (by omega) dX6_page_12 ?_
    refine m_V hB msX3_lay q415 (tX3_lay _ G b C S 1 N desk_1 (by omega) hD hN) (t := 14) (by decide) (by decide) rfl rfl rfl rfl rfl ⟨Nat.le_of_ble_eq_true rfl, Nat.le_of_ble_eq_true rfl⟩ (Nat.le_of_ble_eq_true rfl) ⟨rfl, rfl⟩ ⟨Nat.le_of_ble_eq_true rfl, Nat.le_of_ble_eq_true rfl⟩ dX6_page_15 (k_WV (fun C_15 h_15 => ?_))
    obtain ⟨q15, m15, hk1, hk2, hk3, hk4, hk5, hk6, hk7, hk8⟩ := id h_15
    refine y_aload_n hB 0 dX6_page_18 rfl rfl ?_
    refine gt_6_6 hB (by decide) (t1 := 573) (by omega) dX6_page_19 ?_
    refine y_iload_n hB 1 dX6_page_22 rfl rfl ?_
    refine m_V hB msX3_personAt q450 (tX3_personAt _ G b C_15 S u (by omega) (by omega)) (t := 14) (by decide) (by decide) rfl rfl rfl rfl rfl ⟨Nat.le_of_ble_eq_true rfl, Nat.le_of_ble_eq_true rfl⟩ (Nat.le_of_ble_eq_true rfl) ⟨rfl, rfl⟩ ⟨Nat.le_of_ble_eq_true rfl, Nat.le_of_ble_eq_true rfl⟩ dX6_page_23 (k_RI (fun v_23 h_23 => ?_))
    exact m_wi hB hE dX6_page_26 rfl (Or.inr ⟨by omega, h_15, by rcases h_23 with g | g; exact Or.inl ⟨g.2.1, g.2.2⟩; exact Or.inr ⟨by omega, g.2⟩⟩)
  · refine y_bipush (v := -2) hB dX6_page_4 (by decide) ?_
    exact m_wi hB hE dX6_page_6 rfl (Or.inl ⟨by omega, rfl, rfl⟩)
set_option maxHeartbeats 4000000 in
theorem tX6_source (l : Launch) (G : gG) (b : Nat) (C S : gM) (u t N : Int) (hu : -2147483648 ≤ u ∧ u ≤ 2147483647) (ht : -2147483648 ≤ t ∧ t ≤ 2147483647) (hD : DkOk C 1 N) (hN : N ≤ 512) (hhf : 0 ≤ C 169 1 ∧ C 169 1 < 4) (hhs : 0 ≤ C 169 2 ∧ C 169 2 ≤ 4) : Ct l G b yX6_source cX6_source 3 (some .int) rmX6_source [.ref (ad b (0)), .int (iI (u)), .int (iI (t))] 578 (wM G b C S) (RI G b C S (fun v => ((¬ (0 ≤ u ∧ u < 6)) ∧ v = -1) ∨ (((0 ≤ u ∧ u < 6) ∧ (t < 0 ∨ 3 < t)) ∧ v = -2) ∨ (((0 ≤ u ∧ u < 6) ∧ t = 0) ∧ v = C 3 u) ∨ (((0 ≤ u ∧ u < 6) ∧ t = 1) ∧ v = smI (fun i => smI (fun j => if C (4 * i + 1 + 5) j = u then 1 else 0) (C (4 * i + 1 + 4) 6)) (C 1 3)) ∨ (((0 ≤ u ∧ u < 6) ∧ t = 2) ∧ v = smI (fun i => smI (fun j => if C (4 * i + 1 + 5) j = u then fst C 1 (4 * i + 1 + 4) (C 1 4) j else 0) (C (4 * i + 1 + 4) 6)) (C 1 3)) ∨ (((0 ≤ u ∧ u < 6) ∧ t = 3) ∧ v = smI (fun i => smI (fun j => if C (4 * i + 1 + 5) j = u then C (4 * i + 1 + 6) j else 0) (C (4 * i + 1 + 4) 6)) (C 1 3)))) := by
  refine CtK_of (by decide) (Nat.le_of_ble_eq_true rfl) q519 ?_
  intro x hl hB hE _
  subst hl
  show YM x G b 0 0 C S 0 [(0, .ref (ad b (0))), (1, .int (iI (u))), (2, .int (iI (t)))] []
  obtain ⟨hd3, hd4, hd5, hd6, hs0, hs1, hs2, hs3, hs4, htr, hlv⟩ := id hD
  refine y_iload_n hB 1 dX6_source_0 rfl rfl ?_
  refine m_S hB msX6_isSource q520 (tX6_isSource _ G b C S u (by omega)) rfl rfl ⟨Nat.le_of_ble_eq_true rfl, Nat.le_of_ble_eq_true rfl⟩ (Nat.le_of_ble_eq_true rfl) ⟨rfl, rfl⟩ ⟨Nat.le_of_ble_eq_true rfl, Nat.le_of_ble_eq_true rfl⟩ dX6_source_1 (k_RI (fun v_1 h_1 => ?_))
  refine y_if_ne hB 9 dX6_source_4 (by decide) (by omega) (fun c_4 => ?_) (fun c_4 => ?_)
  · refine y_iload_n hB 2 dX6_source_9 rfl rfl ?_
    rcases (show t = 0 ∨ t = 1 ∨ t = 2 ∨ t = 3 ∨ (t < 0 ∨ 3 < t) by omega) with hsw_10 | hsw_10 | hsw_10 | hsw_10 | hsw_10
    · refine y_tableIn hB 40 dX6_source_10 (by omega) (by omega) (by rw [hsw_10]; rfl) (by decide) ?_
      refine y_aload_n hB 0 dX6_source_40 rfl rfl ?_
      refine gt_6_0 hB (by decide) (t1 := 1) (by omega) dX6_source_41 ?_
      refine y_iload_n hB 1 dX6_source_44 rfl rfl ?_
      refine m_V hB msX0_trustOf q521 (tX0_trustOf _ G b C S 1 u desk_1 (by omega)) (t := 1) (desk_1).1 (by decide) rfl rfl rfl rfl rfl ⟨Nat.le_of_ble_eq_true rfl, Nat.le_of_ble_eq_true rfl⟩ (Nat.le_of_ble_eq_true rfl) ⟨rfl, rfl⟩ ⟨Nat.le_of_ble_eq_true rfl, Nat.le_of_ble_eq_true rfl⟩ dX6_source_45 (k_RI (fun v_45 h_45 => ?_))
      exact m_ri hB hE dX6_source_48 rfl (Or.inr (Or.inr (Or.inl (⟨by omega, h_45⟩))))
    · refine y_tableIn hB 49 dX6_source_10 (by omega) (by omega) (by rw [hsw_10]; rfl) (by decide) ?_
      refine y_aload_n hB 0 dX6_source_49 rfl rfl ?_
      refine gt_6_0 hB (by decide) (t1 := 1) (by omega) dX6_source_50 ?_
      refine y_iload_n hB 1 dX6_source_53 rfl rfl ?_
      refine m_V hB msX0_factsFrom q522 (tX0_factsFrom _ G b C S 1 u N desk_1 hD hN (by omega)) (t := 1) (desk_1).1 (by decide) rfl rfl rfl rfl rfl ⟨Nat.le_of_ble_eq_true rfl, Nat.le_of_ble_eq_true rfl⟩ (Nat.le_of_ble_eq_true rfl) ⟨rfl, rfl⟩ ⟨Nat.le_of_ble_eq_true rfl, Nat.le_of_ble_eq_true rfl⟩ dX6_source_54 (k_RI (fun v_54 h_54 => ?_))
      exact m_ri hB hE dX6_source_57 rfl (Or.inr (Or.inr (Or.inr (Or.inl (⟨by omega, h_54⟩)))))
    · refine y_tableIn hB 58 dX6_source_10 (by omega) (by omega) (by rw [hsw_10]; rfl) (by decide) ?_
      refine y_aload_n hB 0 dX6_source_58 rfl rfl ?_
      refine gt_6_0 hB (by decide) (t1 := 1) (by omega) dX6_source_59 ?_
      refine y_iload_n hB 1 dX6_source_62 rfl rfl ?_
      refine m_V hB msX0_staleFactsFrom q526 (tX0_staleFactsFrom _ G b C S 1 u N desk_1 hD hN (by omega)) (t := 1) (desk_1).1 (by decide) rfl rfl rfl rfl rfl ⟨Nat.le_of_ble_eq_true rfl, Nat.le_of_ble_eq_true rfl⟩ (Nat.le_of_ble_eq_true rfl) ⟨rfl, rfl⟩ ⟨Nat.le_of_ble_eq_true rfl, Nat.le_of_ble_eq_true rfl⟩ dX6_source_63 (k_RI (fun v_63 h_63 => ?_))
      exact m_ri hB hE dX6_source_66 rfl (Or.inr (Or.inr (Or.inr (Or.inr (Or.inl (⟨by omega, h_63⟩))))))
    · refine y_tableIn hB 67 dX6_source_10 (by omega) (by omega) (by rw [hsw_10]; rfl) (by decide) ?_
      refine y_aload_n hB 0 dX6_source_67 rfl rfl ?_
      refine gt_6_0 hB (by decide) (t1 := 1) (by omega) dX6_source_68 ?_
      refine y_iload_n hB 1 dX6_source_71 rfl rfl ?_
      refine m_V hB msX0_linesFrom q530 (tX0_linesFrom _ G b C S 1 u N desk_1 hD hN (by omega)) (t := 1) (desk_1).1 (by decide) rfl rfl rfl rfl rfl ⟨Nat.le_of_ble_eq_true rfl, Nat.le_of_ble_eq_true rfl⟩ (Nat.le_of_ble_eq_true rfl) ⟨rfl, rfl⟩ ⟨Nat.le_of_ble_eq_true rfl, Nat.le_of_ble_eq_true rfl⟩ dX6_source_72 (k_RI (fun v_72 h_72 => ?_))
      exact m_ri hB hE dX6_source_75 rfl (Or.inr (Or.inr (Or.inr (Or.inr (Or.inr (⟨by omega, h_72⟩))))))
    · refine y_tableOut hB 76 dX6_source_10 (by omega) hsw_10 (by decide) ?_
      refine y_bipush (v := -2) hB dX6_source_76 (by decide) ?_
      exact m_ri hB hE dX6_source_78 rfl (Or.inr (Or.inl (⟨by omega, rfl⟩)))
  · refine y_iconst (v := -1) hB dX6_source_7 rfl ?_
    exact m_ri hB hE dX6_source_8 rfl (Or.inl (⟨by omega, rfl⟩))
set_option maxHeartbeats 4000000 in
theorem tX6_staleIn (l : Launch) (G : gG) (b : Nat) (C S : gM) (u N : Int) (hu : -2147483648 ≤ u ∧ u ≤ 2147483647) (hD : DkOk C 1 N) (hN : N ≤ 512) (hhf : 0 ≤ C 169 1 ∧ C 169 1 < 4) (hhs : 0 ≤ C 169 2 ∧ C 169 2 ≤ 4) : Ct l G b yX6_staleIn cX6_staleIn 2 (some .int) rmX6_staleIn [.ref (ad b (0)), .int (iI (u))] 578 (wM G b C S) (RI G b C S (fun v => ((¬ (0 ≤ u ∧ u ≤ 999)) ∧ v = -2) ∨ ((0 ≤ u ∧ u ≤ 999) ∧ v = smI (fun i => if C (4 * i + 1 + 4) 2 = 3 then 0 else staleN C 1 (4 * i + 1 + 4) (u + C 1 4)) (C 1 3)))) := by
  refine CtK_of (by decide) (Nat.le_of_ble_eq_true rfl) q457 ?_
  intro x hl hB hE _
  subst hl
  show YM x G b 0 0 C S 0 [(0, .ref (ad b (0))), (1, .int (iI (u)))] []
  obtain ⟨hd3, hd4, hd5, hd6, hs0, hs1, hs2, hs3, hs4, htr, hlv⟩ := id hD
  refine y_iload_n hB 1 dX6_staleIn_0 rfl rfl ?_
  refine y_iconst (v := 0) hB dX6_staleIn_1 rfl ?_
  refine y_sipush (v := 999) hB dX6_staleIn_2 (by decide) ?_
  refine m_S hB msX6_isWithin q192 (tX6_isWithin _ G b C S u 0 999 (by omega) (by omega) (by omega)) rfl rfl ⟨Nat.le_of_ble_eq_true rfl, Nat.le_of_ble_eq_true rfl⟩ (Nat.le_of_ble_eq_true rfl) ⟨rfl, rfl⟩ ⟨Nat.le_of_ble_eq_true rfl, Nat.le_of_ble_eq_true rfl⟩ dX6_staleIn_5 (k_RI (fun v_5 h_5 => ?_))
  refine y_if_ne hB 14 dX6_staleIn_8 (by decide) (by omega) (fun c_8 => ?_) (fun c_8 => ?_)
  · refine y_aload_n hB 0 dX6_staleIn_14 rfl rfl ?_
    refine gt_6_0 hB (by decide) (t1 := 1) (by omega) dX6_staleIn_15 ?_
    refine y_aload_n hB 0 dX6_staleIn_18 rfl rfl ?_
    refine gt_6_0 hB (by decide) (t1 := 1) (by omega) dX6_staleIn_19 ?_
    refine m_V hB msX0_today q356 (tX0_today _ G b C S 1 (desk_1).1) (t := 1) (desk_1).1 (by decide) rfl rfl rfl rfl rfl ⟨Nat.le_of_ble_eq_true rfl, Nat.le_of_ble_eq_true rfl⟩ (Nat.le_of_ble_eq_true rfl) ⟨rfl, rfl⟩ ⟨Nat.le_of_ble_eq_true rfl, Nat.le_of_ble_eq_true rfl⟩ dX6_staleIn_22 (k_RI (fun v_22 h_22 => ?_))
    refine y_iload_n hB 1 dX6_staleIn_25 rfl rfl ?_
    refine y_iadd (t := u + v_22) hB dX6_staleIn_26 (by omega) ?_
    rw [h_22]
    refine m_V hB msX0_staleFactsOn q458 (tX0_staleFactsOn _ G b C S 1 (u + C 1 4) N desk_1 hD hN (by omega)) (t := 1) (desk_1).1 (by decide) rfl rfl rfl rfl rfl ⟨Nat.le_of_ble_eq_true rfl, Nat.le_of_ble_eq_true rfl⟩ (Nat.le_of_ble_eq_true rfl) ⟨rfl, rfl⟩ ⟨Nat.le_of_ble_eq_true rfl, Nat.le_of_ble_eq_true rfl⟩ dX6_staleIn_27 (k_RI (fun v_27 h_27 => ?_))
    exact m_ri hB hE dX6_staleIn_30 rfl (Or.inr (⟨by omega, h_27⟩))
  · refine y_bipush (v := -2) hB dX6_staleIn_11 (by decide) ?_
    exact m_ri hB hE dX6_staleIn_13 rfl (Or.inl (⟨by omega, rfl⟩))
set_option maxHeartbeats 4000000 in
theorem tX6_person (l : Launch) (G : gG) (b : Nat) (C S : gM) (u t N : Int) (hu : -2147483648 ≤ u ∧ u ≤ 2147483647) (ht : -2147483648 ≤ t ∧ t ≤ 2147483647) (hD : DkOk C 1 N) (hN : N ≤ 512) (hhf : 0 ≤ C 169 1 ∧ C 169 1 < 4) (hhs : 0 ≤ C 169 2 ∧ C 169 2 ≤ 4) : Ct l G b yX6_person cX6_person 4 (some .int) rmX6_person [.ref (ad b (0)), .int (iI (u)), .int (iI (t))] 578 (wM G b C S) (RI G b C S (fun v => ((¬ (0 ≤ u ∧ u < C 1 3)) ∧ v = -1) ∨ (((0 ≤ u ∧ u < C 1 3) ∧ (t < 0 ∨ 10 < t)) ∧ v = -2) ∨ (((0 ≤ u ∧ u < C 1 3) ∧ t = 0) ∧ v = C (4 * u + 5) 0) ∨ (((0 ≤ u ∧ u < C 1 3) ∧ t = 1) ∧ v = C (4 * u + 5) 1) ∨ (((0 ≤ u ∧ u < C 1 3) ∧ t = 2) ∧ v = C (4 * u + 5) 2) ∨ (((0 ≤ u ∧ u < C 1 3) ∧ t = 3) ∧ v = C (4 * u + 5) 6) ∨ (((0 ≤ u ∧ u < C 1 3) ∧ t = 4) ∧ v = smI (C (4 * u + 5 + 2)) (C (4 * u + 5) 6)) ∨ (((0 ≤ u ∧ u < C 1 3) ∧ t = 5) ∧ v = staleN C 1 (4 * u + 5) (C 1 4)) ∨ (((0 ≤ u ∧ u < C 1 3) ∧ t = 6) ∧ v = pcI (mkI (C (4 * u + 5 + 1)) (C (4 * u + 5) 6))) ∨ (((0 ≤ u ∧ u < C 1 3) ∧ t = 7) ∧ ((C (4 * u + 5) 2 = 0 ∧ v = urg C 1 (4 * u + 5)) ∨ (¬ C (4 * u + 5) 2 = 0 ∧ v = -5))) ∨ (((0 ≤ u ∧ u < C 1 3) ∧ t = 8) ∧ v = C (4 * u + 5) 4) ∨ (((0 ≤ u ∧ u < C 1 3) ∧ t = 9) ∧ v = C (4 * u + 5) 5) ∨ (((0 ≤ u ∧ u < C 1 3) ∧ t = 10) ∧ ((v = 1 ∧ C (1 + 1) 3 ≤ pcI (mkI (C (4 * u + 5 + 1)) (C (4 * u + 5) 6)) ∧ staleN C 1 (4 * u + 5) (C 1 4) = 0) ∨ (v = 0 ∧ ¬ (C (1 + 1) 3 ≤ pcI (mkI (C (4 * u + 5 + 1)) (C (4 * u + 5) 6)) ∧ staleN C 1 (4 * u + 5) (C 1 4) = 0)))))) := by
  refine CtK_of (by decide) (Nat.le_of_ble_eq_true rfl) q367 ?_
  intro x hl hB hE _
  subst hl
  show YM x G b 0 0 C S 0 [(0, .ref (ad b (0))), (1, .int (iI (u))), (2, .int (iI (t)))] []
  obtain ⟨hd3, hd4, hd5, hd6, hs0, hs1, hs2, hs3, hs4, htr, hlv⟩ := id hD
  refine y_aload_n hB 0 dX6_person_0 rfl rfl ?_
  refine gt_6_0 hB (by decide) (t1 := 1) (by omega) dX6_person_1 ?_
  refine y_iload_n hB 1 dX6_person_4 rfl rfl ?_
  by_cases hpr : 0 ≤ u ∧ u < C 1 3
  · refine m_V hB msX0_lifeOf q368 (tX0_lifeOf _ G b C S 1 u (4 * u + 5) desk_1 (by omega) (by omega) (by omega)) (t := 1) (desk_1).1 (by decide) rfl rfl rfl rfl rfl ⟨Nat.le_of_ble_eq_true rfl, Nat.le_of_ble_eq_true rfl⟩ (Nat.le_of_ble_eq_true rfl) ⟨rfl, rfl⟩ ⟨Nat.le_of_ble_eq_true rfl, Nat.le_of_ble_eq_true rfl⟩ dX6_person_5 (k_RR ?_)
    have hq_5 : isLife (4 * u + 5) := life_at desk_1 (i := u) (by omega) (by omega)
    have hl_5 := hlv (u) (by omega) (by omega)
    rw [show 4 * (u) + 1 + 4 = 4 * u + 5 by omega] at hl_5
    obtain ⟨ha_5, hb_5, hc_5, hd_5, he_5, hf_5, hg_5, hh_5, hi_5⟩ := id hl_5
    refine y_astore_n (lv' := [(3, .ref (ad b (4 * u + 5))), (0, .ref (ad b (0))), (1, .int (iI (u))), (2, .int (iI (t)))]) hB dX6_person_8 rfl (by decide) rfl ?_
    refine y_aload_n hB 0 dX6_person_9 rfl rfl ?_
    refine y_ifnonnull hB 15 dX6_person_10 (by decide) ?_
    refine y_iload_n hB 3 dX6_person_15 rfl rfl ?_
    rcases (show t = 0 ∨ t = 1 ∨ t = 2 ∨ t = 3 ∨ t = 4 ∨ t = 5 ∨ t = 6 ∨ t = 7 ∨ t = 8 ∨ t = 9 ∨ t = 10 ∨ (t < 0 ∨ 10 < t) by omega) with hsw_16 | hsw_16 | hsw_16 | hsw_16 | hsw_16 | hsw_16 | hsw_16 | hsw_16 | hsw_16 | hsw_16 | hsw_16 | hsw_16
    · refine y_tableIn hB 76 dX6_person_16 (by omega) (by omega) (by rw [hsw_16]; rfl) (by decide) ?_
      refine y_aload_n hB 0 dX6_person_76 rfl rfl ?_
      refine m_V hB msX2_age q369 (tX2_age _ G b C S (4 * u + 5) (hq_5).1) (t := 5) (hq_5).1 (by decide) rfl rfl rfl rfl rfl ⟨Nat.le_of_ble_eq_true rfl, Nat.le_of_ble_eq_true rfl⟩ (Nat.le_of_ble_eq_true rfl) ⟨rfl, rfl⟩ ⟨Nat.le_of_ble_eq_true rfl, Nat.le_of_ble_eq_true rfl⟩ dX6_person_77 (k_RI (fun v_77 h_77 => ?_))
      exact m_ri hB hE dX6_person_80 rfl (Or.inr (Or.inr (Or.inl (⟨by omega, h_77⟩))))
    · refine y_tableIn hB 81 dX6_person_16 (by omega) (by omega) (by rw [hsw_16]; rfl) (by decide) ?_
      refine y_aload_n hB 0 dX6_person_81 rfl rfl ?_
      refine m_V hB msX2_rank q370 (tX2_rank _ G b C S (4 * u + 5) (hq_5).1) (t := 5) (hq_5).1 (by decide) rfl rfl rfl rfl rfl ⟨Nat.le_of_ble_eq_true rfl, Nat.le_of_ble_eq_true rfl⟩ (Nat.le_of_ble_eq_true rfl) ⟨rfl, rfl⟩ ⟨Nat.le_of_ble_eq_true rfl, Nat.le_of_ble_eq_true rfl⟩ dX6_person_82 (k_RI (fun v_82 h_82 => ?_))
      exact m_ri hB hE dX6_person_85 rfl (Or.inr (Or.inr (Or.inr (Or.inl (⟨by omega, h_82⟩)))))
    · refine y_tableIn hB 86 dX6_person_16 (by omega) (by omega) (by rw [hsw_16]; rfl) (by decide) ?_
      refine y_aload_n hB 0 dX6_person_86 rfl rfl ?_
      refine m_V hB msX2_state q371 (tX2_state _ G b C S (4 * u + 5) (hq_5).1) (t := 5) (hq_5).1 (by decide) rfl rfl rfl rfl rfl ⟨Nat.le_of_ble_eq_true rfl, Nat.le_of_ble_eq_true rfl⟩ (Nat.le_of_ble_eq_true rfl) ⟨rfl, rfl⟩ ⟨Nat.le_of_ble_eq_true rfl, Nat.le_of_ble_eq_true rfl⟩ dX6_person_87 (k_RI (fun v_87 h_87 => ?_))
      exact m_ri hB hE dX6_person_90 rfl (Or.inr (Or.inr (Or.inr (Or.inr (Or.inl (⟨by omega, h_87⟩))))))
    · refine y_tableIn hB 91 dX6_person_16 (by omega) (by omega) (by rw [hsw_16]; rfl) (by decide) ?_
      refine y_aload_n hB 0 dX6_person_91 rfl rfl ?_
      refine m_V hB msX2_size q375 (tX2_size _ G b C S (4 * u + 5) (hq_5).1) (t := 5) (hq_5).1 (by decide) rfl rfl rfl rfl rfl ⟨Nat.le_of_ble_eq_true rfl, Nat.le_of_ble_eq_true rfl⟩ (Nat.le_of_ble_eq_true rfl) ⟨rfl, rfl⟩ ⟨Nat.le_of_ble_eq_true rfl, Nat.le_of_ble_eq_true rfl⟩ dX6_person_92 (k_RI (fun v_92 h_92 => ?_))
      exact m_ri hB hE dX6_person_95 rfl (Or.inr (Or.inr (Or.inr (Or.inr (Or.inr (Or.inl (⟨by omega, h_92⟩)))))))
    · refine y_tableIn hB 96 dX6_person_16 (by omega) (by omega) (by rw [hsw_16]; rfl) (by decide) ?_
      refine y_aload_n hB 0 dX6_person_96 rfl rfl ?_
      refine m_V hB msX2_length q376 (tX2_length _ G b C S (4 * u + 5) hq_5 (by omega)) (t := 5) (hq_5).1 (by decide) rfl rfl rfl rfl rfl ⟨Nat.le_of_ble_eq_true rfl, Nat.le_of_ble_eq_true rfl⟩ (Nat.le_of_ble_eq_true rfl) ⟨rfl, rfl⟩ ⟨Nat.le_of_ble_eq_true rfl, Nat.le_of_ble_eq_true rfl⟩ dX6_person_97 (k_RI (fun v_97 h_97 => ?_))
      exact m_ri hB hE dX6_person_100 rfl (Or.inr (Or.inr (Or.inr (Or.inr (Or.inr (Or.inr (Or.inl (⟨by omega, h_97⟩))))))))
    · refine y_tableIn hB 101 dX6_person_16 (by omega) (by omega) (by rw [hsw_16]; rfl) (by decide) ?_
      refine y_aload_n hB 1 dX6_person_101 rfl rfl ?_
      refine gt_6_0 hB (by decide) (t1 := 1) (by omega) dX6_person_102 ?_
      refine y_aload_n hB 0 dX6_person_105 rfl rfl ?_
      refine y_aload_n hB 1 dX6_person_106 rfl rfl ?_
      refine gt_6_0 hB (by decide) (t1 := 1) (by omega) dX6_person_107 ?_
      refine m_V hB msX0_today q356 (tX0_today _ G b C S 1 (desk_1).1) (t := 1) (desk_1).1 (by decide) rfl rfl rfl rfl rfl ⟨Nat.le_of_ble_eq_true rfl, Nat.le_of_ble_eq_true rfl⟩ (Nat.le_of_ble_eq_true rfl) ⟨rfl, rfl⟩ ⟨Nat.le_of_ble_eq_true rfl, Nat.le_of_ble_eq_true rfl⟩ dX6_person_110 (k_RI (fun v_110 h_110 => ?_))
      rw [h_110]
      refine m_V hB msX0_staleFactsOf q384 (tX0_staleFactsOf _ G b C S 1 (4 * u + 5) (C 1 4) N desk_1 hq_5 hD hl_5 hN (by omega)) (t := 1) (desk_1).1 (by decide) rfl rfl rfl rfl rfl ⟨Nat.le_of_ble_eq_true rfl, Nat.le_of_ble_eq_true rfl⟩ (Nat.le_of_ble_eq_true rfl) ⟨rfl, rfl⟩ ⟨Nat.le_of_ble_eq_true rfl, Nat.le_of_ble_eq_true rfl⟩ dX6_person_113 (k_RI (fun v_113 h_113 => ?_))
      exact m_ri hB hE dX6_person_116 rfl (Or.inr (Or.inr (Or.inr (Or.inr (Or.inr (Or.inr (Or.inr (Or.inl (⟨by omega, h_113⟩)))))))))
    · refine y_tableIn hB 117 dX6_person_16 (by omega) (by omega) (by rw [hsw_16]; rfl) (by decide) ?_
      refine y_aload_n hB 0 dX6_person_117 rfl rfl ?_
      refine m_V hB msX2_differentSources q385 (tX2_differentSources _ G b C S (4 * u + 5) hq_5 (by omega) (fun j a1 a2 => (hi_5 j a1 a2).1)) (t := 5) (hq_5).1 (by decide) rfl rfl rfl rfl rfl ⟨Nat.le_of_ble_eq_true rfl, Nat.le_of_ble_eq_true rfl⟩ (Nat.le_of_ble_eq_true rfl) ⟨rfl, rfl⟩ ⟨Nat.le_of_ble_eq_true rfl, Nat.le_of_ble_eq_true rfl⟩ dX6_person_118 (k_RI (fun v_118 h_118 => ?_))
      exact m_ri hB hE dX6_person_121 rfl (Or.inr (Or.inr (Or.inr (Or.inr (Or.inr (Or.inr (Or.inr (Or.inr (Or.inl (⟨by omega, h_118⟩))))))))))
    · refine y_tableIn hB 122 dX6_person_16 (by omega) (by omega) (by rw [hsw_16]; rfl) (by decide) ?_
      refine y_aload_n hB 0 dX6_person_122 rfl rfl ?_
      refine y_iconst (v := 0) hB dX6_person_123 rfl ?_
      refine m_V hB msX2_isIn q396 (tX2_isIn _ G b C S (4 * u + 5) 0 (hq_5).1 (by omega) (by omega)) (t := 5) (hq_5).1 (by decide) rfl rfl rfl rfl rfl ⟨Nat.le_of_ble_eq_true rfl, Nat.le_of_ble_eq_true rfl⟩ (Nat.le_of_ble_eq_true rfl) ⟨rfl, rfl⟩ ⟨Nat.le_of_ble_eq_true rfl, Nat.le_of_ble_eq_true rfl⟩ dX6_person_124 (k_RI (fun v_124 h_124 => ?_))
      refine y_if_eq hB 141 dX6_person_127 (by decide) (by omega) (fun c_127 => ?_) (fun c_127 => ?_)
      · refine y_bipush (v := -5) hB dX6_person_141 (by decide) ?_
        exact m_ri hB hE dX6_person_143 rfl (Or.inr (Or.inr (Or.inr (Or.inr (Or.inr (Or.inr (Or.inr (Or.inr (Or.inr (Or.inl (⟨by omega, Or.inr ⟨by omega, rfl⟩⟩)))))))))))
      · refine y_aload_n hB 1 dX6_person_130 rfl rfl ?_
        refine gt_6_0 hB (by decide) (t1 := 1) (by omega) dX6_person_131 ?_
        refine y_aload_n hB 0 dX6_person_134 rfl rfl ?_
        refine m_V hB msX0_urgencyOf q397 (tX0_urgencyOf _ G b C S 1 (4 * u + 5) N desk_1 hq_5 hD hl_5 hN) (t := 1) (desk_1).1 (by decide) rfl rfl rfl rfl rfl ⟨Nat.le_of_ble_eq_true rfl, Nat.le_of_ble_eq_true rfl⟩ (Nat.le_of_ble_eq_true rfl) ⟨rfl, rfl⟩ ⟨Nat.le_of_ble_eq_true rfl, Nat.le_of_ble_eq_true rfl⟩ dX6_person_135 (k_RI (fun v_135 h_135 => ?_))
        refine y_goto hB 143 dX6_person_138 (by decide) ?_
        exact m_ri hB hE dX6_person_143 rfl (Or.inr (Or.inr (Or.inr (Or.inr (Or.inr (Or.inr (Or.inr (Or.inr (Or.inr (Or.inl (⟨by omega, Or.inl ⟨by omega, h_135⟩⟩)))))))))))
    · refine y_tableIn hB 144 dX6_person_16 (by omega) (by omega) (by rw [hsw_16]; rfl) (by decide) ?_
      refine y_aload_n hB 0 dX6_person_144 rfl rfl ?_
      refine m_V hB msX2_deathDay q398 (tX2_deathDay _ G b C S (4 * u + 5) (hq_5).1) (t := 5) (hq_5).1 (by decide) rfl rfl rfl rfl rfl ⟨Nat.le_of_ble_eq_true rfl, Nat.le_of_ble_eq_true rfl⟩ (Nat.le_of_ble_eq_true rfl) ⟨rfl, rfl⟩ ⟨Nat.le_of_ble_eq_true rfl, Nat.le_of_ble_eq_true rfl⟩ dX6_person_145 (k_RI (fun v_145 h_145 => ?_))
      exact m_ri hB hE dX6_person_148 rfl (Or.inr (Or.inr (Or.inr (Or.inr (Or.inr (Or.inr (Or.inr (Or.inr (Or.inr (Or.inr (Or.inl (⟨by omega, h_145⟩))))))))))))
    · refine y_tableIn hB 149 dX6_person_16 (by omega) (by omega) (by rw [hsw_16]; rfl) (by decide) ?_
      refine y_aload_n hB 0 dX6_person_149 rfl rfl ?_
      refine m_V hB msX2_printDay q402 (tX2_printDay _ G b C S (4 * u + 5) (hq_5).1) (t := 5) (hq_5).1 (by decide) rfl rfl rfl rfl rfl ⟨Nat.le_of_ble_eq_true rfl, Nat.le_of_ble_eq_true rfl⟩ (Nat.le_of_ble_eq_true rfl) ⟨rfl, rfl⟩ ⟨Nat.le_of_ble_eq_true rfl, Nat.le_of_ble_eq_true rfl⟩ dX6_person_150 (k_RI (fun v_150 h_150 => ?_))
      exact m_ri hB hE dX6_person_153 rfl (Or.inr (Or.inr (Or.inr (Or.inr (Or.inr (Or.inr (Or.inr (Or.inr (Or.inr (Or.inr (Or.inr (Or.inl (⟨by omega, h_150⟩)))))))))))))
    · refine y_tableIn hB 154 dX6_person_16 (by omega) (by omega) (by rw [hsw_16]; rfl) (by decide) ?_
      refine y_aload_n hB 1 dX6_person_154 rfl rfl ?_
      refine gt_6_0 hB (by decide) (t1 := 1) (by omega) dX6_person_155 ?_
      refine y_aload_n hB 0 dX6_person_158 rfl rfl ?_
      refine m_V hB msX0_couldPrint q406 (tX0_couldPrint _ G b C S 1 (4 * u + 5) N desk_1 hq_5 hD hl_5 hN) (t := 1) (desk_1).1 (by decide) rfl rfl rfl rfl rfl ⟨Nat.le_of_ble_eq_true rfl, Nat.le_of_ble_eq_true rfl⟩ (Nat.le_of_ble_eq_true rfl) ⟨rfl, rfl⟩ ⟨Nat.le_of_ble_eq_true rfl, Nat.le_of_ble_eq_true rfl⟩ dX6_person_159 (k_RI (fun v_159 h_159 => ?_))
      refine y_if_eq hB 169 dX6_person_162 (by decide) (by omega) (fun c_162 => ?_) (fun c_162 => ?_)
      · refine y_iconst (v := 0) hB dX6_person_169 rfl ?_
        exact m_ri hB hE dX6_person_170 rfl (Or.inr (Or.inr (Or.inr (Or.inr (Or.inr (Or.inr (Or.inr (Or.inr (Or.inr (Or.inr (Or.inr (Or.inr (⟨by omega, Or.inr ⟨rfl, (h_159.resolve_left (fun z => by have h9 := z.1; omega)).2⟩⟩)))))))))))))
      · refine y_iconst (v := 1) hB dX6_person_165 rfl ?_
        refine y_goto hB 170 dX6_person_166 (by decide) ?_
        exact m_ri hB hE dX6_person_170 rfl (Or.inr (Or.inr (Or.inr (Or.inr (Or.inr (Or.inr (Or.inr (Or.inr (Or.inr (Or.inr (Or.inr (Or.inr (⟨by omega, Or.inl ⟨rfl, (h_159.resolve_right (fun z => by have h9 := z.1; omega)).2⟩⟩)))))))))))))
    · refine y_tableOut hB 171 dX6_person_16 (by omega) hsw_16 (by decide) ?_
      refine y_bipush (v := -2) hB dX6_person_171 (by decide) ?_
      exact m_ri hB hE dX6_person_173 rfl (Or.inr (Or.inl (⟨by omega, rfl⟩)))
  · refine m_V hB msX0_lifeOf q368 (tX0_lifeOfN _ G b C S 1 u desk_1 (by omega) (by omega) (by omega)) (t := 1) (desk_1).1 (by decide) rfl rfl rfl rfl rfl ⟨Nat.le_of_ble_eq_true rfl, Nat.le_of_ble_eq_true rfl⟩ (Nat.le_of_ble_eq_true rfl) ⟨rfl, rfl⟩ ⟨Nat.le_of_ble_eq_true rfl, Nat.le_of_ble_eq_true rfl⟩ dX6_person_5 (k_RR ?_)
    refine y_astore_nN (lv' := [(3, .null), (0, .ref (ad b (0))), (1, .int (iI (u))), (2, .int (iI (t)))]) hB dX6_person_8 rfl (by decide) rfl ?_
    refine y_aload_nN hB 0 dX6_person_9 rfl rfl ?_
    refine y_ifnonnullN hB dX6_person_10 ?_
    refine y_iconst (v := -1) hB dX6_person_13 rfl ?_
    exact m_ri hB hE dX6_person_14 rfl (Or.inl (⟨by omega, rfl⟩))
set_option maxHeartbeats 4000000 in
theorem tX6_count (l : Launch) (G : gG) (b : Nat) (C S : gM) (u N : Int) (hu : -2147483648 ≤ u ∧ u ≤ 2147483647) (hD : DkOk C 1 N) (hN : N ≤ 512) (hhf : 0 ≤ C 169 1 ∧ C 169 1 < 4) (hhs : 0 ≤ C 169 2 ∧ C 169 2 ≤ 4) : Ct l G b yX6_count cX6_count 2 (some .int) rmX6_count [.ref (ad b (0)), .int (iI (u))] 578 (wM G b C S) (WI G b S (fun v C' => ((u < 0 ∨ 17 < u) ∧ v = -2 ∧ C' = C) ∨ ((u = 0) ∧ v = C 1 4 ∧ C' = C) ∨ ((u = 1) ∧ v = C 1 3 ∧ C' = C) ∨ ((u = 2) ∧ v = C 1 5 ∧ C' = C) ∨ ((u = 3) ∧ v = smI (fun i => if C (4 * i + 1 + 4) 2 = 0 then 1 else 0) (C 1 3) ∧ C' = C) ∨ ((u = 4) ∧ v = smI (fun i => if C (4 * i + 1 + 4) 2 = 1 then 1 else 0) (C 1 3) ∧ C' = C) ∨ ((u = 5) ∧ v = smI (fun i => if C (4 * i + 1 + 4) 2 = 2 then 1 else 0) (C 1 3) ∧ C' = C) ∨ ((u = 6) ∧ v = smI (fun i => if C (4 * i + 1 + 4) 2 = 3 then 1 else 0) (C 1 3) ∧ C' = C) ∨ ((u = 7) ∧ v = smI (fun i => C (4 * i + 1 + 4) 6) (C 1 3) ∧ C' = C) ∨ ((u = 8) ∧ v = smI (fun i => if C (4 * i + 1 + 4) 2 = 3 then 0 else staleN C 1 (4 * i + 1 + 4) (C 1 4)) (C 1 3) ∧ C' = C) ∨ ((u = 9) ∧ v = C' 573 3 ∧ Laid C C' 1) ∨ ((u = 10) ∧ v = C 1 6 ∧ C' = C) ∨ ((u = 11) ∧ v = C (1 + 1) (u - 11) ∧ C' = C) ∨ ((u = 12) ∧ v = C (1 + 1) (u - 11) ∧ C' = C) ∨ ((u = 13) ∧ v = C (1 + 1) (u - 11) ∧ C' = C) ∨ ((u = 14) ∧ v = C (1 + 1) (u - 11) ∧ C' = C) ∨ ((u = 15) ∧ v = C (1 + 1) (u - 11) ∧ C' = C) ∨ ((u = 16) ∧ v = C 169 2 ∧ C' = C) ∨ ((u = 17) ∧ v = C 507 1 ∧ C' = C))) := by
  refine CtK_of (by decide) (Nat.le_of_ble_eq_true rfl) q465 ?_
  intro x hl hB hE _
  subst hl
  show YM x G b 0 0 C S 0 [(0, .ref (ad b (0))), (1, .int (iI (u)))] []
  obtain ⟨hd3, hd4, hd5, hd6, hs0, hs1, hs2, hs3, hs4, htr, hlv⟩ := id hD
  refine y_iload_n hB 1 dX6_count_0 rfl rfl ?_
  rcases (show u = 0 ∨ u = 1 ∨ u = 2 ∨ u = 3 ∨ u = 4 ∨ u = 5 ∨ u = 6 ∨ u = 7 ∨ u = 8 ∨ u = 9 ∨ u = 10 ∨ u = 11 ∨ u = 12 ∨ u = 13 ∨ u = 14 ∨ u = 15 ∨ u = 16 ∨ u = 17 ∨ (u < 0 ∨ 17 < u) by omega) with hsw_1 | hsw_1 | hsw_1 | hsw_1 | hsw_1 | hsw_1 | hsw_1 | hsw_1 | hsw_1 | hsw_1 | hsw_1 | hsw_1 | hsw_1 | hsw_1 | hsw_1 | hsw_1 | hsw_1 | hsw_1 | hsw_1
  · refine y_tableIn hB 88 dX6_count_1 (by omega) (by omega) (by rw [hsw_1]; rfl) (by decide) ?_
    refine y_aload_n hB 0 dX6_count_88 rfl rfl ?_
    refine gt_6_0 hB (by decide) (t1 := 1) (by omega) dX6_count_89 ?_
    refine m_V hB msX0_today q356 (tX0_today _ G b C S 1 (desk_1).1) (t := 1) (desk_1).1 (by decide) rfl rfl rfl rfl rfl ⟨Nat.le_of_ble_eq_true rfl, Nat.le_of_ble_eq_true rfl⟩ (Nat.le_of_ble_eq_true rfl) ⟨rfl, rfl⟩ ⟨Nat.le_of_ble_eq_true rfl, Nat.le_of_ble_eq_true rfl⟩ dX6_count_92 (k_RI (fun v_92 h_92 => ?_))
    exact m_wi hB hE dX6_count_95 rfl (Or.inr (Or.inl (⟨by omega, h_92, rfl⟩)))
  · refine y_tableIn hB 96 dX6_count_1 (by omega) (by omega) (by rw [hsw_1]; rfl) (by decide) ?_
    refine y_aload_n hB 0 dX6_count_96 rfl rfl ?_
    refine gt_6_0 hB (by decide) (t1 := 1) (by omega) dX6_count_97 ?_
    refine m_V hB msX0_persons q466 (tX0_persons _ G b C S 1 (desk_1).1) (t := 1) (desk_1).1 (by decide) rfl rfl rfl rfl rfl ⟨Nat.le_of_ble_eq_true rfl, Nat.le_of_ble_eq_true rfl⟩ (Nat.le_of_ble_eq_true rfl) ⟨rfl, rfl⟩ ⟨Nat.le_of_ble_eq_true rfl, Nat.le_of_ble_eq_true rfl⟩ dX6_count_100 (k_RI (fun v_100 h_100 => ?_))
    exact m_wi hB hE dX6_count_103 rfl (Or.inr (Or.inr (Or.inl (⟨by omega, h_100, rfl⟩))))
  · refine y_tableIn hB 104 dX6_count_1 (by omega) (by omega) (by rw [hsw_1]; rfl) (by decide) ?_
    refine y_aload_n hB 0 dX6_count_104 rfl rfl ?_
    refine gt_6_0 hB (by decide) (t1 := 1) (by omega) dX6_count_105 ?_
    refine m_V hB msX0_hoursLeft q467 (tX0_hoursLeft _ G b C S 1 (desk_1).1) (t := 1) (desk_1).1 (by decide) rfl rfl rfl rfl rfl ⟨Nat.le_of_ble_eq_true rfl, Nat.le_of_ble_eq_true rfl⟩ (Nat.le_of_ble_eq_true rfl) ⟨rfl, rfl⟩ ⟨Nat.le_of_ble_eq_true rfl, Nat.le_of_ble_eq_true rfl⟩ dX6_count_108 (k_RI (fun v_108 h_108 => ?_))
    exact m_wi hB hE dX6_count_111 rfl (Or.inr (Or.inr (Or.inr (Or.inl (⟨by omega, h_108, rfl⟩)))))
  · refine y_tableIn hB 112 dX6_count_1 (by omega) (by omega) (by rw [hsw_1]; rfl) (by decide) ?_
    refine y_aload_n hB 0 dX6_count_112 rfl rfl ?_
    refine gt_6_0 hB (by decide) (t1 := 1) (by omega) dX6_count_113 ?_
    refine y_iconst (v := 0) hB dX6_count_116 rfl ?_
    refine m_V hB msX0_personsIn q471 (tX0_personsIn _ G b C S 1 0 desk_1 (by omega) (by omega) (DkOk_st hD)) (t := 1) (desk_1).1 (by decide) rfl rfl rfl rfl rfl ⟨Nat.le_of_ble_eq_true rfl, Nat.le_of_ble_eq_true rfl⟩ (Nat.le_of_ble_eq_true rfl) ⟨rfl, rfl⟩ ⟨Nat.le_of_ble_eq_true rfl, Nat.le_of_ble_eq_true rfl⟩ dX6_count_117 (k_RI (fun v_117 h_117 => ?_))
    exact m_wi hB hE dX6_count_120 rfl (Or.inr (Or.inr (Or.inr (Or.inr (Or.inl (⟨by omega, h_117, rfl⟩))))))
  · refine y_tableIn hB 121 dX6_count_1 (by omega) (by omega) (by rw [hsw_1]; rfl) (by decide) ?_
    refine y_aload_n hB 0 dX6_count_121 rfl rfl ?_
    refine gt_6_0 hB (by decide) (t1 := 1) (by omega) dX6_count_122 ?_
    refine y_iconst (v := 1) hB dX6_count_125 rfl ?_
    refine m_V hB msX0_personsIn q471 (tX0_personsIn _ G b C S 1 1 desk_1 (by omega) (by omega) (DkOk_st hD)) (t := 1) (desk_1).1 (by decide) rfl rfl rfl rfl rfl ⟨Nat.le_of_ble_eq_true rfl, Nat.le_of_ble_eq_true rfl⟩ (Nat.le_of_ble_eq_true rfl) ⟨rfl, rfl⟩ ⟨Nat.le_of_ble_eq_true rfl, Nat.le_of_ble_eq_true rfl⟩ dX6_count_126 (k_RI (fun v_126 h_126 => ?_))
    exact m_wi hB hE dX6_count_129 rfl (Or.inr (Or.inr (Or.inr (Or.inr (Or.inr (Or.inl (⟨by omega, h_126, rfl⟩)))))))
  · refine y_tableIn hB 130 dX6_count_1 (by omega) (by omega) (by rw [hsw_1]; rfl) (by decide) ?_
    refine y_aload_n hB 0 dX6_count_130 rfl rfl ?_
    refine gt_6_0 hB (by decide) (t1 := 1) (by omega) dX6_count_131 ?_
    refine y_iconst (v := 2) hB dX6_count_134 rfl ?_
    refine m_V hB msX0_personsIn q471 (tX0_personsIn _ G b C S 1 2 desk_1 (by omega) (by omega) (DkOk_st hD)) (t := 1) (desk_1).1 (by decide) rfl rfl rfl rfl rfl ⟨Nat.le_of_ble_eq_true rfl, Nat.le_of_ble_eq_true rfl⟩ (Nat.le_of_ble_eq_true rfl) ⟨rfl, rfl⟩ ⟨Nat.le_of_ble_eq_true rfl, Nat.le_of_ble_eq_true rfl⟩ dX6_count_135 (k_RI (fun v_135 h_135 => ?_))
    exact m_wi hB hE dX6_count_138 rfl (Or.inr (Or.inr (Or.inr (Or.inr (Or.inr (Or.inr (Or.inl (⟨by omega, h_135, rfl⟩))))))))
  · refine y_tableIn hB 139 dX6_count_1 (by omega) (by omega) (by rw [hsw_1]; rfl) (by decide) ?_
    refine y_aload_n hB 0 dX6_count_139 rfl rfl ?_
    refine gt_6_0 hB (by decide) (t1 := 1) (by omega) dX6_count_140 ?_
    refine y_iconst (v := 3) hB dX6_count_143 rfl ?_
    refine m_V hB msX0_personsIn q471 (tX0_personsIn _ G b C S 1 3 desk_1 (by omega) (by omega) (DkOk_st hD)) (t := 1) (desk_1).1 (by decide) rfl rfl rfl rfl rfl ⟨Nat.le_of_ble_eq_true rfl, Nat.le_of_ble_eq_true rfl⟩ (Nat.le_of_ble_eq_true rfl) ⟨rfl, rfl⟩ ⟨Nat.le_of_ble_eq_true rfl, Nat.le_of_ble_eq_true rfl⟩ dX6_count_144 (k_RI (fun v_144 h_144 => ?_))
    exact m_wi hB hE dX6_count_147 rfl (Or.inr (Or.inr (Or.inr (Or.inr (Or.inr (Or.inr (Or.inr (Or.inl (⟨by omega, h_144, rfl⟩)))))))))
  · refine y_tableIn hB 148 dX6_count_1 (by omega) (by omega) (by rw [hsw_1]; rfl) (by decide) ?_
    refine y_aload_n hB 0 dX6_count_148 rfl rfl ?_
    refine gt_6_0 hB (by decide) (t1 := 1) (by omega) dX6_count_149 ?_
    refine m_V hB msX0_facts q475 (tX0_facts _ G b C S 1 desk_1 (by omega)) (t := 1) (desk_1).1 (by decide) rfl rfl rfl rfl rfl ⟨Nat.le_of_ble_eq_true rfl, Nat.le_of_ble_eq_true rfl⟩ (Nat.le_of_ble_eq_true rfl) ⟨rfl, rfl⟩ ⟨Nat.le_of_ble_eq_true rfl, Nat.le_of_ble_eq_true rfl⟩ dX6_count_152 (k_RI (fun v_152 h_152 => ?_))
    exact m_wi hB hE dX6_count_155 rfl (Or.inr (Or.inr (Or.inr (Or.inr (Or.inr (Or.inr (Or.inr (Or.inr (Or.inl (⟨by omega, h_152, rfl⟩))))))))))
  · refine y_tableIn hB 156 dX6_count_1 (by omega) (by omega) (by rw [hsw_1]; rfl) (by decide) ?_
    refine y_aload_n hB 0 dX6_count_156 rfl rfl ?_
    refine gt_6_0 hB (by decide) (t1 := 1) (by omega) dX6_count_157 ?_
    refine y_aload_n hB 0 dX6_count_160 rfl rfl ?_
    refine gt_6_0 hB (by decide) (t1 := 1) (by omega) dX6_count_161 ?_
    refine m_V hB msX0_today q356 (tX0_today _ G b C S 1 (desk_1).1) (t := 1) (desk_1).1 (by decide) rfl rfl rfl rfl rfl ⟨Nat.le_of_ble_eq_true rfl, Nat.le_of_ble_eq_true rfl⟩ (Nat.le_of_ble_eq_true rfl) ⟨rfl, rfl⟩ ⟨Nat.le_of_ble_eq_true rfl, Nat.le_of_ble_eq_true rfl⟩ dX6_count_164 (k_RI (fun v_164 h_164 => ?_))
    rw [h_164]
    refine m_V hB msX0_staleFactsOn q458 (tX0_staleFactsOn _ G b C S 1 (C 1 4) N desk_1 hD hN (by omega)) (t := 1) (desk_1).1 (by decide) rfl rfl rfl rfl rfl ⟨Nat.le_of_ble_eq_true rfl, Nat.le_of_ble_eq_true rfl⟩ (Nat.le_of_ble_eq_true rfl) ⟨rfl, rfl⟩ ⟨Nat.le_of_ble_eq_true rfl, Nat.le_of_ble_eq_true rfl⟩ dX6_count_167 (k_RI (fun v_167 h_167 => ?_))
    exact m_wi hB hE dX6_count_170 rfl (Or.inr (Or.inr (Or.inr (Or.inr (Or.inr (Or.inr (Or.inr (Or.inr (Or.inr (Or.inl (⟨by omega, h_167, rfl⟩)))))))))))
  · refine y_tableIn hB 171 dX6_count_1 (by omega) (by omega) (by rw [hsw_1]; rfl) (by decide) ?_
    refine y_aload_n hB 0 dX6_count_171 rfl rfl ?_
    refine gt_6_6 hB (by decide) (t1 := 573) (by omega) dX6_count_172 ?_
    refine y_aload_n hB 0 dX6_count_175 rfl rfl ?_
    refine gt_6_0 hB (by decide) (t1 := 1) (by omega) dX6_count_176 ?_
    refine m_V hB msX3_lay q415 (tX3_lay _ G b C S 1 N desk_1 (by omega) hD hN) (t := 14) (by decide) (by decide) rfl rfl rfl rfl rfl ⟨Nat.le_of_ble_eq_true rfl, Nat.le_of_ble_eq_true rfl⟩ (Nat.le_of_ble_eq_true rfl) ⟨rfl, rfl⟩ ⟨Nat.le_of_ble_eq_true rfl, Nat.le_of_ble_eq_true rfl⟩ dX6_count_179 (k_WV (fun C_179 h_179 => ?_))
    refine y_aload_n hB 0 dX6_count_182 rfl rfl ?_
    refine gt_6_6 hB (by decide) (t1 := 573) (by omega) dX6_count_183 ?_
    refine m_V hB msX3_linesFree q479 (tX3_linesFree _ G b C_179 S) (t := 14) (by decide) (by decide) rfl rfl rfl rfl rfl ⟨Nat.le_of_ble_eq_true rfl, Nat.le_of_ble_eq_true rfl⟩ (Nat.le_of_ble_eq_true rfl) ⟨rfl, rfl⟩ ⟨Nat.le_of_ble_eq_true rfl, Nat.le_of_ble_eq_true rfl⟩ dX6_count_186 (k_RI (fun v_186 h_186 => ?_))
    exact m_wi hB hE dX6_count_189 rfl (Or.inr (Or.inr (Or.inr (Or.inr (Or.inr (Or.inr (Or.inr (Or.inr (Or.inr (Or.inr (Or.inl (⟨by omega, h_186, h_179⟩))))))))))))
  · refine y_tableIn hB 190 dX6_count_1 (by omega) (by omega) (by rw [hsw_1]; rfl) (by decide) ?_
    refine y_aload_n hB 0 dX6_count_190 rfl rfl ?_
    refine gt_6_0 hB (by decide) (t1 := 1) (by omega) dX6_count_191 ?_
    refine m_V hB msX0_corrections q483 (tX0_corrections _ G b C S 1 (desk_1).1) (t := 1) (desk_1).1 (by decide) rfl rfl rfl rfl rfl ⟨Nat.le_of_ble_eq_true rfl, Nat.le_of_ble_eq_true rfl⟩ (Nat.le_of_ble_eq_true rfl) ⟨rfl, rfl⟩ ⟨Nat.le_of_ble_eq_true rfl, Nat.le_of_ble_eq_true rfl⟩ dX6_count_194 (k_RI (fun v_194 h_194 => ?_))
    exact m_wi hB hE dX6_count_197 rfl (Or.inr (Or.inr (Or.inr (Or.inr (Or.inr (Or.inr (Or.inr (Or.inr (Or.inr (Or.inr (Or.inr (Or.inl (⟨by omega, h_194, rfl⟩)))))))))))))
  · refine y_tableIn hB 198 dX6_count_1 (by omega) (by omega) (by rw [hsw_1]; rfl) (by decide) ?_
    refine y_aload_n hB 0 dX6_count_198 rfl rfl ?_
    refine gt_6_0 hB (by decide) (t1 := 1) (by omega) dX6_count_199 ?_
    refine y_iload_n hB 1 dX6_count_202 rfl rfl ?_
    refine y_bipush (v := 11) hB dX6_count_203 (by decide) ?_
    refine y_isub (t := u - 11) hB dX6_count_205 (by omega) ?_
    refine m_V hB msX0_setting q334 (tX0_setting _ G b C S 1 (u - 11) desk_1 (by omega)) (t := 1) (desk_1).1 (by decide) rfl rfl rfl rfl rfl ⟨Nat.le_of_ble_eq_true rfl, Nat.le_of_ble_eq_true rfl⟩ (Nat.le_of_ble_eq_true rfl) ⟨rfl, rfl⟩ ⟨Nat.le_of_ble_eq_true rfl, Nat.le_of_ble_eq_true rfl⟩ dX6_count_206 (k_RI (fun v_206 h_206 => ?_))
    exact m_wi hB hE dX6_count_209 rfl (by rcases (show u = 11 ∨ u = 12 ∨ u = 13 ∨ u = 14 ∨ u = 15 by omega) with g | g | g | g | g; exact (Or.inr (Or.inr (Or.inr (Or.inr (Or.inr (Or.inr (Or.inr (Or.inr (Or.inr (Or.inr (Or.inr (Or.inr (Or.inl (⟨g, h_206, rfl⟩)))))))))))))); exact (Or.inr (Or.inr (Or.inr (Or.inr (Or.inr (Or.inr (Or.inr (Or.inr (Or.inr (Or.inr (Or.inr (Or.inr (Or.inr (Or.inl (⟨g, h_206, rfl⟩))))))))))))))); exact (Or.inr (Or.inr (Or.inr (Or.inr (Or.inr (Or.inr (Or.inr (Or.inr (Or.inr (Or.inr (Or.inr (Or.inr (Or.inr (Or.inr (Or.inl (⟨g, h_206, rfl⟩)))))))))))))))); exact (Or.inr (Or.inr (Or.inr (Or.inr (Or.inr (Or.inr (Or.inr (Or.inr (Or.inr (Or.inr (Or.inr (Or.inr (Or.inr (Or.inr (Or.inr (Or.inl (⟨g, h_206, rfl⟩))))))))))))))))); exact (Or.inr (Or.inr (Or.inr (Or.inr (Or.inr (Or.inr (Or.inr (Or.inr (Or.inr (Or.inr (Or.inr (Or.inr (Or.inr (Or.inr (Or.inr (Or.inr (Or.inl (⟨g, h_206, rfl⟩)))))))))))))))))))
  · refine y_tableIn hB 198 dX6_count_1 (by omega) (by omega) (by rw [hsw_1]; rfl) (by decide) ?_
    refine y_aload_n hB 0 dX6_count_198 rfl rfl ?_
    refine gt_6_0 hB (by decide) (t1 := 1) (by omega) dX6_count_199 ?_
    refine y_iload_n hB 1 dX6_count_202 rfl rfl ?_
    refine y_bipush (v := 11) hB dX6_count_203 (by decide) ?_
    refine y_isub (t := u - 11) hB dX6_count_205 (by omega) ?_
    refine m_V hB msX0_setting q334 (tX0_setting _ G b C S 1 (u - 11) desk_1 (by omega)) (t := 1) (desk_1).1 (by decide) rfl rfl rfl rfl rfl ⟨Nat.le_of_ble_eq_true rfl, Nat.le_of_ble_eq_true rfl⟩ (Nat.le_of_ble_eq_true rfl) ⟨rfl, rfl⟩ ⟨Nat.le_of_ble_eq_true rfl, Nat.le_of_ble_eq_true rfl⟩ dX6_count_206 (k_RI (fun v_206 h_206 => ?_))
    exact m_wi hB hE dX6_count_209 rfl (by rcases (show u = 11 ∨ u = 12 ∨ u = 13 ∨ u = 14 ∨ u = 15 by omega) with g | g | g | g | g; exact (Or.inr (Or.inr (Or.inr (Or.inr (Or.inr (Or.inr (Or.inr (Or.inr (Or.inr (Or.inr (Or.inr (Or.inr (Or.inl (⟨g, h_206, rfl⟩)))))))))))))); exact (Or.inr (Or.inr (Or.inr (Or.inr (Or.inr (Or.inr (Or.inr (Or.inr (Or.inr (Or.inr (Or.inr (Or.inr (Or.inr (Or.inl (⟨g, h_206, rfl⟩))))))))))))))); exact (Or.inr (Or.inr (Or.inr (Or.inr (Or.inr (Or.inr (Or.inr (Or.inr (Or.inr (Or.inr (Or.inr (Or.inr (Or.inr (Or.inr (Or.inl (⟨g, h_206, rfl⟩)))))))))))))))); exact (Or.inr (Or.inr (Or.inr (Or.inr (Or.inr (Or.inr (Or.inr (Or.inr (Or.inr (Or.inr (Or.inr (Or.inr (Or.inr (Or.inr (Or.inr (Or.inl (⟨g, h_206, rfl⟩))))))))))))))))); exact (Or.inr (Or.inr (Or.inr (Or.inr (Or.inr (Or.inr (Or.inr (Or.inr (Or.inr (Or.inr (Or.inr (Or.inr (Or.inr (Or.inr (Or.inr (Or.inr (Or.inl (⟨g, h_206, rfl⟩)))))))))))))))))))
  · refine y_tableIn hB 198 dX6_count_1 (by omega) (by omega) (by rw [hsw_1]; rfl) (by decide) ?_
    refine y_aload_n hB 0 dX6_count_198 rfl rfl ?_
    refine gt_6_0 hB (by decide) (t1 := 1) (by omega) dX6_count_199 ?_
    refine y_iload_n hB 1 dX6_count_202 rfl rfl ?_
    refine y_bipush (v := 11) hB dX6_count_203 (by decide) ?_
    refine y_isub (t := u - 11) hB dX6_count_205 (by omega) ?_
    refine m_V hB msX0_setting q334 (tX0_setting _ G b C S 1 (u - 11) desk_1 (by omega)) (t := 1) (desk_1).1 (by decide) rfl rfl rfl rfl rfl ⟨Nat.le_of_ble_eq_true rfl, Nat.le_of_ble_eq_true rfl⟩ (Nat.le_of_ble_eq_true rfl) ⟨rfl, rfl⟩ ⟨Nat.le_of_ble_eq_true rfl, Nat.le_of_ble_eq_true rfl⟩ dX6_count_206 (k_RI (fun v_206 h_206 => ?_))
    exact m_wi hB hE dX6_count_209 rfl (by rcases (show u = 11 ∨ u = 12 ∨ u = 13 ∨ u = 14 ∨ u = 15 by omega) with g | g | g | g | g; exact (Or.inr (Or.inr (Or.inr (Or.inr (Or.inr (Or.inr (Or.inr (Or.inr (Or.inr (Or.inr (Or.inr (Or.inr (Or.inl (⟨g, h_206, rfl⟩)))))))))))))); exact (Or.inr (Or.inr (Or.inr (Or.inr (Or.inr (Or.inr (Or.inr (Or.inr (Or.inr (Or.inr (Or.inr (Or.inr (Or.inr (Or.inl (⟨g, h_206, rfl⟩))))))))))))))); exact (Or.inr (Or.inr (Or.inr (Or.inr (Or.inr (Or.inr (Or.inr (Or.inr (Or.inr (Or.inr (Or.inr (Or.inr (Or.inr (Or.inr (Or.inl (⟨g, h_206, rfl⟩)))))))))))))))); exact (Or.inr (Or.inr (Or.inr (Or.inr (Or.inr (Or.inr (Or.inr (Or.inr (Or.inr (Or.inr (Or.inr (Or.inr (Or.inr (Or.inr (Or.inr (Or.inl (⟨g, h_206, rfl⟩))))))))))))))))); exact (Or.inr (Or.inr (Or.inr (Or.inr (Or.inr (Or.inr (Or.inr (Or.inr (Or.inr (Or.inr (Or.inr (Or.inr (Or.inr (Or.inr (Or.inr (Or.inr (Or.inl (⟨g, h_206, rfl⟩)))))))))))))))))))
  · refine y_tableIn hB 198 dX6_count_1 (by omega) (by omega) (by rw [hsw_1]; rfl) (by decide) ?_
    refine y_aload_n hB 0 dX6_count_198 rfl rfl ?_
    refine gt_6_0 hB (by decide) (t1 := 1) (by omega) dX6_count_199 ?_
    refine y_iload_n hB 1 dX6_count_202 rfl rfl ?_
    refine y_bipush (v := 11) hB dX6_count_203 (by decide) ?_
    refine y_isub (t := u - 11) hB dX6_count_205 (by omega) ?_
    refine m_V hB msX0_setting q334 (tX0_setting _ G b C S 1 (u - 11) desk_1 (by omega)) (t := 1) (desk_1).1 (by decide) rfl rfl rfl rfl rfl ⟨Nat.le_of_ble_eq_true rfl, Nat.le_of_ble_eq_true rfl⟩ (Nat.le_of_ble_eq_true rfl) ⟨rfl, rfl⟩ ⟨Nat.le_of_ble_eq_true rfl, Nat.le_of_ble_eq_true rfl⟩ dX6_count_206 (k_RI (fun v_206 h_206 => ?_))
    exact m_wi hB hE dX6_count_209 rfl (by rcases (show u = 11 ∨ u = 12 ∨ u = 13 ∨ u = 14 ∨ u = 15 by omega) with g | g | g | g | g; exact (Or.inr (Or.inr (Or.inr (Or.inr (Or.inr (Or.inr (Or.inr (Or.inr (Or.inr (Or.inr (Or.inr (Or.inr (Or.inl (⟨g, h_206, rfl⟩)))))))))))))); exact (Or.inr (Or.inr (Or.inr (Or.inr (Or.inr (Or.inr (Or.inr (Or.inr (Or.inr (Or.inr (Or.inr (Or.inr (Or.inr (Or.inl (⟨g, h_206, rfl⟩))))))))))))))); exact (Or.inr (Or.inr (Or.inr (Or.inr (Or.inr (Or.inr (Or.inr (Or.inr (Or.inr (Or.inr (Or.inr (Or.inr (Or.inr (Or.inr (Or.inl (⟨g, h_206, rfl⟩)))))))))))))))); exact (Or.inr (Or.inr (Or.inr (Or.inr (Or.inr (Or.inr (Or.inr (Or.inr (Or.inr (Or.inr (Or.inr (Or.inr (Or.inr (Or.inr (Or.inr (Or.inl (⟨g, h_206, rfl⟩))))))))))))))))); exact (Or.inr (Or.inr (Or.inr (Or.inr (Or.inr (Or.inr (Or.inr (Or.inr (Or.inr (Or.inr (Or.inr (Or.inr (Or.inr (Or.inr (Or.inr (Or.inr (Or.inl (⟨g, h_206, rfl⟩)))))))))))))))))))
  · refine y_tableIn hB 198 dX6_count_1 (by omega) (by omega) (by rw [hsw_1]; rfl) (by decide) ?_
    refine y_aload_n hB 0 dX6_count_198 rfl rfl ?_
    refine gt_6_0 hB (by decide) (t1 := 1) (by omega) dX6_count_199 ?_
    refine y_iload_n hB 1 dX6_count_202 rfl rfl ?_
    refine y_bipush (v := 11) hB dX6_count_203 (by decide) ?_
    refine y_isub (t := u - 11) hB dX6_count_205 (by omega) ?_
    refine m_V hB msX0_setting q334 (tX0_setting _ G b C S 1 (u - 11) desk_1 (by omega)) (t := 1) (desk_1).1 (by decide) rfl rfl rfl rfl rfl ⟨Nat.le_of_ble_eq_true rfl, Nat.le_of_ble_eq_true rfl⟩ (Nat.le_of_ble_eq_true rfl) ⟨rfl, rfl⟩ ⟨Nat.le_of_ble_eq_true rfl, Nat.le_of_ble_eq_true rfl⟩ dX6_count_206 (k_RI (fun v_206 h_206 => ?_))
    exact m_wi hB hE dX6_count_209 rfl (by rcases (show u = 11 ∨ u = 12 ∨ u = 13 ∨ u = 14 ∨ u = 15 by omega) with g | g | g | g | g; exact (Or.inr (Or.inr (Or.inr (Or.inr (Or.inr (Or.inr (Or.inr (Or.inr (Or.inr (Or.inr (Or.inr (Or.inr (Or.inl (⟨g, h_206, rfl⟩)))))))))))))); exact (Or.inr (Or.inr (Or.inr (Or.inr (Or.inr (Or.inr (Or.inr (Or.inr (Or.inr (Or.inr (Or.inr (Or.inr (Or.inr (Or.inl (⟨g, h_206, rfl⟩))))))))))))))); exact (Or.inr (Or.inr (Or.inr (Or.inr (Or.inr (Or.inr (Or.inr (Or.inr (Or.inr (Or.inr (Or.inr (Or.inr (Or.inr (Or.inr (Or.inl (⟨g, h_206, rfl⟩)))))))))))))))); exact (Or.inr (Or.inr (Or.inr (Or.inr (Or.inr (Or.inr (Or.inr (Or.inr (Or.inr (Or.inr (Or.inr (Or.inr (Or.inr (Or.inr (Or.inr (Or.inl (⟨g, h_206, rfl⟩))))))))))))))))); exact (Or.inr (Or.inr (Or.inr (Or.inr (Or.inr (Or.inr (Or.inr (Or.inr (Or.inr (Or.inr (Or.inr (Or.inr (Or.inr (Or.inr (Or.inr (Or.inr (Or.inl (⟨g, h_206, rfl⟩)))))))))))))))))))
  · refine y_tableIn hB 210 dX6_count_1 (by omega) (by omega) (by rw [hsw_1]; rfl) (by decide) ?_
    refine y_aload_n hB 0 dX6_count_210 rfl rfl ?_
    refine gt_6_3 hB (by decide) (t1 := 169) (by omega) dX6_count_211 ?_
    refine m_V hB msX1_size q343 (tX1_size _ G b C S) (t := 7) (by decide) (by decide) rfl rfl rfl rfl rfl ⟨Nat.le_of_ble_eq_true rfl, Nat.le_of_ble_eq_true rfl⟩ (Nat.le_of_ble_eq_true rfl) ⟨rfl, rfl⟩ ⟨Nat.le_of_ble_eq_true rfl, Nat.le_of_ble_eq_true rfl⟩ dX6_count_214 (k_RI (fun v_214 h_214 => ?_))
    exact m_wi hB hE dX6_count_217 rfl (Or.inr (Or.inr (Or.inr (Or.inr (Or.inr (Or.inr (Or.inr (Or.inr (Or.inr (Or.inr (Or.inr (Or.inr (Or.inr (Or.inr (Or.inr (Or.inr (Or.inr (Or.inl (⟨by omega, h_214, rfl⟩)))))))))))))))))))
  · refine y_tableIn hB 218 dX6_count_1 (by omega) (by omega) (by rw [hsw_1]; rfl) (by decide) ?_
    refine y_aload_n hB 0 dX6_count_218 rfl rfl ?_
    refine gt_6_4 hB (by decide) (t1 := 507) (by omega) dX6_count_219 ?_
    refine m_V hB msX4_length q487 (tX4_length _ G b C S) (t := 9) (by decide) (by decide) rfl rfl rfl rfl rfl ⟨Nat.le_of_ble_eq_true rfl, Nat.le_of_ble_eq_true rfl⟩ (Nat.le_of_ble_eq_true rfl) ⟨rfl, rfl⟩ ⟨Nat.le_of_ble_eq_true rfl, Nat.le_of_ble_eq_true rfl⟩ dX6_count_222 (k_RI (fun v_222 h_222 => ?_))
    exact m_wi hB hE dX6_count_225 rfl (Or.inr (Or.inr (Or.inr (Or.inr (Or.inr (Or.inr (Or.inr (Or.inr (Or.inr (Or.inr (Or.inr (Or.inr (Or.inr (Or.inr (Or.inr (Or.inr (Or.inr (Or.inr (⟨by omega, h_222, rfl⟩)))))))))))))))))))
  · refine y_tableOut hB 226 dX6_count_1 (by omega) hsw_1 (by decide) ?_
    refine y_bipush (v := -2) hB dX6_count_226 (by decide) ?_
    exact m_wi hB hE dX6_count_228 rfl (Or.inl (⟨by omega, rfl, rfl⟩))
