set_option maxHeartbeats 4000000 in
theorem tX2_age (l : Launch) (G : gG) (b : Nat) (C S : gM) (q : Int) (hq : kd q = 5) : Ct l G b yX2_age cX2_age 1 (some .int) rmX2_age [.ref (ad b (q))] 586 (wM G b C S) (RI G b C S (fun v => v = C q 0)) := by
  refine CtK_of (by decide) (Nat.le_of_ble_eq_true rfl) q335 ?_
  intro x hl hB hE _
  subst hl
  show YM x G b 0 0 C S 0 [(0, .ref (ad b (q)))] []
  refine y_aload_n hB 0 dX2_age_0 rfl rfl ?_
  refine gt_2_0 hB hq (t1 := C q 0) rfl dX2_age_1 ?_
  exact m_ri hB hE dX2_age_4 rfl (rfl)
set_option maxHeartbeats 4000000 in
theorem tX2_rank (l : Launch) (G : gG) (b : Nat) (C S : gM) (q : Int) (hq : kd q = 5) : Ct l G b yX2_rank cX2_rank 1 (some .int) rmX2_rank [.ref (ad b (q))] 586 (wM G b C S) (RI G b C S (fun v => v = C q 1)) := by
  refine CtK_of (by decide) (Nat.le_of_ble_eq_true rfl) q339 ?_
  intro x hl hB hE _
  subst hl
  show YM x G b 0 0 C S 0 [(0, .ref (ad b (q)))] []
  refine y_aload_n hB 0 dX2_rank_0 rfl rfl ?_
  refine gt_2_1 hB hq (t1 := C q 1) rfl dX2_rank_1 ?_
  exact m_ri hB hE dX2_rank_4 rfl (rfl)
set_option maxHeartbeats 4000000 in
theorem tX2_state (l : Launch) (G : gG) (b : Nat) (C S : gM) (q : Int) (hq : kd q = 5) : Ct l G b yX2_state cX2_state 1 (some .int) rmX2_state [.ref (ad b (q))] 586 (wM G b C S) (RI G b C S (fun v => v = C q 2)) := by
  refine CtK_of (by decide) (Nat.le_of_ble_eq_true rfl) q650 ?_
  intro x hl hB hE _
  subst hl
  show YM x G b 0 0 C S 0 [(0, .ref (ad b (q)))] []
  refine y_aload_n hB 0 dX2_state_0 rfl rfl ?_
  refine gt_2_2 hB hq (t1 := C q 2) rfl dX2_state_1 ?_
  exact m_ri hB hE dX2_state_4 rfl (rfl)
set_option maxHeartbeats 4000000 in
theorem tX2_teller (l : Launch) (G : gG) (b : Nat) (C S : gM) (q : Int) (hq : kd q = 5) : Ct l G b yX2_teller cX2_teller 1 (some .int) rmX2_teller [.ref (ad b (q))] 586 (wM G b C S) (RI G b C S (fun v => v = C q 3)) := by
  refine CtK_of (by decide) (Nat.le_of_ble_eq_true rfl) q480 ?_
  intro x hl hB hE _
  subst hl
  show YM x G b 0 0 C S 0 [(0, .ref (ad b (q)))] []
  refine y_aload_n hB 0 dX2_teller_0 rfl rfl ?_
  refine gt_2_3 hB hq (t1 := C q 3) rfl dX2_teller_1 ?_
  exact m_ri hB hE dX2_teller_4 rfl (rfl)
set_option maxHeartbeats 4000000 in
theorem tX2_deathDay (l : Launch) (G : gG) (b : Nat) (C S : gM) (q : Int) (hq : kd q = 5) : Ct l G b yX2_deathDay cX2_deathDay 1 (some .int) rmX2_deathDay [.ref (ad b (q))] 586 (wM G b C S) (RI G b C S (fun v => v = C q 4)) := by
  refine CtK_of (by decide) (Nat.le_of_ble_eq_true rfl) q523 ?_
  intro x hl hB hE _
  subst hl
  show YM x G b 0 0 C S 0 [(0, .ref (ad b (q)))] []
  refine y_aload_n hB 0 dX2_deathDay_0 rfl rfl ?_
  refine gt_2_4 hB hq (t1 := C q 4) rfl dX2_deathDay_1 ?_
  exact m_ri hB hE dX2_deathDay_4 rfl (rfl)
set_option maxHeartbeats 4000000 in
theorem tX2_printDay (l : Launch) (G : gG) (b : Nat) (C S : gM) (q : Int) (hq : kd q = 5) : Ct l G b yX2_printDay cX2_printDay 1 (some .int) rmX2_printDay [.ref (ad b (q))] 586 (wM G b C S) (RI G b C S (fun v => v = C q 5)) := by
  refine CtK_of (by decide) (Nat.le_of_ble_eq_true rfl) q659 ?_
  intro x hl hB hE _
  subst hl
  show YM x G b 0 0 C S 0 [(0, .ref (ad b (q)))] []
  refine y_aload_n hB 0 dX2_printDay_0 rfl rfl ?_
  refine gt_2_5 hB hq (t1 := C q 5) rfl dX2_printDay_1 ?_
  exact m_ri hB hE dX2_printDay_4 rfl (rfl)
set_option maxHeartbeats 4000000 in
theorem tX2_size (l : Launch) (G : gG) (b : Nat) (C S : gM) (q : Int) (hq : kd q = 5) : Ct l G b yX2_size cX2_size 1 (some .int) rmX2_size [.ref (ad b (q))] 586 (wM G b C S) (RI G b C S (fun v => v = C q 6)) := by
  refine CtK_of (by decide) (Nat.le_of_ble_eq_true rfl) q356 ?_
  intro x hl hB hE _
  subst hl
  show YM x G b 0 0 C S 0 [(0, .ref (ad b (q)))] []
  refine y_aload_n hB 0 dX2_size_0 rfl rfl ?_
  refine gt_2_6 hB hq (t1 := C q 6) rfl dX2_size_1 ?_
  exact m_ri hB hE dX2_size_4 rfl (rfl)
set_option maxHeartbeats 4000000 in
theorem tX2_isIn (l : Launch) (G : gG) (b : Nat) (C S : gM) (q u : Int) (hq : kd q = 5) (hu : -2147483648 ≤ u ∧ u ≤ 2147483647) (hs : -2147483648 ≤ C q 2 ∧ C q 2 ≤ 2147483647) : Ct l G b yX2_isIn cX2_isIn 2 (some .boolean) rmX2_isIn [.ref (ad b (q)), .int (iI (u))] 586 (wM G b C S) (RI G b C S (fun v => (v = 1 ∧ C q 2 = u) ∨ (v = 0 ∧ ¬ C q 2 = u))) := by
  refine CtK_of (by decide) (Nat.le_of_ble_eq_true rfl) q352 ?_
  intro x hl hB hE _
  subst hl
  show YM x G b 0 0 C S 0 [(0, .ref (ad b (q))), (1, .int (iI (u)))] []
  refine y_aload_n hB 0 dX2_isIn_0 rfl rfl ?_
  refine gt_2_2 hB hq (t1 := C q 2) rfl dX2_isIn_1 ?_
  refine y_iload_n hB 1 dX2_isIn_4 rfl rfl ?_
  refine y_icmp_ne hB 12 dX2_isIn_5 (by decide) (by omega) (by omega) (fun c_5 => ?_) (fun c_5 => ?_)
  · refine y_iconst (v := 0) hB dX2_isIn_12 rfl ?_
    exact m_ri hB hE dX2_isIn_13 rfl (by omega)
  · refine y_iconst (v := 1) hB dX2_isIn_8 rfl ?_
    refine y_goto hB 13 dX2_isIn_9 (by decide) ?_
    exact m_ri hB hE dX2_isIn_13 rfl (by omega)
set_option maxHeartbeats 4000000 in
theorem tX2_tellDead (l : Launch) (G : gG) (b : Nat) (C S : gM) (q u t : Int) (hq : kd q = 5) : Ct l G b yX2_tellDead cX2_tellDead 3 none rmX2_tellDead [.ref (ad b (q)), .int (iI (u)), .int (iI (t))] 586 (wM G b C S) (WV G b S (fun C' => C' = up2 (up2 (up2 C q 2 1) q 3 u) q 4 t)) := by
  refine CtK_of (by decide) (Nat.le_of_ble_eq_true rfl) q488 ?_
  intro x hl hB hE _
  subst hl
  show YM x G b 0 0 C S 0 [(0, .ref (ad b (q))), (1, .int (iI (u))), (2, .int (iI (t)))] []
  refine y_aload_n hB 0 dX2_tellDead_0 rfl rfl ?_
  refine y_iconst (v := 1) hB dX2_tellDead_1 rfl ?_
  refine pt_2_2 hB hq dX2_tellDead_2 ?_
  refine y_aload_n hB 0 dX2_tellDead_5 rfl rfl ?_
  refine y_iload_n hB 1 dX2_tellDead_6 rfl rfl ?_
  refine pt_2_3 hB hq dX2_tellDead_7 ?_
  refine y_aload_n hB 0 dX2_tellDead_10 rfl rfl ?_
  refine y_iload_n hB 2 dX2_tellDead_11 rfl rfl ?_
  refine pt_2_4 hB hq dX2_tellDead_12 ?_
  exact m_wv hB hE dX2_tellDead_15 (rfl)
set_option maxHeartbeats 4000000 in
theorem tX2_confirmDeath (l : Launch) (G : gG) (b : Nat) (C S : gM) (q t : Int) (hq : kd q = 5) : Ct l G b yX2_confirmDeath cX2_confirmDeath 2 none rmX2_confirmDeath [.ref (ad b (q)), .int (iI (t))] 586 (wM G b C S) (WV G b S (fun C' => C' = up2 (up2 (up2 C q 2 2) q 3 (-5)) q 4 t)) := by
  refine CtK_of (by decide) (Nat.le_of_ble_eq_true rfl) q484 ?_
  intro x hl hB hE _
  subst hl
  show YM x G b 0 0 C S 0 [(0, .ref (ad b (q))), (1, .int (iI (t)))] []
  refine y_aload_n hB 0 dX2_confirmDeath_0 rfl rfl ?_
  refine y_iconst (v := 2) hB dX2_confirmDeath_1 rfl ?_
  refine pt_2_2 hB hq dX2_confirmDeath_2 ?_
  refine y_aload_n hB 0 dX2_confirmDeath_5 rfl rfl ?_
  refine y_bipush (v := -5) hB dX2_confirmDeath_6 (by decide) ?_
  refine pt_2_3 hB hq dX2_confirmDeath_8 ?_
  refine y_aload_n hB 0 dX2_confirmDeath_11 rfl rfl ?_
  refine y_iload_n hB 1 dX2_confirmDeath_12 rfl rfl ?_
  refine pt_2_4 hB hq dX2_confirmDeath_13 ?_
  exact m_wv hB hE dX2_confirmDeath_16 (rfl)
set_option maxHeartbeats 4000000 in
theorem tX2_takeBackDeath (l : Launch) (G : gG) (b : Nat) (C S : gM) (q : Int) (hq : kd q = 5) : Ct l G b yX2_takeBackDeath cX2_takeBackDeath 1 none rmX2_takeBackDeath [.ref (ad b (q))] 586 (wM G b C S) (WV G b S (fun C' => C' = up2 (up2 (up2 C q 2 0) q 3 (-5)) q 4 (-5))) := by
  refine CtK_of (by decide) (Nat.le_of_ble_eq_true rfl) q273 ?_
  intro x hl hB hE _
  subst hl
  show YM x G b 0 0 C S 0 [(0, .ref (ad b (q)))] []
  refine y_aload_n hB 0 dX2_takeBackDeath_0 rfl rfl ?_
  refine y_iconst (v := 0) hB dX2_takeBackDeath_1 rfl ?_
  refine pt_2_2 hB hq dX2_takeBackDeath_2 ?_
  refine y_aload_n hB 0 dX2_takeBackDeath_5 rfl rfl ?_
  refine y_bipush (v := -5) hB dX2_takeBackDeath_6 (by decide) ?_
  refine pt_2_3 hB hq dX2_takeBackDeath_8 ?_
  refine y_aload_n hB 0 dX2_takeBackDeath_11 rfl rfl ?_
  refine y_bipush (v := -5) hB dX2_takeBackDeath_12 (by decide) ?_
  refine pt_2_4 hB hq dX2_takeBackDeath_14 ?_
  exact m_wv hB hE dX2_takeBackDeath_17 (rfl)
set_option maxHeartbeats 4000000 in
theorem tX2_becomePrinted (l : Launch) (G : gG) (b : Nat) (C S : gM) (q t : Int) (hq : kd q = 5) : Ct l G b yX2_becomePrinted cX2_becomePrinted 2 none rmX2_becomePrinted [.ref (ad b (q)), .int (iI (t))] 586 (wM G b C S) (WV G b S (fun C' => C' = up2 (up2 C q 2 3) q 5 t)) := by
  refine CtK_of (by decide) (Nat.le_of_ble_eq_true rfl) q576 ?_
  intro x hl hB hE _
  subst hl
  show YM x G b 0 0 C S 0 [(0, .ref (ad b (q))), (1, .int (iI (t)))] []
  refine y_aload_n hB 0 dX2_becomePrinted_0 rfl rfl ?_
  refine y_iconst (v := 3) hB dX2_becomePrinted_1 rfl ?_
  refine pt_2_2 hB hq dX2_becomePrinted_2 ?_
  refine y_aload_n hB 0 dX2_becomePrinted_5 rfl rfl ?_
  refine y_iload_n hB 1 dX2_becomePrinted_6 rfl rfl ?_
  refine pt_2_5 hB hq dX2_becomePrinted_7 ?_
  exact m_wv hB hE dX2_becomePrinted_10 (rfl)
set_option maxHeartbeats 4000000 in
theorem tX2_begin (l : Launch) (G : gG) (b : Nat) (C S : gM) (q u t : Int) (hq : kd q = 5) : Ct l G b yX2_begin cX2_begin 3 none rmX2_begin [.ref (ad b (q)), .int (iI (u)), .int (iI (t))] 586 (wM G b C S) (WV G b S (fun C' => C' = up2 (up2 (up2 (up2 (up2 (up2 (up2 C q 0 u) q 1 t) q 5 (-5)) q 6 0) q 2 0) q 3 (-5)) q 4 (-5))) := by
  refine CtK_of (by decide) (Nat.le_of_ble_eq_true rfl) q269 ?_
  intro x hl hB hE _
  subst hl
  show YM x G b 0 0 C S 0 [(0, .ref (ad b (q))), (1, .int (iI (u))), (2, .int (iI (t)))] []
  refine y_aload_n hB 0 dX2_begin_0 rfl rfl ?_
  refine y_iload_n hB 1 dX2_begin_1 rfl rfl ?_
  refine pt_2_0 hB hq dX2_begin_2 ?_
  refine y_aload_n hB 0 dX2_begin_5 rfl rfl ?_
  refine y_iload_n hB 2 dX2_begin_6 rfl rfl ?_
  refine pt_2_1 hB hq dX2_begin_7 ?_
  refine y_aload_n hB 0 dX2_begin_10 rfl rfl ?_
  refine y_bipush (v := -5) hB dX2_begin_11 (by decide) ?_
  refine pt_2_5 hB hq dX2_begin_13 ?_
  refine y_aload_n hB 0 dX2_begin_16 rfl rfl ?_
  refine y_iconst (v := 0) hB dX2_begin_17 rfl ?_
  refine pt_2_6 hB hq dX2_begin_18 ?_
  refine y_aload_n hB 0 dX2_begin_21 rfl rfl ?_
  refine m_V hB msX2_takeBackDeath q270 (tX2_takeBackDeath _ G b (up2 (up2 (up2 (up2 C q 0 u) q 1 t) q 5 (-5)) q 6 0) S q hq) hq (by decide) rfl rfl rfl rfl rfl ⟨Nat.le_of_ble_eq_true rfl, Nat.le_of_ble_eq_true rfl⟩ (Nat.le_of_ble_eq_true rfl) ⟨rfl, rfl⟩ ⟨Nat.le_of_ble_eq_true rfl, Nat.le_of_ble_eq_true rfl⟩ dX2_begin_22 (k_WV (fun C_22 h_22 => ?_))
  obtain rfl := h_22
  exact m_wv hB hE dX2_begin_25 (rfl)
set_option maxHeartbeats 4000000 in
theorem tX2_hasFact (l : Launch) (G : gG) (b : Nat) (C S : gM) (q u : Int) (hq : kd q = 5) (hu : -2147483648 ≤ u ∧ u ≤ 2147483647) (hs : -2147483648 ≤ C q 6 ∧ C q 6 ≤ 2147483647) : Ct l G b yX2_hasFact cX2_hasFact 2 (some .boolean) rmX2_hasFact [.ref (ad b (q)), .int (iI (u))] 586 (wM G b C S) (RI G b C S (fun v => (v = 1 ∧ 0 ≤ u ∧ u < C q 6 ∧ u < 8) ∨ (v = 0 ∧ ¬ (0 ≤ u ∧ u < C q 6 ∧ u < 8)))) := by
  refine CtK_of (by decide) (Nat.le_of_ble_eq_true rfl) q373 ?_
  intro x hl hB hE _
  subst hl
  show YM x G b 0 0 C S 0 [(0, .ref (ad b (q))), (1, .int (iI (u)))] []
  refine y_iload_n hB 1 dX2_hasFact_0 rfl rfl ?_
  refine y_if_lt hB 22 dX2_hasFact_1 (by decide) (by omega) (fun c_1 => ?_) (fun c_1 => ?_)
  · refine y_iconst (v := 0) hB dX2_hasFact_22 rfl ?_
    exact m_ri hB hE dX2_hasFact_23 rfl (by omega)
  · refine y_iload_n hB 1 dX2_hasFact_4 rfl rfl ?_
    refine y_aload_n hB 0 dX2_hasFact_5 rfl rfl ?_
    refine gt_2_6 hB hq (t1 := C q 6) rfl dX2_hasFact_6 ?_
    refine y_icmp_ge hB 22 dX2_hasFact_9 (by decide) (by omega) (by omega) (fun c_9 => ?_) (fun c_9 => ?_)
    · refine y_iconst (v := 0) hB dX2_hasFact_22 rfl ?_
      exact m_ri hB hE dX2_hasFact_23 rfl (by omega)
    · refine y_iload_n hB 1 dX2_hasFact_12 rfl rfl ?_
      refine y_bipush (v := 8) hB dX2_hasFact_13 (by decide) ?_
      refine y_icmp_ge hB 22 dX2_hasFact_15 (by decide) (by omega) (by omega) (fun c_15 => ?_) (fun c_15 => ?_)
      · refine y_iconst (v := 0) hB dX2_hasFact_22 rfl ?_
        exact m_ri hB hE dX2_hasFact_23 rfl (by omega)
      · refine y_iconst (v := 1) hB dX2_hasFact_18 rfl ?_
        refine y_goto hB 23 dX2_hasFact_19 (by decide) ?_
        exact m_ri hB hE dX2_hasFact_23 rfl (by omega)
set_option maxHeartbeats 4000000 in
theorem tX2_sourceOf (l : Launch) (G : gG) (b : Nat) (C S : gM) (q u : Int) (hq : isLife q) (hs : 0 ≤ C q 6 ∧ C q 6 ≤ 8) (hu : 0 ≤ u ∧ u < C q 6) : Ct l G b yX2_sourceOf cX2_sourceOf 2 (some .int) rmX2_sourceOf [.ref (ad b (q)), .int (iI (u))] 586 (wM G b C S) (RI G b C S (fun v => v = C (q + 1) u)) := by
  refine CtK_of (by decide) (Nat.le_of_ble_eq_true rfl) q422 ?_
  intro x hl hB hE _
  subst hl
  show YM x G b 0 0 C S 0 [(0, .ref (ad b (q))), (1, .int (iI (u)))] []
  refine y_aload_n hB 0 dX2_sourceOf_0 rfl rfl ?_
  refine y_iload_n hB 1 dX2_sourceOf_1 rfl rfl ?_
  refine m_V hB msX2_hasFact q378 (tX2_hasFact _ G b C S q u (hq).1 (by omega) (by omega)) (hq).1 (by decide) rfl rfl rfl rfl rfl ⟨Nat.le_of_ble_eq_true rfl, Nat.le_of_ble_eq_true rfl⟩ (Nat.le_of_ble_eq_true rfl) ⟨rfl, rfl⟩ ⟨Nat.le_of_ble_eq_true rfl, Nat.le_of_ble_eq_true rfl⟩ dX2_sourceOf_2 (k_RI (fun v_2 h_2 => ?_))
  refine y_if_eq hB 17 dX2_sourceOf_5 (by decide) (by omega) (fun c_5 => ?_) (fun c_5 => ?_)
  · exfalso
    omega
  · refine y_aload_n hB 0 dX2_sourceOf_8 rfl rfl ?_
    refine gt_2_7 hB (hq).1 (t1 := q + 1) (by omega) dX2_sourceOf_9 ?_
    refine y_iload_n hB 1 dX2_sourceOf_12 rfl rfl ?_
    refine ald_6 hB (hq).2.1 (t1 := C (q + 1) u) (by omega) rfl dX2_sourceOf_13 ?_
    refine y_goto hB 19 dX2_sourceOf_14 (by decide) ?_
    exact m_ri hB hE dX2_sourceOf_19 rfl (rfl)
set_option maxHeartbeats 4000000 in
theorem tX2_linesOf (l : Launch) (G : gG) (b : Nat) (C S : gM) (q u : Int) (hq : isLife q) (hs : 0 ≤ C q 6 ∧ C q 6 ≤ 8) (hu : 0 ≤ u ∧ u < C q 6) : Ct l G b yX2_linesOf cX2_linesOf 2 (some .int) rmX2_linesOf [.ref (ad b (q)), .int (iI (u))] 586 (wM G b C S) (RI G b C S (fun v => v = C (q + 2) u)) := by
  refine CtK_of (by decide) (Nat.le_of_ble_eq_true rfl) q560 ?_
  intro x hl hB hE _
  subst hl
  show YM x G b 0 0 C S 0 [(0, .ref (ad b (q))), (1, .int (iI (u)))] []
  refine y_aload_n hB 0 dX2_linesOf_0 rfl rfl ?_
  refine y_iload_n hB 1 dX2_linesOf_1 rfl rfl ?_
  refine m_V hB msX2_hasFact q378 (tX2_hasFact _ G b C S q u (hq).1 (by omega) (by omega)) (hq).1 (by decide) rfl rfl rfl rfl rfl ⟨Nat.le_of_ble_eq_true rfl, Nat.le_of_ble_eq_true rfl⟩ (Nat.le_of_ble_eq_true rfl) ⟨rfl, rfl⟩ ⟨Nat.le_of_ble_eq_true rfl, Nat.le_of_ble_eq_true rfl⟩ dX2_linesOf_2 (k_RI (fun v_2 h_2 => ?_))
  refine y_if_eq hB 17 dX2_linesOf_5 (by decide) (by omega) (fun c_5 => ?_) (fun c_5 => ?_)
  · exfalso
    omega
  · refine y_aload_n hB 0 dX2_linesOf_8 rfl rfl ?_
    refine gt_2_8 hB (hq).1 (t1 := q + 2) (by omega) dX2_linesOf_9 ?_
    refine y_iload_n hB 1 dX2_linesOf_12 rfl rfl ?_
    refine ald_6 hB (hq).2.2.1 (t1 := C (q + 2) u) (by omega) rfl dX2_linesOf_13 ?_
    refine y_goto hB 18 dX2_linesOf_14 (by decide) ?_
    exact m_ri hB hE dX2_linesOf_18 rfl (rfl)
set_option maxHeartbeats 4000000 in
theorem tX2_dayOf (l : Launch) (G : gG) (b : Nat) (C S : gM) (q u : Int) (hq : isLife q) (hs : 0 ≤ C q 6 ∧ C q 6 ≤ 8) (hu : 0 ≤ u ∧ u < C q 6) : Ct l G b yX2_dayOf cX2_dayOf 2 (some .int) rmX2_dayOf [.ref (ad b (q)), .int (iI (u))] 586 (wM G b C S) (RI G b C S (fun v => v = C (q + 3) u)) := by
  refine CtK_of (by decide) (Nat.le_of_ble_eq_true rfl) q377 ?_
  intro x hl hB hE _
  subst hl
  show YM x G b 0 0 C S 0 [(0, .ref (ad b (q))), (1, .int (iI (u)))] []
  refine y_aload_n hB 0 dX2_dayOf_0 rfl rfl ?_
  refine y_iload_n hB 1 dX2_dayOf_1 rfl rfl ?_
  refine m_V hB msX2_hasFact q378 (tX2_hasFact _ G b C S q u (hq).1 (by omega) (by omega)) (hq).1 (by decide) rfl rfl rfl rfl rfl ⟨Nat.le_of_ble_eq_true rfl, Nat.le_of_ble_eq_true rfl⟩ (Nat.le_of_ble_eq_true rfl) ⟨rfl, rfl⟩ ⟨Nat.le_of_ble_eq_true rfl, Nat.le_of_ble_eq_true rfl⟩ dX2_dayOf_2 (k_RI (fun v_2 h_2 => ?_))
  refine y_if_eq hB 17 dX2_dayOf_5 (by decide) (by omega) (fun c_5 => ?_) (fun c_5 => ?_)
  · exfalso
    omega
  · refine y_aload_n hB 0 dX2_dayOf_8 rfl rfl ?_
    refine gt_2_9 hB (hq).1 (t1 := q + 3) (by omega) dX2_dayOf_9 ?_
    refine y_iload_n hB 1 dX2_dayOf_12 rfl rfl ?_
    refine ald_6 hB (hq).2.2.2.1 (t1 := C (q + 3) u) (by omega) rfl dX2_dayOf_13 ?_
    refine y_goto hB 19 dX2_dayOf_14 (by decide) ?_
    exact m_ri hB hE dX2_dayOf_19 rfl (rfl)
set_option maxHeartbeats 4000000 in
theorem tX2_addFact (l : Launch) (G : gG) (b : Nat) (C S : gM) (q u t z : Int) (hq : isLife q) (hs : 0 ≤ C q 6 ∧ C q 6 < 8) : Ct l G b yX2_addFact cX2_addFact 4 (some .int) rmX2_addFact [.ref (ad b (q)), .int (iI (u)), .int (iI (t)), .int (iI (z))] 586 (wM G b C S) (WI G b S (fun v C' => v = C q 6 ∧ C' = up2 (up2 (up2 (up2 C (q + 1) (C q 6) u) (q + 2) (C q 6) t) (q + 3) (C q 6) z) q 6 (C q 6 + 1))) := by
  refine CtK_of (by decide) (Nat.le_of_ble_eq_true rfl) q318 ?_
  intro x hl hB hE _
  subst hl
  show YM x G b 0 0 C S 0 [(0, .ref (ad b (q))), (1, .int (iI (u))), (2, .int (iI (t))), (3, .int (iI (z)))] []
  refine y_aload_n hB 0 dX2_addFact_0 rfl rfl ?_
  refine gt_2_6 hB (hq).1 (t1 := C q 6) rfl dX2_addFact_1 ?_
  refine y_if_lt hB 16 dX2_addFact_4 (by decide) (by omega) (fun c_4 => ?_) (fun c_4 => ?_)
  · exfalso
    omega
  · refine y_aload_n hB 0 dX2_addFact_7 rfl rfl ?_
    refine gt_2_6 hB (hq).1 (t1 := C q 6) rfl dX2_addFact_8 ?_
    refine y_bipush (v := 8) hB dX2_addFact_11 (by decide) ?_
    refine y_icmp_lt hB 19 dX2_addFact_13 (by decide) (by omega) (by omega) (fun c_13 => ?_) (fun c_13 => ?_)
    · refine y_aload_n hB 0 dX2_addFact_19 rfl rfl ?_
      refine gt_2_7 hB (hq).1 (t1 := q + 1) (by omega) dX2_addFact_20 ?_
      refine y_aload_n hB 0 dX2_addFact_23 rfl rfl ?_
      refine gt_2_6 hB (hq).1 (t1 := C q 6) rfl dX2_addFact_24 ?_
      refine y_iload_n hB 1 dX2_addFact_27 rfl rfl ?_
      refine ast_6 hB (hq).2.1 (by omega) dX2_addFact_28 ?_
      refine y_aload_n hB 0 dX2_addFact_29 rfl rfl ?_
      refine gt_2_8 hB (hq).1 (t1 := q + 2) (by omega) dX2_addFact_30 ?_
      refine y_aload_n hB 0 dX2_addFact_33 rfl rfl ?_
      refine gt_2_6 hB (hq).1 (t1 := C q 6) (rd_k (by omega)) dX2_addFact_34 ?_
      refine y_iload_n hB 2 dX2_addFact_37 rfl rfl ?_
      refine ast_6 hB (hq).2.2.1 (by omega) dX2_addFact_38 ?_
      refine y_aload_n hB 0 dX2_addFact_39 rfl rfl ?_
      refine gt_2_9 hB (hq).1 (t1 := q + 3) (by omega) dX2_addFact_40 ?_
      refine y_aload_n hB 0 dX2_addFact_43 rfl rfl ?_
      refine gt_2_6 hB (hq).1 (t1 := C q 6) ((rd_k (by omega)).trans (rd_k (by omega))) dX2_addFact_44 ?_
      refine y_iload_n hB 3 dX2_addFact_47 rfl rfl ?_
      refine ast_6 hB (hq).2.2.2.1 (by omega) dX2_addFact_48 ?_
      refine y_aload_n hB 0 dX2_addFact_49 rfl rfl ?_
      refine y_dup hB dX2_addFact_50 rfl ?_
      refine gt_2_6 hB (hq).1 (t1 := C q 6) ((rd_k (by omega)).trans ((rd_k (by omega)).trans (rd_k (by omega)))) dX2_addFact_51 ?_
      refine y_iconst (v := 1) hB dX2_addFact_54 rfl ?_
      refine y_iadd (t := C q 6 + 1) hB dX2_addFact_55 (by omega) ?_
      refine pt_2_6 hB (hq).1 dX2_addFact_56 ?_
      refine y_aload_n hB 0 dX2_addFact_59 rfl rfl ?_
      refine gt_2_6 hB (hq).1 (t1 := C q 6 + 1) (rd_hit (by omega) (by omega)) dX2_addFact_60 ?_
      refine y_iconst (v := 1) hB dX2_addFact_63 rfl ?_
      refine y_isub (t := C q 6) hB dX2_addFact_64 (by omega) ?_
      exact m_wi hB hE dX2_addFact_65 rfl (⟨by omega, rfl⟩)
    · exfalso
      omega
