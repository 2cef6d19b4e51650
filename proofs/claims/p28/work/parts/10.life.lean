set_option maxHeartbeats 4000000 in
theorem tX2_age (l : Launch) (G : gG) (b : Nat) (C S : gM) (q : Int) (hq : kd q = 5) : Ct l G b yX2_age cX2_age 1 (some .int) rmX2_age [.ref (ad b (q))] 578 (wM G b C S) (RI G b C S (fun v => v = C q 0)) := by
  refine CtK_of (by decide) (Nat.le_of_ble_eq_true rfl) q303 ?_
  intro x hl hB hE _
  subst hl
  show YM x G b 0 0 C S 0 [(0, .ref (ad b (q)))] []
  refine y_aload_n hB 0 dX2_age_0 rfl rfl ?_
  refine gt_2_0 hB hq (t1 := C q 0) rfl dX2_age_1 ?_
  exact m_ri hB hE dX2_age_4 rfl (rfl)
set_option maxHeartbeats 4000000 in
theorem tX2_rank (l : Launch) (G : gG) (b : Nat) (C S : gM) (q : Int) (hq : kd q = 5) : Ct l G b yX2_rank cX2_rank 1 (some .int) rmX2_rank [.ref (ad b (q))] 578 (wM G b C S) (RI G b C S (fun v => v = C q 1)) := by
  refine CtK_of (by decide) (Nat.le_of_ble_eq_true rfl) q307 ?_
  intro x hl hB hE _
  subst hl
  show YM x G b 0 0 C S 0 [(0, .ref (ad b (q)))] []
  refine y_aload_n hB 0 dX2_rank_0 rfl rfl ?_
  refine gt_2_1 hB hq (t1 := C q 1) rfl dX2_rank_1 ?_
  exact m_ri hB hE dX2_rank_4 rfl (rfl)
set_option maxHeartbeats 4000000 in
theorem tX2_state (l : Launch) (G : gG) (b : Nat) (C S : gM) (q : Int) (hq : kd q = 5) : Ct l G b yX2_state cX2_state 1 (some .int) rmX2_state [.ref (ad b (q))] 578 (wM G b C S) (RI G b C S (fun v => v = C q 2)) := by
  refine CtK_of (by decide) (Nat.le_of_ble_eq_true rfl) q374 ?_
  intro x hl hB hE _
  subst hl
  show YM x G b 0 0 C S 0 [(0, .ref (ad b (q)))] []
  refine y_aload_n hB 0 dX2_state_0 rfl rfl ?_
  refine gt_2_2 hB hq (t1 := C q 2) rfl dX2_state_1 ?_
  exact m_ri hB hE dX2_state_4 rfl (rfl)
set_option maxHeartbeats 4000000 in
theorem tX2_teller (l : Launch) (G : gG) (b : Nat) (C S : gM) (q : Int) (hq : kd q = 5) : Ct l G b yX2_teller cX2_teller 1 (some .int) rmX2_teller [.ref (ad b (q))] 578 (wM G b C S) (RI G b C S (fun v => v = C q 3)) := by
  refine CtK_of (by decide) (Nat.le_of_ble_eq_true rfl) q615 ?_
  intro x hl hB hE _
  subst hl
  show YM x G b 0 0 C S 0 [(0, .ref (ad b (q)))] []
  refine y_aload_n hB 0 dX2_teller_0 rfl rfl ?_
  refine gt_2_3 hB hq (t1 := C q 3) rfl dX2_teller_1 ?_
  exact m_ri hB hE dX2_teller_4 rfl (rfl)
set_option maxHeartbeats 4000000 in
theorem tX2_deathDay (l : Launch) (G : gG) (b : Nat) (C S : gM) (q : Int) (hq : kd q = 5) : Ct l G b yX2_deathDay cX2_deathDay 1 (some .int) rmX2_deathDay [.ref (ad b (q))] 578 (wM G b C S) (RI G b C S (fun v => v = C q 4)) := by
  refine CtK_of (by decide) (Nat.le_of_ble_eq_true rfl) q401 ?_
  intro x hl hB hE _
  subst hl
  show YM x G b 0 0 C S 0 [(0, .ref (ad b (q)))] []
  refine y_aload_n hB 0 dX2_deathDay_0 rfl rfl ?_
  refine gt_2_4 hB hq (t1 := C q 4) rfl dX2_deathDay_1 ?_
  exact m_ri hB hE dX2_deathDay_4 rfl (rfl)
set_option maxHeartbeats 4000000 in
theorem tX2_printDay (l : Launch) (G : gG) (b : Nat) (C S : gM) (q : Int) (hq : kd q = 5) : Ct l G b yX2_printDay cX2_printDay 1 (some .int) rmX2_printDay [.ref (ad b (q))] 578 (wM G b C S) (RI G b C S (fun v => v = C q 5)) := by
  refine CtK_of (by decide) (Nat.le_of_ble_eq_true rfl) q405 ?_
  intro x hl hB hE _
  subst hl
  show YM x G b 0 0 C S 0 [(0, .ref (ad b (q)))] []
  refine y_aload_n hB 0 dX2_printDay_0 rfl rfl ?_
  refine gt_2_5 hB hq (t1 := C q 5) rfl dX2_printDay_1 ?_
  exact m_ri hB hE dX2_printDay_4 rfl (rfl)
set_option maxHeartbeats 4000000 in
theorem tX2_size (l : Launch) (G : gG) (b : Nat) (C S : gM) (q : Int) (hq : kd q = 5) : Ct l G b yX2_size cX2_size 1 (some .int) rmX2_size [.ref (ad b (q))] 578 (wM G b C S) (RI G b C S (fun v => v = C q 6)) := by
  refine CtK_of (by decide) (Nat.le_of_ble_eq_true rfl) q255 ?_
  intro x hl hB hE _
  subst hl
  show YM x G b 0 0 C S 0 [(0, .ref (ad b (q)))] []
  refine y_aload_n hB 0 dX2_size_0 rfl rfl ?_
  refine gt_2_6 hB hq (t1 := C q 6) rfl dX2_size_1 ?_
  exact m_ri hB hE dX2_size_4 rfl (rfl)
set_option maxHeartbeats 4000000 in
theorem tX2_isIn (l : Launch) (G : gG) (b : Nat) (C S : gM) (q u : Int) (hq : kd q = 5) (hu : -2147483648 ≤ u ∧ u ≤ 2147483647) (hs : -2147483648 ≤ C q 2 ∧ C q 2 ≤ 2147483647) : Ct l G b yX2_isIn cX2_isIn 2 (some .boolean) rmX2_isIn [.ref (ad b (q)), .int (iI (u))] 578 (wM G b C S) (RI G b C S (fun v => (v = 1 ∧ C q 2 = u) ∨ (v = 0 ∧ ¬ C q 2 = u))) := by
  refine CtK_of (by decide) (Nat.le_of_ble_eq_true rfl) q247 ?_
  intro x hl hB hE _
  subst hl
  show YM x G b 0 0 C S 0 [(0, .ref (ad b (q))), (1, .int (iI (u)))] []
  refine y_aload_n hB 0 dX2_isIn_0 rfl rfl ?_
  refine gt_2_2 hB hq (t1 := C q 2) rfl dX2_isIn_1 ?_
  refine y_iload_n hB 1 dX2_isIn_4 rfl rfl ?_
  refine y_icmp_ne hB 12 dX2_isIn_5 (by decide) (by omega) (by omega) (fun c_5 => ?_) (fun c_5 => ?_)
  · refine y_iconst (v := 0) hB dX2_isIn_12 rfl ?_
    exact m_ri hB hE dX2_isIn_13 rfl (by omega)
  · refine y_iconst (v := 1) hB dX2_isIn_8 rfl ?_
    refine y_goto hB 13 dX2_isIn_9 (by decide) ?_
    exact m_ri hB hE dX2_isIn_13 rfl (by omega)
set_option maxHeartbeats 4000000 in
theorem tX2_tellDead (l : Launch) (G : gG) (b : Nat) (C S : gM) (q u t : Int) (hq : kd q = 5) : Ct l G b yX2_tellDead cX2_tellDead 3 none rmX2_tellDead [.ref (ad b (q)), .int (iI (u)), .int (iI (t))] 578 (wM G b C S) (WV G b S (fun C' => C' = up2 (up2 (up2 C q 2 1) q 3 u) q 4 t)) := by
  refine CtK_of (by decide) (Nat.le_of_ble_eq_true rfl) q623 ?_
  intro x hl hB hE _
  subst hl
  show YM x G b 0 0 C S 0 [(0, .ref (ad b (q))), (1, .int (iI (u))), (2, .int (iI (t)))] []
  refine y_aload_n hB 0 dX2_tellDead_0 rfl rfl ?_
  refine y_iconst (v := 1) hB dX2_tellDead_1 rfl ?_
  refine pt_2_2 hB hq dX2_tellDead_2 ?_
  refine y_aload_n hB 0 dX2_tellDead_5 rfl rfl ?_
  refine y_iload_n hB 1 dX2_tellDead_6 rfl rfl ?_
  refine pt_2_3 hB hq dX2_tellDead_7 ?_
  refine y_aload_n hB 0 dX2_tellDead_10 rfl rfl ?_
  refine y_iload_n hB 2 dX2_tellDead_11 rfl rfl ?_
  refine pt_2_4 hB hq dX2_tellDead_12 ?_
  exact m_wv hB hE dX2_tellDead_15 (rfl)
set_option maxHeartbeats 4000000 in
theorem tX2_confirmDeath (l : Launch) (G : gG) (b : Nat) (C S : gM) (q t : Int) (hq : kd q = 5) : Ct l G b yX2_confirmDeath cX2_confirmDeath 2 none rmX2_confirmDeath [.ref (ad b (q)), .int (iI (t))] 578 (wM G b C S) (WV G b S (fun C' => C' = up2 (up2 (up2 C q 2 2) q 3 (-5)) q 4 t)) := by
  refine CtK_of (by decide) (Nat.le_of_ble_eq_true rfl) q619 ?_
  intro x hl hB hE _
  subst hl
  show YM x G b 0 0 C S 0 [(0, .ref (ad b (q))), (1, .int (iI (t)))] []
  refine y_aload_n hB 0 dX2_confirmDeath_0 rfl rfl ?_
  refine y_iconst (v := 2) hB dX2_confirmDeath_1 rfl ?_
  refine pt_2_2 hB hq dX2_confirmDeath_2 ?_
  refine y_aload_n hB 0 dX2_confirmDeath_5 rfl rfl ?_
  refine y_bipush (v := -5) hB dX2_confirmDeath_6 (by decide) ?_
  refine pt_2_3 hB hq dX2_confirmDeath_8 ?_
  refine y_aload_n hB 0 dX2_confirmDeath_11 rfl rfl ?_
  refine y_iload_n hB 1 dX2_confirmDeath_12 rfl rfl ?_
  refine pt_2_4 hB hq dX2_confirmDeath_13 ?_
  exact m_wv hB hE dX2_confirmDeath_16 (rfl)
set_option maxHeartbeats 4000000 in
theorem tX2_takeBackDeath (l : Launch) (G : gG) (b : Nat) (C S : gM) (q : Int) (hq : kd q = 5) : Ct l G b yX2_takeBackDeath cX2_takeBackDeath 1 none rmX2_takeBackDeath [.ref (ad b (q))] 578 (wM G b C S) (WV G b S (fun C' => C' = up2 (up2 (up2 C q 2 0) q 3 (-5)) q 4 (-5))) := by
  refine CtK_of (by decide) (Nat.le_of_ble_eq_true rfl) q235 ?_
  intro x hl hB hE _
  subst hl
  show YM x G b 0 0 C S 0 [(0, .ref (ad b (q)))] []
  refine y_aload_n hB 0 dX2_takeBackDeath_0 rfl rfl ?_
  refine y_iconst (v := 0) hB dX2_takeBackDeath_1 rfl ?_
  refine pt_2_2 hB hq dX2_takeBackDeath_2 ?_
  refine y_aload_n hB 0 dX2_takeBackDeath_5 rfl rfl ?_
  refine y_bipush (v := -5) hB dX2_takeBackDeath_6 (by decide) ?_
  refine pt_2_3 hB hq dX2_takeBackDeath_8 ?_
  refine y_aload_n hB 0 dX2_takeBackDeath_11 rfl rfl ?_
  refine y_bipush (v := -5) hB dX2_takeBackDeath_12 (by decide) ?_
  refine pt_2_4 hB hq dX2_takeBackDeath_14 ?_
  exact m_wv hB hE dX2_takeBackDeath_17 (rfl)
set_option maxHeartbeats 4000000 in
theorem tX2_becomePrinted (l : Launch) (G : gG) (b : Nat) (C S : gM) (q t : Int) (hq : kd q = 5) : Ct l G b yX2_becomePrinted cX2_becomePrinted 2 none rmX2_becomePrinted [.ref (ad b (q)), .int (iI (t))] 578 (wM G b C S) (WV G b S (fun C' => C' = up2 (up2 C q 2 3) q 5 t)) := by
  refine CtK_of (by decide) (Nat.le_of_ble_eq_true rfl) q578 ?_
  intro x hl hB hE _
  subst hl
  show YM x G b 0 0 C S 0 [(0, .ref (ad b (q))), (1, .int (iI (t)))] []
  refine y_aload_n hB 0 dX2_becomePrinted_0 rfl rfl ?_
  refine y_iconst (v := 3) hB dX2_becomePrinted_1 rfl ?_
  refine pt_2_2 hB hq dX2_becomePrinted_2 ?_
  refine y_aload_n hB 0 dX2_becomePrinted_5 rfl rfl ?_
  refine y_iload_n hB 1 dX2_becomePrinted_6 rfl rfl ?_
  refine pt_2_5 hB hq dX2_becomePrinted_7 ?_
  exact m_wv hB hE dX2_becomePrinted_10 (rfl)
set_option maxHeartbeats 4000000 in
theorem tX2_begin (l : Launch) (G : gG) (b : Nat) (C S : gM) (q u t : Int) (hq : kd q = 5) : Ct l G b yX2_begin cX2_begin 3 none rmX2_begin [.ref (ad b (q)), .int (iI (u)), .int (iI (t))] 578 (wM G b C S) (WV G b S (fun C' => C' = up2 (up2 (up2 (up2 (up2 (up2 (up2 C q 0 u) q 1 t) q 5 (-5)) q 6 0) q 2 0) q 3 (-5)) q 4 (-5))) := by
  refine CtK_of (by decide) (Nat.le_of_ble_eq_true rfl) q231 ?_
  intro x hl hB hE _
  subst hl
  show YM x G b 0 0 C S 0 [(0, .ref (ad b (q))), (1, .int (iI (u))), (2, .int (iI (t)))] []
  refine y_aload_n hB 0 dX2_begin_0 rfl rfl ?_
  refine y_iload_n hB 1 dX2_begin_1 rfl rfl ?_
  refine pt_2_0 hB hq dX2_begin_2 ?_
  refine y_aload_n hB 0 dX2_begin_5 rfl rfl ?_
  refine y_iload_n hB 2 dX2_begin_6 rfl rfl ?_
  refine pt_2_1 hB hq dX2_begin_7 ?_
  refine y_aload_n hB 0 dX2_begin_10 rfl rfl ?_
  refine y_bipush (v := -5) hB dX2_begin_11 (by decide) ?_
  refine pt_2_5 hB hq dX2_begin_13 ?_
  refine y_aload_n hB 0 dX2_begin_16 rfl rfl ?_
  refine y_iconst (v := 0) hB dX2_begin_17 rfl ?_
  refine pt_2_6 hB hq dX2_begin_18 ?_
  refine y_aload_n hB 0 dX2_begin_21 rfl rfl ?_
  refine m_V hB msX2_takeBackDeath q232 (tX2_takeBackDeath _ G b (up2 (up2 (up2 (up2 C q 0 u) q 1 t) q 5 (-5)) q 6 0) S q hq) (t := 5) hq (by decide) rfl rfl rfl rfl rfl ⟨Nat.le_of_ble_eq_true rfl, Nat.le_of_ble_eq_true rfl⟩ (Nat.le_of_ble_eq_true rfl) ⟨rfl, rfl⟩ ⟨Nat.le_of_ble_eq_true rfl, Nat.le_of_ble_eq_true rfl⟩ dX2_begin_22 (k_WV (fun C_22 h_22 => ?_))
  obtain rfl := h_22
  exact m_wv hB hE dX2_begin_25 (rfl)
set_option maxHeartbeats 4000000 in
theorem tX2_hasFact (l : Launch) (G : gG) (b : Nat) (C S : gM) (q u : Int) (hq : kd q = 5) (hu : -2147483648 ≤ u ∧ u ≤ 2147483647) (hs : -2147483648 ≤ C q 6 ∧ C q 6 ≤ 2147483647) : Ct l G b yX2_hasFact cX2_hasFact 2 (some .boolean) rmX2_hasFact [.ref (ad b (q)), .int (iI (u))] 578 (wM G b C S) (RI G b C S (fun v => (v = 1 ∧ 0 ≤ u ∧ u < C q 6 ∧ u < 8) ∨ (v = 0 ∧ ¬ (0 ≤ u ∧ u < C q 6 ∧ u < 8)))) := by
  refine CtK_of (by decide) (Nat.le_of_ble_eq_true rfl) q263 ?_
  intro x hl hB hE _
  subst hl
  show YM x G b 0 0 C S 0 [(0, .ref (ad b (q))), (1, .int (iI (u)))] []
  refine y_iload_n hB 1 dX2_hasFact_0 rfl rfl ?_
  refine y_if_lt hB 22 dX2_hasFact_1 (by decide) (by omega) (fun c_1 => ?_) (fun c_1 => ?_)
  · refine y_iconst (v := 0) hB dX2_hasFact_22 rfl ?_
    exact m_ri hB hE dX2_hasFact_23 rfl (by omega)
  · refine y_iload_n hB 1 dX2_hasFact_4 rfl rfl ?_
    refine y_aload_n hB 0 dX2_hasFact_5 rfl rfl ?_
    refine gt_2_6 hB hq (t1 := C q 6) rfl dX2_hasFact_6 ?_
    refine y_icmp_ge hB 22 dX2_hasFact_9 (by decide) (by omega) (by omega) (fun c_9 => ?_) (fun c_9 => ?_)
    · refine y_iconst (v := 0) hB dX2_hasFact_22 rfl ?_
      exact m_ri hB hE dX2_hasFact_23 rfl (by omega)
    · refine y_iload_n hB 1 dX2_hasFact_12 rfl rfl ?_
      refine y_bipush (v := 8) hB dX2_hasFact_13 (by decide) ?_
      refine y_icmp_ge hB 22 dX2_hasFact_15 (by decide) (by omega) (by omega) (fun c_15 => ?_) (fun c_15 => ?_)
      · refine y_iconst (v := 0) hB dX2_hasFact_22 rfl ?_
        exact m_ri hB hE dX2_hasFact_23 rfl (by omega)
      · refine y_iconst (v := 1) hB dX2_hasFact_18 rfl ?_
        refine y_goto hB 23 dX2_hasFact_19 (by decide) ?_
        exact m_ri hB hE dX2_hasFact_23 rfl (by omega)
set_option maxHeartbeats 4000000 in
theorem tX2_sourceOf (l : Launch) (G : gG) (b : Nat) (C S : gM) (q u : Int) (hq : isLife q) (hs : 0 ≤ C q 6 ∧ C q 6 ≤ 8) (hu : 0 ≤ u ∧ u < C q 6) : Ct l G b yX2_sourceOf cX2_sourceOf 2 (some .int) rmX2_sourceOf [.ref (ad b (q)), .int (iI (u))] 578 (wM G b C S) (RI G b C S (fun v => v = C (q + 1) u)) := by
  refine CtK_of (by decide) (Nat.le_of_ble_eq_true rfl) q275 ?_
  intro x hl hB hE _
  subst hl
  show YM x G b 0 0 C S 0 [(0, .ref (ad b (q))), (1, .int (iI (u)))] []
  refine y_aload_n hB 0 dX2_sourceOf_0 rfl rfl ?_
  refine y_iload_n hB 1 dX2_sourceOf_1 rfl rfl ?_
  refine m_V hB msX2_hasFact q260 (tX2_hasFact _ G b C S q u (hq).1 (by omega) (by omega)) (t := 5) (hq).1 (by decide) rfl rfl rfl rfl rfl ⟨Nat.le_of_ble_eq_true rfl, Nat.le_of_ble_eq_true rfl⟩ (Nat.le_of_ble_eq_true rfl) ⟨rfl, rfl⟩ ⟨Nat.le_of_ble_eq_true rfl, Nat.le_of_ble_eq_true rfl⟩ dX2_sourceOf_2 (k_RI (fun v_2 h_2 => ?_))
  refine y_if_eq hB 17 dX2_sourceOf_5 (by decide) (by omega) (fun c_5 => ?_) (fun c_5 => ?_)
  · exfalso
    omega
  · refine y_aload_n hB 0 dX2_sourceOf_8 rfl rfl ?_
    refine gt_2_7 hB (hq).1 (t1 := q + 1) (by omega) dX2_sourceOf_9 ?_
    refine y_iload_n hB 1 dX2_sourceOf_12 rfl rfl ?_
    refine ald_6 hB (hq).2.1 (t1 := C (q + 1) u) (by omega) rfl dX2_sourceOf_13 ?_
    refine y_goto hB 19 dX2_sourceOf_14 (by decide) ?_
    exact m_ri hB hE dX2_sourceOf_19 rfl (rfl)
set_option maxHeartbeats 4000000 in
theorem tX2_linesOf (l : Launch) (G : gG) (b : Nat) (C S : gM) (q u : Int) (hq : isLife q) (hs : 0 ≤ C q 6 ∧ C q 6 ≤ 8) (hu : 0 ≤ u ∧ u < C q 6) : Ct l G b yX2_linesOf cX2_linesOf 2 (some .int) rmX2_linesOf [.ref (ad b (q)), .int (iI (u))] 578 (wM G b C S) (RI G b C S (fun v => v = C (q + 2) u)) := by
  refine CtK_of (by decide) (Nat.le_of_ble_eq_true rfl) q383 ?_
  intro x hl hB hE _
  subst hl
  show YM x G b 0 0 C S 0 [(0, .ref (ad b (q))), (1, .int (iI (u)))] []
  refine y_aload_n hB 0 dX2_linesOf_0 rfl rfl ?_
  refine y_iload_n hB 1 dX2_linesOf_1 rfl rfl ?_
  refine m_V hB msX2_hasFact q260 (tX2_hasFact _ G b C S q u (hq).1 (by omega) (by omega)) (t := 5) (hq).1 (by decide) rfl rfl rfl rfl rfl ⟨Nat.le_of_ble_eq_true rfl, Nat.le_of_ble_eq_true rfl⟩ (Nat.le_of_ble_eq_true rfl) ⟨rfl, rfl⟩ ⟨Nat.le_of_ble_eq_true rfl, Nat.le_of_ble_eq_true rfl⟩ dX2_linesOf_2 (k_RI (fun v_2 h_2 => ?_))
  refine y_if_eq hB 17 dX2_linesOf_5 (by decide) (by omega) (fun c_5 => ?_) (fun c_5 => ?_)
  · exfalso
    omega
  · refine y_aload_n hB 0 dX2_linesOf_8 rfl rfl ?_
    refine gt_2_8 hB (hq).1 (t1 := q + 2) (by omega) dX2_linesOf_9 ?_
    refine y_iload_n hB 1 dX2_linesOf_12 rfl rfl ?_
    refine ald_6 hB (hq).2.2.1 (t1 := C (q + 2) u) (by omega) rfl dX2_linesOf_13 ?_
    refine y_goto hB 18 dX2_linesOf_14 (by decide) ?_
    exact m_ri hB hE dX2_linesOf_18 rfl (rfl)
set_option maxHeartbeats 4000000 in
theorem tX2_dayOf (l : Launch) (G : gG) (b : Nat) (C S : gM) (q u : Int) (hq : isLife q) (hs : 0 ≤ C q 6 ∧ C q 6 ≤ 8) (hu : 0 ≤ u ∧ u < C q 6) : Ct l G b yX2_dayOf cX2_dayOf 2 (some .int) rmX2_dayOf [.ref (ad b (q)), .int (iI (u))] 578 (wM G b C S) (RI G b C S (fun v => v = C (q + 3) u)) := by
  refine CtK_of (by decide) (Nat.le_of_ble_eq_true rfl) q259 ?_
  intro x hl hB hE _
  subst hl
  show YM x G b 0 0 C S 0 [(0, .ref (ad b (q))), (1, .int (iI (u)))] []
  refine y_aload_n hB 0 dX2_dayOf_0 rfl rfl ?_
  refine y_iload_n hB 1 dX2_dayOf_1 rfl rfl ?_
  refine m_V hB msX2_hasFact q260 (tX2_hasFact _ G b C S q u (hq).1 (by omega) (by omega)) (t := 5) (hq).1 (by decide) rfl rfl rfl rfl rfl ⟨Nat.le_of_ble_eq_true rfl, Nat.le_of_ble_eq_true rfl⟩ (Nat.le_of_ble_eq_true rfl) ⟨rfl, rfl⟩ ⟨Nat.le_of_ble_eq_true rfl, Nat.le_of_ble_eq_true rfl⟩ dX2_dayOf_2 (k_RI (fun v_2 h_2 => ?_))
  refine y_if_eq hB 17 dX2_dayOf_5 (by decide) (by omega) (fun c_5 => ?_) (fun c_5 => ?_)
  · exfalso
    omega
  · refine y_aload_n hB 0 dX2_dayOf_8 rfl rfl ?_
    refine gt_2_9 hB (hq).1 (t1 := q + 3) (by omega) dX2_dayOf_9 ?_
    refine y_iload_n hB 1 dX2_dayOf_12 rfl rfl ?_
    refine ald_6 hB (hq).2.2.2.1 (t1 := C (q + 3) u) (by omega) rfl dX2_dayOf_13 ?_
    refine y_goto hB 19 dX2_dayOf_14 (by decide) ?_
    exact m_ri hB hE dX2_dayOf_19 rfl (rfl)
set_option maxHeartbeats 4000000 in
theorem tX2_addFact (l : Launch) (G : gG) (b : Nat) (C S : gM) (q u t z n w : Int) (hq : isLife q) (hn : C q 6 = n) (hw : n + 1 = w) (hs : 0 ≤ n ∧ n < 8) : Ct l G b yX2_addFact cX2_addFact 4 (some .int) rmX2_addFact [.ref (ad b (q)), .int (iI (u)), .int (iI (t)), .int (iI (z))] 578 (wM G b C S) (WI G b S (fun v C' => v = n ∧ C' = up2 (up2 (up2 (up2 C (q + 1) n u) (q + 2) n t) (q + 3) n z) q 6 w)) := by
  refine CtK_of (by decide) (Nat.le_of_ble_eq_true rfl) q600 ?_
  intro x hl hB hE _
  subst hl
  show YM x G b 0 0 C S 0 [(0, .ref (ad b (q))), (1, .int (iI (u))), (2, .int (iI (t))), (3, .int (iI (z)))] []
  subst hw
  subst hn
  refine y_aload_n hB 0 dX2_addFact_0 rfl rfl ?_
  refine gt_2_6 hB (hq).1 (t1 := C q 6) rfl dX2_addFact_1 ?_
  refine y_if_lt hB 16 dX2_addFact_4 (by decide) (by omega) (fun c_4 => ?_) (fun c_4 => ?_)
  · exfalso
    omega
  · refine y_aload_n hB 0 dX2_addFact_7 rfl rfl ?_
    refine gt_2_6 hB (hq).1 (t1 := C q 6) rfl dX2_addFact_8 ?_
    refine y_bipush (v := 8) hB dX2_addFact_11 (by decide) ?_
    refine y_icmp_lt hB 19 dX2_addFact_13 (by decide) (by omega) (by omega) (fun c_13 => ?_) (fun c_13 => ?_)
    · refine y_aload_n hB 0 dX2_addFact_19 rfl rfl ?_
      refine gt_2_7 hB (hq).1 (t1 := q + 1) (by omega) dX2_addFact_20 ?_
      refine y_aload_n hB 0 dX2_addFact_23 rfl rfl ?_
      refine gt_2_6 hB (hq).1 (t1 := C q 6) rfl dX2_addFact_24 ?_
      refine y_iload_n hB 1 dX2_addFact_27 rfl rfl ?_
      refine ast_6 hB (hq).2.1 (by omega) dX2_addFact_28 ?_
      refine y_aload_n hB 0 dX2_addFact_29 rfl rfl ?_
      refine gt_2_8 hB (hq).1 (t1 := q + 2) (by omega) dX2_addFact_30 ?_
      refine y_aload_n hB 0 dX2_addFact_33 rfl rfl ?_
      refine gt_2_6 hB (hq).1 (t1 := C q 6) (rd_k (by omega)) dX2_addFact_34 ?_
      refine y_iload_n hB 2 dX2_addFact_37 rfl rfl ?_
      refine ast_6 hB (hq).2.2.1 (by omega) dX2_addFact_38 ?_
      refine y_aload_n hB 0 dX2_addFact_39 rfl rfl ?_
      refine gt_2_9 hB (hq).1 (t1 := q + 3) (by omega) dX2_addFact_40 ?_
      refine y_aload_n hB 0 dX2_addFact_43 rfl rfl ?_
      refine gt_2_6 hB (hq).1 (t1 := C q 6) ((rd_k (by omega)).trans (rd_k (by omega))) dX2_addFact_44 ?_
      refine y_iload_n hB 3 dX2_addFact_47 rfl rfl ?_
      refine ast_6 hB (hq).2.2.2.1 (by omega) dX2_addFact_48 ?_
      refine y_aload_n hB 0 dX2_addFact_49 rfl rfl ?_
      refine y_dup hB dX2_addFact_50 rfl ?_
      refine gt_2_6 hB (hq).1 (t1 := C q 6) ((rd_k (by omega)).trans ((rd_k (by omega)).trans (rd_k (by omega)))) dX2_addFact_51 ?_
      refine y_iconst (v := 1) hB dX2_addFact_54 rfl ?_
      refine y_iadd (t := C q 6 + 1) hB dX2_addFact_55 (by omega) ?_
      refine pt_2_6 hB (hq).1 dX2_addFact_56 ?_
      refine y_aload_n hB 0 dX2_addFact_59 rfl rfl ?_
      refine gt_2_6 hB (hq).1 (t1 := C q 6 + 1) (rd_hit (by omega) (by omega)) dX2_addFact_60 ?_
      refine y_iconst (v := 1) hB dX2_addFact_63 rfl ?_
      refine y_isub (t := C q 6) hB dX2_addFact_64 (by omega) ?_
      exact m_wi hB hE dX2_addFact_65 rfl (⟨by omega, rfl⟩)
    · exfalso
      omega
set_option maxHeartbeats 4000000 in
theorem tX2_changeDay (l : Launch) (G : gG) (b : Nat) (C S : gM) (q u t : Int) (hq : isLife q) (hs : 0 ≤ C q 6 ∧ C q 6 ≤ 8) (hu : 0 ≤ u ∧ u < C q 6) : Ct l G b yX2_changeDay cX2_changeDay 3 none rmX2_changeDay [.ref (ad b (q)), .int (iI (u)), .int (iI (t))] 578 (wM G b C S) (WV G b S (fun C' => C' = up2 C (q + 3) u t)) := by
  refine CtK_of (by decide) (Nat.le_of_ble_eq_true rfl) q320 ?_
  intro x hl hB hE _
  subst hl
  show YM x G b 0 0 C S 0 [(0, .ref (ad b (q))), (1, .int (iI (u))), (2, .int (iI (t)))] []
  refine y_aload_n hB 0 dX2_changeDay_0 rfl rfl ?_
  refine y_iload_n hB 1 dX2_changeDay_1 rfl rfl ?_
  refine m_V hB msX2_hasFact q260 (tX2_hasFact _ G b C S q u (hq).1 (by omega) (by omega)) (t := 5) (hq).1 (by decide) rfl rfl rfl rfl rfl ⟨Nat.le_of_ble_eq_true rfl, Nat.le_of_ble_eq_true rfl⟩ (Nat.le_of_ble_eq_true rfl) ⟨rfl, rfl⟩ ⟨Nat.le_of_ble_eq_true rfl, Nat.le_of_ble_eq_true rfl⟩ dX2_changeDay_2 (k_RI (fun v_2 h_2 => ?_))
  refine y_if_eq hB 15 dX2_changeDay_5 (by decide) (by omega) (fun c_5 => ?_) (fun c_5 => ?_)
  · exfalso
    omega
  · refine y_aload_n hB 0 dX2_changeDay_8 rfl rfl ?_
    refine gt_2_9 hB (hq).1 (t1 := q + 3) (by omega) dX2_changeDay_9 ?_
    refine y_iload_n hB 1 dX2_changeDay_12 rfl rfl ?_
    refine y_iload_n hB 2 dX2_changeDay_13 rfl rfl ?_
    refine ast_6 hB (hq).2.2.2.1 (by omega) dX2_changeDay_14 ?_
    exact m_wv hB hE dX2_changeDay_15 (rfl)
set_option maxHeartbeats 4000000 in
theorem tX2_length (l : Launch) (G : gG) (b : Nat) (C S : gM) (q : Int) (hq : isLife q) (hs : 0 ≤ C q 6 ∧ C q 6 ≤ 8) : Ct l G b yX2_length cX2_length 3 (some .int) rmX2_length [.ref (ad b (q))] 578 (wM G b C S) (RI G b C S (fun v => v = smI (C (q + 2)) (C q 6))) := by
  refine CtK_of (by decide) (Nat.le_of_ble_eq_true rfl) q379 ?_
  intro x hl hB hE _
  subst hl
  show YM x G b 0 0 C S 0 [(0, .ref (ad b (q)))] []
  refine y_iconst (v := 0) hB dX2_length_0 rfl ?_
  refine y_istore_n (lv' := [(1, .int (iI (0))), (0, .ref (ad b (q)))]) hB dX2_length_1 rfl (by decide) rfl ?_
  refine y_iconst (v := 0) hB dX2_length_2 rfl ?_
  refine y_istore_n (lv' := [(2, .int (iI (0))), (1, .int (iI (0))), (0, .ref (ad b (q)))]) hB dX2_length_3 rfl (by decide) rfl ?_
  have LOOP_4 : ∀ (fu : Nat) (i s : Int), (0 ≤ i ∧ i ≤ C q 6) → (s = smI (C (q + 2)) i) → C q 6 - i < (fu : Int) → YM x G b 0 0 C S 4 [(0, .ref (ad b (q))), (1, .int (iI (s))), (2, .int (iI (i)))] [] := by
    intro fu
    induction fu with
    | zero => intro i s hi hv hm_4; exfalso; omega
    | succ fu ih_4 =>
      intro i s hi hv hm_4
      refine y_iload_n hB 2 dX2_length_4 rfl rfl ?_
      refine y_aload_n hB 0 dX2_length_5 rfl rfl ?_
      refine gt_2_6 hB (hq).1 (t1 := C q 6) rfl dX2_length_6 ?_
      refine y_icmp_ge hB 26 dX2_length_9 (by decide) (by omega) (by omega) (fun c_9 => ?_) (fun c_9 => ?_)
      · refine y_iload_n hB 1 dX2_length_26 rfl rfl ?_
        exact m_ri hB hE dX2_length_27 rfl (by rw [hv, show i = C q 6 by omega])
      · refine y_iload_n hB 1 dX2_length_12 rfl rfl ?_
        refine y_aload_n hB 0 dX2_length_13 rfl rfl ?_
        refine y_iload_n hB 2 dX2_length_14 rfl rfl ?_
        refine m_V hB msX2_linesOf q380 (tX2_linesOf _ G b C S q i hq (by omega) (by omega)) (t := 5) (hq).1 (by decide) rfl rfl rfl rfl rfl ⟨Nat.le_of_ble_eq_true rfl, Nat.le_of_ble_eq_true rfl⟩ (Nat.le_of_ble_eq_true rfl) ⟨rfl, rfl⟩ ⟨Nat.le_of_ble_eq_true rfl, Nat.le_of_ble_eq_true rfl⟩ dX2_length_15 (k_RI (fun v_15 h_15 => ?_))
        refine y_iadd (t := s + v_15) hB dX2_length_18 (by omega) ?_
        refine y_istore_n (lv' := [(1, .int (iI (s + v_15))), (0, .ref (ad b (q))), (2, .int (iI (i)))]) hB dX2_length_19 rfl (by decide) rfl ?_
        refine y_iinc (v := i + 1) (lv' := [(2, .int (iI (i + 1))), (1, .int (iI (s + v_15))), (0, .ref (ad b (q)))]) hB 2 dX2_length_20 rfl (by omega) (by decide) rfl ?_
        refine y_goto hB 4 dX2_length_23 (by decide) ?_
        refine y_sub (lv' := [(0, .ref (ad b (q))), (1, .int (iI (s + v_15))), (2, .int (iI (i + 1)))]) [2, 1, 0] rfl ?_
        exact ih_4 (i + 1) (s + v_15) (by omega) (by rw [smI_s _ hi.1, hv, h_15]) (by omega)
  refine y_sub (lv' := [(0, .ref (ad b (q))), (1, .int (iI (0))), (2, .int (iI (0)))]) [2, 1, 0] rfl ?_
  exact LOOP_4 ((C q 6).toNat + 1) 0 0 (by omega) (smI_0 _).symm (by omega)
set_option maxHeartbeats 4000000 in
theorem tJ6_bitCount_0f7a4 (l : Launch) (G : gG) (b : Nat) (C S : gM) (u : Int) (hu : 0 ≤ u ∧ u < 64) : Ct l G b yJ6_bitCount_0f7a4 cJ6_bitCount_0f7a4 1 (some .int) rmJ6_bitCount_0f7a4 [.int (iI (u))] 578 (wM G b C S) (RI G b C S (fun v => v = pcI u)) := by
  refine CtK_of (by decide) (Nat.le_of_ble_eq_true rfl) q392 ?_
  intro x hl hB hE _
  subst hl
  show YM x G b 0 0 C S 0 [(0, .int (iI (u)))] []
  refine y_iload_n hB 0 dJ6_bitCount_0f7a4_0 rfl rfl ?_
  refine y_iload_n hB 0 dJ6_bitCount_0f7a4_1 rfl rfl ?_
  refine y_iconst (v := 1) hB dJ6_bitCount_0f7a4_2 rfl ?_
  refine y_iushrR hB dJ6_bitCount_0f7a4_3 ?_
  refine y_ldcwi hB q393 dJ6_bitCount_0f7a4_4 ?_
  refine y_iandR hB dJ6_bitCount_0f7a4_7 ?_
  refine y_isubR hB dJ6_bitCount_0f7a4_8 ?_
  refine y_istore_n (lv' := [(0, .int ((iI (u)) - ((((iI (u)).toUInt32 >>> ((iI (1)).toUInt32 &&& Int32.toUInt32 31)).toInt32) &&& ((1431655765 : Int32)))))]) hB dJ6_bitCount_0f7a4_9 rfl (by decide) rfl ?_
  refine y_iload_n hB 0 dJ6_bitCount_0f7a4_10 rfl rfl ?_
  refine y_ldcwi hB q394 dJ6_bitCount_0f7a4_11 ?_
  refine y_iandR hB dJ6_bitCount_0f7a4_14 ?_
  refine y_iload_n hB 0 dJ6_bitCount_0f7a4_15 rfl rfl ?_
  refine y_iconst (v := 2) hB dJ6_bitCount_0f7a4_16 rfl ?_
  refine y_iushrR hB dJ6_bitCount_0f7a4_17 ?_
  refine y_ldcwi hB q394 dJ6_bitCount_0f7a4_18 ?_
  refine y_iandR hB dJ6_bitCount_0f7a4_21 ?_
  refine y_iaddR hB dJ6_bitCount_0f7a4_22 ?_
  refine y_istore_n (lv' := [(0, .int ((((iI (u)) - ((((iI (u)).toUInt32 >>> ((iI (1)).toUInt32 &&& Int32.toUInt32 31)).toInt32) &&& ((1431655765 : Int32)))) &&& ((858993459 : Int32))) + (((((iI (u)) - ((((iI (u)).toUInt32 >>> ((iI (1)).toUInt32 &&& Int32.toUInt32 31)).toInt32) &&& ((1431655765 : Int32)))).toUInt32 >>> ((iI (2)).toUInt32 &&& Int32.toUInt32 31)).toInt32) &&& ((858993459 : Int32)))))]) hB dJ6_bitCount_0f7a4_23 rfl (by decide) rfl ?_
  refine y_iload_n hB 0 dJ6_bitCount_0f7a4_24 rfl rfl ?_
  refine y_iload_n hB 0 dJ6_bitCount_0f7a4_25 rfl rfl ?_
  refine y_iconst (v := 4) hB dJ6_bitCount_0f7a4_26 rfl ?_
  refine y_iushrR hB dJ6_bitCount_0f7a4_27 ?_
  refine y_iaddR hB dJ6_bitCount_0f7a4_28 ?_
  refine y_ldcwi hB q395 dJ6_bitCount_0f7a4_29 ?_
  refine y_iandR hB dJ6_bitCount_0f7a4_32 ?_
  refine y_istore_n (lv' := [(0, .int ((((((iI (u)) - ((((iI (u)).toUInt32 >>> ((iI (1)).toUInt32 &&& Int32.toUInt32 31)).toInt32) &&& ((1431655765 : Int32)))) &&& ((858993459 : Int32))) + (((((iI (u)) - ((((iI (u)).toUInt32 >>> ((iI (1)).toUInt32 &&& Int32.toUInt32 31)).toInt32) &&& ((1431655765 : Int32)))).toUInt32 >>> ((iI (2)).toUInt32 &&& Int32.toUInt32 31)).toInt32) &&& ((858993459 : Int32)))) + ((((((iI (u)) - ((((iI (u)).toUInt32 >>> ((iI (1)).toUInt32 &&& Int32.toUInt32 31)).toInt32) &&& ((1431655765 : Int32)))) &&& ((858993459 : Int32))) + (((((iI (u)) - ((((iI (u)).toUInt32 >>> ((iI (1)).toUInt32 &&& Int32.toUInt32 31)).toInt32) &&& ((1431655765 : Int32)))).toUInt32 >>> ((iI (2)).toUInt32 &&& Int32.toUInt32 31)).toInt32) &&& ((858993459 : Int32)))).toUInt32 >>> ((iI (4)).toUInt32 &&& Int32.toUInt32 31)).toInt32)) &&& ((252645135 : Int32))))]) hB dJ6_bitCount_0f7a4_33 rfl (by decide) rfl ?_
  refine y_iload_n hB 0 dJ6_bitCount_0f7a4_34 rfl rfl ?_
  refine y_iload_n hB 0 dJ6_bitCount_0f7a4_35 rfl rfl ?_
  refine y_bipush (v := 8) hB dJ6_bitCount_0f7a4_36 (by decide) ?_
  refine y_iushrR hB dJ6_bitCount_0f7a4_38 ?_
  refine y_iaddR hB dJ6_bitCount_0f7a4_39 ?_
  refine y_istore_n (lv' := [(0, .int (((((((iI (u)) - ((((iI (u)).toUInt32 >>> ((iI (1)).toUInt32 &&& Int32.toUInt32 31)).toInt32) &&& ((1431655765 : Int32)))) &&& ((858993459 : Int32))) + (((((iI (u)) - ((((iI (u)).toUInt32 >>> ((iI (1)).toUInt32 &&& Int32.toUInt32 31)).toInt32) &&& ((1431655765 : Int32)))).toUInt32 >>> ((iI (2)).toUInt32 &&& Int32.toUInt32 31)).toInt32) &&& ((858993459 : Int32)))) + ((((((iI (u)) - ((((iI (u)).toUInt32 >>> ((iI (1)).toUInt32 &&& Int32.toUInt32 31)).toInt32) &&& ((1431655765 : Int32)))) &&& ((858993459 : Int32))) + (((((iI (u)) - ((((iI (u)).toUInt32 >>> ((iI (1)).toUInt32 &&& Int32.toUInt32 31)).toInt32) &&& ((1431655765 : Int32)))).toUInt32 >>> ((iI (2)).toUInt32 &&& Int32.toUInt32 31)).toInt32) &&& ((858993459 : Int32)))).toUInt32 >>> ((iI (4)).toUInt32 &&& Int32.toUInt32 31)).toInt32)) &&& ((252645135 : Int32))) + ((((((((iI (u)) - ((((iI (u)).toUInt32 >>> ((iI (1)).toUInt32 &&& Int32.toUInt32 31)).toInt32) &&& ((1431655765 : Int32)))) &&& ((858993459 : Int32))) + (((((iI (u)) - ((((iI (u)).toUInt32 >>> ((iI (1)).toUInt32 &&& Int32.toUInt32 31)).toInt32) &&& ((1431655765 : Int32)))).toUInt32 >>> ((iI (2)).toUInt32 &&& Int32.toUInt32 31)).toInt32) &&& ((858993459 : Int32)))) + ((((((iI (u)) - ((((iI (u)).toUInt32 >>> ((iI (1)).toUInt32 &&& Int32.toUInt32 31)).toInt32) &&& ((1431655765 : Int32)))) &&& ((858993459 : Int32))) + (((((iI (u)) - ((((iI (u)).toUInt32 >>> ((iI (1)).toUInt32 &&& Int32.toUInt32 31)).toInt32) &&& ((1431655765 : Int32)))).toUInt32 >>> ((iI (2)).toUInt32 &&& Int32.toUInt32 31)).toInt32) &&& ((858993459 : Int32)))).toUInt32 >>> ((iI (4)).toUInt32 &&& Int32.toUInt32 31)).toInt32)) &&& ((252645135 : Int32))).toUInt32 >>> ((iI (8)).toUInt32 &&& Int32.toUInt32 31)).toInt32)))]) hB dJ6_bitCount_0f7a4_40 rfl (by decide) rfl ?_
  refine y_iload_n hB 0 dJ6_bitCount_0f7a4_41 rfl rfl ?_
  refine y_iload_n hB 0 dJ6_bitCount_0f7a4_42 rfl rfl ?_
  refine y_bipush (v := 16) hB dJ6_bitCount_0f7a4_43 (by decide) ?_
  refine y_iushrR hB dJ6_bitCount_0f7a4_45 ?_
  refine y_iaddR hB dJ6_bitCount_0f7a4_46 ?_
  refine y_istore_n (lv' := [(0, .int ((((((((iI (u)) - ((((iI (u)).toUInt32 >>> ((iI (1)).toUInt32 &&& Int32.toUInt32 31)).toInt32) &&& ((1431655765 : Int32)))) &&& ((858993459 : Int32))) + (((((iI (u)) - ((((iI (u)).toUInt32 >>> ((iI (1)).toUInt32 &&& Int32.toUInt32 31)).toInt32) &&& ((1431655765 : Int32)))).toUInt32 >>> ((iI (2)).toUInt32 &&& Int32.toUInt32 31)).toInt32) &&& ((858993459 : Int32)))) + ((((((iI (u)) - ((((iI (u)).toUInt32 >>> ((iI (1)).toUInt32 &&& Int32.toUInt32 31)).toInt32) &&& ((1431655765 : Int32)))) &&& ((858993459 : Int32))) + (((((iI (u)) - ((((iI (u)).toUInt32 >>> ((iI (1)).toUInt32 &&& Int32.toUInt32 31)).toInt32) &&& ((1431655765 : Int32)))).toUInt32 >>> ((iI (2)).toUInt32 &&& Int32.toUInt32 31)).toInt32) &&& ((858993459 : Int32)))).toUInt32 >>> ((iI (4)).toUInt32 &&& Int32.toUInt32 31)).toInt32)) &&& ((252645135 : Int32))) + ((((((((iI (u)) - ((((iI (u)).toUInt32 >>> ((iI (1)).toUInt32 &&& Int32.toUInt32 31)).toInt32) &&& ((1431655765 : Int32)))) &&& ((858993459 : Int32))) + (((((iI (u)) - ((((iI (u)).toUInt32 >>> ((iI (1)).toUInt32 &&& Int32.toUInt32 31)).toInt32) &&& ((1431655765 : Int32)))).toUInt32 >>> ((iI (2)).toUInt32 &&& Int32.toUInt32 31)).toInt32) &&& ((858993459 : Int32)))) + ((((((iI (u)) - ((((iI (u)).toUInt32 >>> ((iI (1)).toUInt32 &&& Int32.toUInt32 31)).toInt32) &&& ((1431655765 : Int32)))) &&& ((858993459 : Int32))) + (((((iI (u)) - ((((iI (u)).toUInt32 >>> ((iI (1)).toUInt32 &&& Int32.toUInt32 31)).toInt32) &&& ((1431655765 : Int32)))).toUInt32 >>> ((iI (2)).toUInt32 &&& Int32.toUInt32 31)).toInt32) &&& ((858993459 : Int32)))).toUInt32 >>> ((iI (4)).toUInt32 &&& Int32.toUInt32 31)).toInt32)) &&& ((252645135 : Int32))).toUInt32 >>> ((iI (8)).toUInt32 &&& Int32.toUInt32 31)).toInt32)) + (((((((((iI (u)) - ((((iI (u)).toUInt32 >>> ((iI (1)).toUInt32 &&& Int32.toUInt32 31)).toInt32) &&& ((1431655765 : Int32)))) &&& ((858993459 : Int32))) + (((((iI (u)) - ((((iI (u)).toUInt32 >>> ((iI (1)).toUInt32 &&& Int32.toUInt32 31)).toInt32) &&& ((1431655765 : Int32)))).toUInt32 >>> ((iI (2)).toUInt32 &&& Int32.toUInt32 31)).toInt32) &&& ((858993459 : Int32)))) + ((((((iI (u)) - ((((iI (u)).toUInt32 >>> ((iI (1)).toUInt32 &&& Int32.toUInt32 31)).toInt32) &&& ((1431655765 : Int32)))) &&& ((858993459 : Int32))) + (((((iI (u)) - ((((iI (u)).toUInt32 >>> ((iI (1)).toUInt32 &&& Int32.toUInt32 31)).toInt32) &&& ((1431655765 : Int32)))).toUInt32 >>> ((iI (2)).toUInt32 &&& Int32.toUInt32 31)).toInt32) &&& ((858993459 : Int32)))).toUInt32 >>> ((iI (4)).toUInt32 &&& Int32.toUInt32 31)).toInt32)) &&& ((252645135 : Int32))) + ((((((((iI (u)) - ((((iI (u)).toUInt32 >>> ((iI (1)).toUInt32 &&& Int32.toUInt32 31)).toInt32) &&& ((1431655765 : Int32)))) &&& ((858993459 : Int32))) + (((((iI (u)) - ((((iI (u)).toUInt32 >>> ((iI (1)).toUInt32 &&& Int32.toUInt32 31)).toInt32) &&& ((1431655765 : Int32)))).toUInt32 >>> ((iI (2)).toUInt32 &&& Int32.toUInt32 31)).toInt32) &&& ((858993459 : Int32)))) + ((((((iI (u)) - ((((iI (u)).toUInt32 >>> ((iI (1)).toUInt32 &&& Int32.toUInt32 31)).toInt32) &&& ((1431655765 : Int32)))) &&& ((858993459 : Int32))) + (((((iI (u)) - ((((iI (u)).toUInt32 >>> ((iI (1)).toUInt32 &&& Int32.toUInt32 31)).toInt32) &&& ((1431655765 : Int32)))).toUInt32 >>> ((iI (2)).toUInt32 &&& Int32.toUInt32 31)).toInt32) &&& ((858993459 : Int32)))).toUInt32 >>> ((iI (4)).toUInt32 &&& Int32.toUInt32 31)).toInt32)) &&& ((252645135 : Int32))).toUInt32 >>> ((iI (8)).toUInt32 &&& Int32.toUInt32 31)).toInt32)).toUInt32 >>> ((iI (16)).toUInt32 &&& Int32.toUInt32 31)).toInt32)))]) hB dJ6_bitCount_0f7a4_47 rfl (by decide) rfl ?_
  refine y_iload_n hB 0 dJ6_bitCount_0f7a4_48 rfl rfl ?_
  refine y_bipush (v := 63) hB dJ6_bitCount_0f7a4_49 (by decide) ?_
  refine y_iandR hB dJ6_bitCount_0f7a4_51 ?_
  rw [show ((((((((iI (u)) - ((((iI (u)).toUInt32 >>> ((iI (1)).toUInt32 &&& Int32.toUInt32 31)).toInt32) &&& ((1431655765 : Int32)))) &&& ((858993459 : Int32))) + (((((iI (u)) - ((((iI (u)).toUInt32 >>> ((iI (1)).toUInt32 &&& Int32.toUInt32 31)).toInt32) &&& ((1431655765 : Int32)))).toUInt32 >>> ((iI (2)).toUInt32 &&& Int32.toUInt32 31)).toInt32) &&& ((858993459 : Int32)))) + ((((((iI (u)) - ((((iI (u)).toUInt32 >>> ((iI (1)).toUInt32 &&& Int32.toUInt32 31)).toInt32) &&& ((1431655765 : Int32)))) &&& ((858993459 : Int32))) + (((((iI (u)) - ((((iI (u)).toUInt32 >>> ((iI (1)).toUInt32 &&& Int32.toUInt32 31)).toInt32) &&& ((1431655765 : Int32)))).toUInt32 >>> ((iI (2)).toUInt32 &&& Int32.toUInt32 31)).toInt32) &&& ((858993459 : Int32)))).toUInt32 >>> ((iI (4)).toUInt32 &&& Int32.toUInt32 31)).toInt32)) &&& ((252645135 : Int32))) + ((((((((iI (u)) - ((((iI (u)).toUInt32 >>> ((iI (1)).toUInt32 &&& Int32.toUInt32 31)).toInt32) &&& ((1431655765 : Int32)))) &&& ((858993459 : Int32))) + (((((iI (u)) - ((((iI (u)).toUInt32 >>> ((iI (1)).toUInt32 &&& Int32.toUInt32 31)).toInt32) &&& ((1431655765 : Int32)))).toUInt32 >>> ((iI (2)).toUInt32 &&& Int32.toUInt32 31)).toInt32) &&& ((858993459 : Int32)))) + ((((((iI (u)) - ((((iI (u)).toUInt32 >>> ((iI (1)).toUInt32 &&& Int32.toUInt32 31)).toInt32) &&& ((1431655765 : Int32)))) &&& ((858993459 : Int32))) + (((((iI (u)) - ((((iI (u)).toUInt32 >>> ((iI (1)).toUInt32 &&& Int32.toUInt32 31)).toInt32) &&& ((1431655765 : Int32)))).toUInt32 >>> ((iI (2)).toUInt32 &&& Int32.toUInt32 31)).toInt32) &&& ((858993459 : Int32)))).toUInt32 >>> ((iI (4)).toUInt32 &&& Int32.toUInt32 31)).toInt32)) &&& ((252645135 : Int32))).toUInt32 >>> ((iI (8)).toUInt32 &&& Int32.toUInt32 31)).toInt32)) + (((((((((iI (u)) - ((((iI (u)).toUInt32 >>> ((iI (1)).toUInt32 &&& Int32.toUInt32 31)).toInt32) &&& ((1431655765 : Int32)))) &&& ((858993459 : Int32))) + (((((iI (u)) - ((((iI (u)).toUInt32 >>> ((iI (1)).toUInt32 &&& Int32.toUInt32 31)).toInt32) &&& ((1431655765 : Int32)))).toUInt32 >>> ((iI (2)).toUInt32 &&& Int32.toUInt32 31)).toInt32) &&& ((858993459 : Int32)))) + ((((((iI (u)) - ((((iI (u)).toUInt32 >>> ((iI (1)).toUInt32 &&& Int32.toUInt32 31)).toInt32) &&& ((1431655765 : Int32)))) &&& ((858993459 : Int32))) + (((((iI (u)) - ((((iI (u)).toUInt32 >>> ((iI (1)).toUInt32 &&& Int32.toUInt32 31)).toInt32) &&& ((1431655765 : Int32)))).toUInt32 >>> ((iI (2)).toUInt32 &&& Int32.toUInt32 31)).toInt32) &&& ((858993459 : Int32)))).toUInt32 >>> ((iI (4)).toUInt32 &&& Int32.toUInt32 31)).toInt32)) &&& ((252645135 : Int32))) + ((((((((iI (u)) - ((((iI (u)).toUInt32 >>> ((iI (1)).toUInt32 &&& Int32.toUInt32 31)).toInt32) &&& ((1431655765 : Int32)))) &&& ((858993459 : Int32))) + (((((iI (u)) - ((((iI (u)).toUInt32 >>> ((iI (1)).toUInt32 &&& Int32.toUInt32 31)).toInt32) &&& ((1431655765 : Int32)))).toUInt32 >>> ((iI (2)).toUInt32 &&& Int32.toUInt32 31)).toInt32) &&& ((858993459 : Int32)))) + ((((((iI (u)) - ((((iI (u)).toUInt32 >>> ((iI (1)).toUInt32 &&& Int32.toUInt32 31)).toInt32) &&& ((1431655765 : Int32)))) &&& ((858993459 : Int32))) + (((((iI (u)) - ((((iI (u)).toUInt32 >>> ((iI (1)).toUInt32 &&& Int32.toUInt32 31)).toInt32) &&& ((1431655765 : Int32)))).toUInt32 >>> ((iI (2)).toUInt32 &&& Int32.toUInt32 31)).toInt32) &&& ((858993459 : Int32)))).toUInt32 >>> ((iI (4)).toUInt32 &&& Int32.toUInt32 31)).toInt32)) &&& ((252645135 : Int32))).toUInt32 >>> ((iI (8)).toUInt32 &&& Int32.toUInt32 31)).toInt32)).toUInt32 >>> ((iI (16)).toUInt32 &&& Int32.toUInt32 31)).toInt32)) &&& (iI (63)) = iI (pcI u) from (by have h9 := co_all (P := fun u => ((((((((iI (u)) - ((((iI (u)).toUInt32 >>> ((iI (1)).toUInt32 &&& Int32.toUInt32 31)).toInt32) &&& ((1431655765 : Int32)))) &&& ((858993459 : Int32))) + (((((iI (u)) - ((((iI (u)).toUInt32 >>> ((iI (1)).toUInt32 &&& Int32.toUInt32 31)).toInt32) &&& ((1431655765 : Int32)))).toUInt32 >>> ((iI (2)).toUInt32 &&& Int32.toUInt32 31)).toInt32) &&& ((858993459 : Int32)))) + ((((((iI (u)) - ((((iI (u)).toUInt32 >>> ((iI (1)).toUInt32 &&& Int32.toUInt32 31)).toInt32) &&& ((1431655765 : Int32)))) &&& ((858993459 : Int32))) + (((((iI (u)) - ((((iI (u)).toUInt32 >>> ((iI (1)).toUInt32 &&& Int32.toUInt32 31)).toInt32) &&& ((1431655765 : Int32)))).toUInt32 >>> ((iI (2)).toUInt32 &&& Int32.toUInt32 31)).toInt32) &&& ((858993459 : Int32)))).toUInt32 >>> ((iI (4)).toUInt32 &&& Int32.toUInt32 31)).toInt32)) &&& ((252645135 : Int32))) + ((((((((iI (u)) - ((((iI (u)).toUInt32 >>> ((iI (1)).toUInt32 &&& Int32.toUInt32 31)).toInt32) &&& ((1431655765 : Int32)))) &&& ((858993459 : Int32))) + (((((iI (u)) - ((((iI (u)).toUInt32 >>> ((iI (1)).toUInt32 &&& Int32.toUInt32 31)).toInt32) &&& ((1431655765 : Int32)))).toUInt32 >>> ((iI (2)).toUInt32 &&& Int32.toUInt32 31)).toInt32) &&& ((858993459 : Int32)))) + ((((((iI (u)) - ((((iI (u)).toUInt32 >>> ((iI (1)).toUInt32 &&& Int32.toUInt32 31)).toInt32) &&& ((1431655765 : Int32)))) &&& ((858993459 : Int32))) + (((((iI (u)) - ((((iI (u)).toUInt32 >>> ((iI (1)).toUInt32 &&& Int32.toUInt32 31)).toInt32) &&& ((1431655765 : Int32)))).toUInt32 >>> ((iI (2)).toUInt32 &&& Int32.toUInt32 31)).toInt32) &&& ((858993459 : Int32)))).toUInt32 >>> ((iI (4)).toUInt32 &&& Int32.toUInt32 31)).toInt32)) &&& ((252645135 : Int32))).toUInt32 >>> ((iI (8)).toUInt32 &&& Int32.toUInt32 31)).toInt32)) + (((((((((iI (u)) - ((((iI (u)).toUInt32 >>> ((iI (1)).toUInt32 &&& Int32.toUInt32 31)).toInt32) &&& ((1431655765 : Int32)))) &&& ((858993459 : Int32))) + (((((iI (u)) - ((((iI (u)).toUInt32 >>> ((iI (1)).toUInt32 &&& Int32.toUInt32 31)).toInt32) &&& ((1431655765 : Int32)))).toUInt32 >>> ((iI (2)).toUInt32 &&& Int32.toUInt32 31)).toInt32) &&& ((858993459 : Int32)))) + ((((((iI (u)) - ((((iI (u)).toUInt32 >>> ((iI (1)).toUInt32 &&& Int32.toUInt32 31)).toInt32) &&& ((1431655765 : Int32)))) &&& ((858993459 : Int32))) + (((((iI (u)) - ((((iI (u)).toUInt32 >>> ((iI (1)).toUInt32 &&& Int32.toUInt32 31)).toInt32) &&& ((1431655765 : Int32)))).toUInt32 >>> ((iI (2)).toUInt32 &&& Int32.toUInt32 31)).toInt32) &&& ((858993459 : Int32)))).toUInt32 >>> ((iI (4)).toUInt32 &&& Int32.toUInt32 31)).toInt32)) &&& ((252645135 : Int32))) + ((((((((iI (u)) - ((((iI (u)).toUInt32 >>> ((iI (1)).toUInt32 &&& Int32.toUInt32 31)).toInt32) &&& ((1431655765 : Int32)))) &&& ((858993459 : Int32))) + (((((iI (u)) - ((((iI (u)).toUInt32 >>> ((iI (1)).toUInt32 &&& Int32.toUInt32 31)).toInt32) &&& ((1431655765 : Int32)))).toUInt32 >>> ((iI (2)).toUInt32 &&& Int32.toUInt32 31)).toInt32) &&& ((858993459 : Int32)))) + ((((((iI (u)) - ((((iI (u)).toUInt32 >>> ((iI (1)).toUInt32 &&& Int32.toUInt32 31)).toInt32) &&& ((1431655765 : Int32)))) &&& ((858993459 : Int32))) + (((((iI (u)) - ((((iI (u)).toUInt32 >>> ((iI (1)).toUInt32 &&& Int32.toUInt32 31)).toInt32) &&& ((1431655765 : Int32)))).toUInt32 >>> ((iI (2)).toUInt32 &&& Int32.toUInt32 31)).toInt32) &&& ((858993459 : Int32)))).toUInt32 >>> ((iI (4)).toUInt32 &&& Int32.toUInt32 31)).toInt32)) &&& ((252645135 : Int32))).toUInt32 >>> ((iI (8)).toUInt32 &&& Int32.toUInt32 31)).toInt32)).toUInt32 >>> ((iI (16)).toUInt32 &&& Int32.toUInt32 31)).toInt32)) &&& (iI (63)) = iI (pcI u)) 64 (by decide +kernel) hu; exact h9)]
  exact m_ri hB hE dJ6_bitCount_0f7a4_52 rfl (rfl)
set_option maxHeartbeats 4000000 in
theorem tX2_differentSources (l : Launch) (G : gG) (b : Nat) (C S : gM) (q : Int) (hq : isLife q) (hs : 0 ≤ C q 6 ∧ C q 6 ≤ 8) (hr : ∀ j, 0 ≤ j → j < C q 6 → 0 ≤ C (q + 1) j ∧ C (q + 1) j ≤ 5) : Ct l G b yX2_differentSources cX2_differentSources 3 (some .int) rmX2_differentSources [.ref (ad b (q))] 578 (wM G b C S) (RI G b C S (fun v => v = pcI (mkI (C (q + 1)) (C q 6)))) := by
  refine CtK_of (by decide) (Nat.le_of_ble_eq_true rfl) q388 ?_
  intro x hl hB hE _
  subst hl
  show YM x G b 0 0 C S 0 [(0, .ref (ad b (q)))] []
  refine y_iconst (v := 0) hB dX2_differentSources_0 rfl ?_
  refine y_istore_n (lv' := [(1, .int (iI (0))), (0, .ref (ad b (q)))]) hB dX2_differentSources_1 rfl (by decide) rfl ?_
  refine y_iconst (v := 0) hB dX2_differentSources_2 rfl ?_
  refine y_istore_n (lv' := [(2, .int (iI (0))), (1, .int (iI (0))), (0, .ref (ad b (q)))]) hB dX2_differentSources_3 rfl (by decide) rfl ?_
  have LOOP_4 : ∀ (fu : Nat) (i s : Int), (0 ≤ i ∧ i ≤ C q 6) → (s = mkI (C (q + 1)) i) → C q 6 - i < (fu : Int) → YM x G b 0 0 C S 4 [(0, .ref (ad b (q))), (1, .int (iI (s))), (2, .int (iI (i)))] [] := by
    intro fu
    induction fu with
    | zero => intro i s hi hv hm_4; exfalso; omega
    | succ fu ih_4 =>
      intro i s hi hv hm_4
      have hb : 0 ≤ s ∧ s < 64 := by rw [hv]; exact mkI_lt (fun j h1 h2 => hr j h1 (by omega))
      refine y_iload_n hB 2 dX2_differentSources_4 rfl rfl ?_
      refine y_aload_n hB 0 dX2_differentSources_5 rfl rfl ?_
      refine gt_2_6 hB (hq).1 (t1 := C q 6) rfl dX2_differentSources_6 ?_
      refine y_icmp_ge hB 28 dX2_differentSources_9 (by decide) (by omega) (by omega) (fun c_9 => ?_) (fun c_9 => ?_)
      · refine y_iload_n hB 1 dX2_differentSources_28 rfl rfl ?_
        refine m_S hB msJ6_bitCount_0f7a4 q390 (tJ6_bitCount_0f7a4 _ G b C S s (by omega)) rfl rfl ⟨Nat.le_of_ble_eq_true rfl, Nat.le_of_ble_eq_true rfl⟩ (Nat.le_of_ble_eq_true rfl) ⟨rfl, rfl⟩ ⟨Nat.le_of_ble_eq_true rfl, Nat.le_of_ble_eq_true rfl⟩ dX2_differentSources_29 (k_RI (fun v_29 h_29 => ?_))
        exact m_ri hB hE dX2_differentSources_32 rfl (by rw [h_29, hv, show i = C q 6 by omega])
      · refine y_iload_n hB 1 dX2_differentSources_12 rfl rfl ?_
        refine y_iconst (v := 1) hB dX2_differentSources_13 rfl ?_
        refine y_aload_n hB 0 dX2_differentSources_14 rfl rfl ?_
        refine y_iload_n hB 2 dX2_differentSources_15 rfl rfl ?_
        refine m_V hB msX2_sourceOf q389 (tX2_sourceOf _ G b C S q i hq (by omega) (by omega)) (t := 5) (hq).1 (by decide) rfl rfl rfl rfl rfl ⟨Nat.le_of_ble_eq_true rfl, Nat.le_of_ble_eq_true rfl⟩ (Nat.le_of_ble_eq_true rfl) ⟨rfl, rfl⟩ ⟨Nat.le_of_ble_eq_true rfl, Nat.le_of_ble_eq_true rfl⟩ dX2_differentSources_16 (k_RI (fun v_16 h_16 => ?_))
        have hr_16 := hr i (by omega) (by omega)
        rw [← h_16] at hr_16
        refine y_ishl1 hB (by omega) dX2_differentSources_19 ?_
        refine y_ior hB (by omega) (p2_lt (by omega)) dX2_differentSources_20 ?_
        refine y_istore_n (lv' := [(1, .int (iI (orI s (p2 v_16)))), (0, .ref (ad b (q))), (2, .int (iI (i)))]) hB dX2_differentSources_21 rfl (by decide) rfl ?_
        refine y_iinc (v := i + 1) (lv' := [(2, .int (iI (i + 1))), (1, .int (iI (orI s (p2 v_16)))), (0, .ref (ad b (q)))]) hB 2 dX2_differentSources_22 rfl (by omega) (by decide) rfl ?_
        refine y_goto hB 4 dX2_differentSources_25 (by decide) ?_
        refine y_sub (lv' := [(0, .ref (ad b (q))), (1, .int (iI (orI s (p2 v_16)))), (2, .int (iI (i + 1)))]) [2, 1, 0] rfl ?_
        exact ih_4 (i + 1) (orI s (p2 v_16)) (by omega) (by rw [mkI_s _ hi.1, hv, h_16]) (by omega)
  refine y_sub (lv' := [(0, .ref (ad b (q))), (1, .int (iI (0))), (2, .int (iI (0)))]) [2, 1, 0] rfl ?_
  exact LOOP_4 ((C q 6).toNat + 1) 0 0 (by omega) (mkI_0 _).symm (by omega)
set_option maxHeartbeats 4000000 in
theorem tX2_removeFact (l : Launch) (G : gG) (b : Nat) (C S : gM) (q u : Int) (hq : isLife q) (hs : 0 ≤ C q 6 ∧ C q 6 ≤ 8) (hu : 0 ≤ u ∧ u < C q 6) : Ct l G b yX2_removeFact cX2_removeFact 3 none rmX2_removeFact [.ref (ad b (q)), .int (iI (u))] 578 (wM G b C S) (WV G b S (fun C' => C' = up2 (shl3 C q u (C q 6 - 1)) q 6 (C q 6 - 1))) := by
  refine CtK_of (by decide) (Nat.le_of_ble_eq_true rfl) q644 ?_
  intro x hl hB hE _
  subst hl
  show YM x G b 0 0 C S 0 [(0, .ref (ad b (q))), (1, .int (iI (u)))] []
  refine y_aload_n hB 0 dX2_removeFact_0 rfl rfl ?_
  refine y_iload_n hB 1 dX2_removeFact_1 rfl rfl ?_
  refine m_V hB msX2_hasFact q260 (tX2_hasFact _ G b C S q u (hq).1 (by omega) (by omega)) (t := 5) (hq).1 (by decide) rfl rfl rfl rfl rfl ⟨Nat.le_of_ble_eq_true rfl, Nat.le_of_ble_eq_true rfl⟩ (Nat.le_of_ble_eq_true rfl) ⟨rfl, rfl⟩ ⟨Nat.le_of_ble_eq_true rfl, Nat.le_of_ble_eq_true rfl⟩ dX2_removeFact_2 (k_RI (fun v_2 h_2 => ?_))
  refine y_if_ne hB 9 dX2_removeFact_5 (by decide) (by omega) (fun c_5 => ?_) (fun c_5 => ?_)
  · refine y_iload_n hB 1 dX2_removeFact_9 rfl rfl ?_
    refine y_istore_n (lv' := [(2, .int (iI (u))), (0, .ref (ad b (q))), (1, .int (iI (u)))]) hB dX2_removeFact_10 rfl (by decide) rfl ?_
    have LOOP_11 : ∀ (fu : Nat) (i : Int), (u ≤ i ∧ i ≤ C q 6 - 1) → C q 6 - i < (fu : Int) → YM x G b 0 0 (shl3 C q u i) S 11 [(0, .ref (ad b (q))), (1, .int (iI (u))), (2, .int (iI (i)))] [] := by
      intro fu
      induction fu with
      | zero => intro i hi hm_11; exfalso; omega
      | succ fu ih_11 =>
        intro i hi hm_11
        have hz : shl3 C q u i q 6 = C q 6 := shl3_q C q u i 6
        refine y_iload_n hB 2 dX2_removeFact_11 rfl rfl ?_
        refine y_aload_n hB 0 dX2_removeFact_12 rfl rfl ?_
        refine gt_2_6 hB (hq).1 (t1 := (shl3 C q u i) q 6) rfl dX2_removeFact_13 ?_
        refine y_iconst (v := 1) hB dX2_removeFact_16 rfl ?_
        refine y_isub (t := (shl3 C q u i) q 6 - 1) hB dX2_removeFact_17 (by omega) ?_
        refine y_icmp_ge hB 75 dX2_removeFact_18 (by decide) (by omega) (by omega) (fun c_18 => ?_) (fun c_18 => ?_)
        · refine y_aload_n hB 0 dX2_removeFact_75 rfl rfl ?_
          refine y_dup hB dX2_removeFact_76 rfl ?_
          refine gt_2_6 hB (hq).1 (t1 := (shl3 C q u i) q 6) rfl dX2_removeFact_77 ?_
          refine y_iconst (v := 1) hB dX2_removeFact_80 rfl ?_
          refine y_isub (t := (shl3 C q u i) q 6 - 1) hB dX2_removeFact_81 (by omega) ?_
          refine pt_2_6 hB (hq).1 dX2_removeFact_82 ?_
          exact m_wv hB hE dX2_removeFact_85 (by rw [hz, show i = C q 6 - 1 by omega])
        · refine y_iload_n hB 2 dX2_removeFact_21 rfl rfl ?_
          refine y_bipush (v := 7) hB dX2_removeFact_22 (by decide) ?_
          refine y_icmp_ge hB 75 dX2_removeFact_24 (by decide) (by omega) (by omega) (fun c_24 => ?_) (fun c_24 => ?_)
          · refine y_aload_n hB 0 dX2_removeFact_75 rfl rfl ?_
            refine y_dup hB dX2_removeFact_76 rfl ?_
            refine gt_2_6 hB (hq).1 (t1 := (shl3 C q u i) q 6) rfl dX2_removeFact_77 ?_
            refine y_iconst (v := 1) hB dX2_removeFact_80 rfl ?_
            refine y_isub (t := (shl3 C q u i) q 6 - 1) hB dX2_removeFact_81 (by omega) ?_
            refine pt_2_6 hB (hq).1 dX2_removeFact_82 ?_
            exact m_wv hB hE dX2_removeFact_85 (by rw [hz, show i = C q 6 - 1 by omega])
          · refine y_aload_n hB 0 dX2_removeFact_27 rfl rfl ?_
            refine gt_2_7 hB (hq).1 (t1 := q + 1) (by omega) dX2_removeFact_28 ?_
            refine y_iload_n hB 2 dX2_removeFact_31 rfl rfl ?_
            refine y_aload_n hB 0 dX2_removeFact_32 rfl rfl ?_
            refine gt_2_7 hB (hq).1 (t1 := q + 1) (by omega) dX2_removeFact_33 ?_
            refine y_iload_n hB 2 dX2_removeFact_36 rfl rfl ?_
            refine y_iconst (v := 1) hB dX2_removeFact_37 rfl ?_
            refine y_iadd (t := i + 1) hB dX2_removeFact_38 (by omega) ?_
            refine ald_6 hB (hq).2.1 (t1 := (shl3 C q u i) (q + 1) (i + 1)) (by omega) rfl dX2_removeFact_39 ?_
            refine ast_6 hB (hq).2.1 (by omega) dX2_removeFact_40 ?_
            refine y_aload_n hB 0 dX2_removeFact_41 rfl rfl ?_
            refine gt_2_8 hB (hq).1 (t1 := q + 2) (by omega) dX2_removeFact_42 ?_
            refine y_iload_n hB 2 dX2_removeFact_45 rfl rfl ?_
            refine y_aload_n hB 0 dX2_removeFact_46 rfl rfl ?_
            refine gt_2_8 hB (hq).1 (t1 := q + 2) (by omega) dX2_removeFact_47 ?_
            refine y_iload_n hB 2 dX2_removeFact_50 rfl rfl ?_
            refine y_iconst (v := 1) hB dX2_removeFact_51 rfl ?_
            refine y_iadd (t := i + 1) hB dX2_removeFact_52 (by omega) ?_
            refine ald_6 hB (hq).2.2.1 (t1 := (shl3 C q u i) (q + 2) (i + 1)) (by omega) (rd_k (by omega)) dX2_removeFact_53 ?_
            refine ast_6 hB (hq).2.2.1 (by omega) dX2_removeFact_54 ?_
            refine y_aload_n hB 0 dX2_removeFact_55 rfl rfl ?_
            refine gt_2_9 hB (hq).1 (t1 := q + 3) (by omega) dX2_removeFact_56 ?_
            refine y_iload_n hB 2 dX2_removeFact_59 rfl rfl ?_
            refine y_aload_n hB 0 dX2_removeFact_60 rfl rfl ?_
            refine gt_2_9 hB (hq).1 (t1 := q + 3) (by omega) dX2_removeFact_61 ?_
            refine y_iload_n hB 2 dX2_removeFact_64 rfl rfl ?_
            refine y_iconst (v := 1) hB dX2_removeFact_65 rfl ?_
            refine y_iadd (t := i + 1) hB dX2_removeFact_66 (by omega) ?_
            refine ald_6 hB (hq).2.2.2.1 (t1 := (shl3 C q u i) (q + 3) (i + 1)) (by omega) ((rd_k (by omega)).trans (rd_k (by omega))) dX2_removeFact_67 ?_
            refine ast_6 hB (hq).2.2.2.1 (by omega) dX2_removeFact_68 ?_
            refine y_iinc (v := i + 1) (lv' := [(2, .int (iI (i + 1))), (0, .ref (ad b (q))), (1, .int (iI (u)))]) hB 2 dX2_removeFact_69 rfl (by omega) (by decide) rfl ?_
            refine y_goto hB 11 dX2_removeFact_72 (by decide) ?_
            refine y_sub (lv' := [(0, .ref (ad b (q))), (1, .int (iI (u))), (2, .int (iI (i + 1)))]) [1, 2, 0] rfl ?_
            rw [shl3_s C q u i hi.1]
            exact ih_11 (i + 1) (by omega) (by omega)
    refine y_sub (lv' := [(0, .ref (ad b (q))), (1, .int (iI (u))), (2, .int (iI (u)))]) [1, 2, 0] rfl ?_
    rw [← shl3_0 C q u]
    exact LOOP_11 ((C q 6 - u).toNat + 1) u (by omega) (by omega)
  · exfalso
    omega
set_option maxHeartbeats 4000000 in
theorem tX2_copyLife (l : Launch) (G : gG) (b : Nat) (C S : gM) (q p : Int) (hq : isLife q) (hp : isLife p) (hd : p + 4 ≤ q ∨ q + 4 ≤ p) : Ct l G b yX2_copyLife cX2_copyLife 2 none rmX2_copyLife [.ref (ad b (q)), .ref (ad b (p))] 578 (wM G b C S) (WV G b S (fun C' => C' = cpL C q p)) := by
  refine CtK_of (by decide) (Nat.le_of_ble_eq_true rfl) q221 ?_
  intro x hl hB hE _
  subst hl
  show YM x G b 0 0 C S 0 [(0, .ref (ad b (q))), (1, .ref (ad b (p)))] []
  refine y_aload_n hB 0 dX2_copyLife_0 rfl rfl ?_
  refine y_aload_n hB 1 dX2_copyLife_1 rfl rfl ?_
  refine gt_2_0 hB (hp).1 (t1 := C p 0) rfl dX2_copyLife_2 ?_
  refine pt_2_0 hB (hq).1 dX2_copyLife_5 ?_
  refine y_aload_n hB 0 dX2_copyLife_8 rfl rfl ?_
  refine y_aload_n hB 1 dX2_copyLife_9 rfl rfl ?_
  refine gt_2_1 hB (hp).1 (t1 := C p 1) (rd_k (by omega)) dX2_copyLife_10 ?_
  refine pt_2_1 hB (hq).1 dX2_copyLife_13 ?_
  refine y_aload_n hB 0 dX2_copyLife_16 rfl rfl ?_
  refine y_aload_n hB 1 dX2_copyLife_17 rfl rfl ?_
  refine gt_2_2 hB (hp).1 (t1 := C p 2) ((rd_k (by omega)).trans (rd_k (by omega))) dX2_copyLife_18 ?_
  refine pt_2_2 hB (hq).1 dX2_copyLife_21 ?_
  refine y_aload_n hB 0 dX2_copyLife_24 rfl rfl ?_
  refine y_aload_n hB 1 dX2_copyLife_25 rfl rfl ?_
  refine gt_2_3 hB (hp).1 (t1 := C p 3) ((rd_k (by omega)).trans ((rd_k (by omega)).trans (rd_k (by omega)))) dX2_copyLife_26 ?_
  refine pt_2_3 hB (hq).1 dX2_copyLife_29 ?_
  refine y_aload_n hB 0 dX2_copyLife_32 rfl rfl ?_
  refine y_aload_n hB 1 dX2_copyLife_33 rfl rfl ?_
  refine gt_2_4 hB (hp).1 (t1 := C p 4) ((rd_k (by omega)).trans ((rd_k (by omega)).trans ((rd_k (by omega)).trans (rd_k (by omega))))) dX2_copyLife_34 ?_
  refine pt_2_4 hB (hq).1 dX2_copyLife_37 ?_
  refine y_aload_n hB 0 dX2_copyLife_40 rfl rfl ?_
  refine y_aload_n hB 1 dX2_copyLife_41 rfl rfl ?_
  refine gt_2_5 hB (hp).1 (t1 := C p 5) ((rd_k (by omega)).trans ((rd_k (by omega)).trans ((rd_k (by omega)).trans ((rd_k (by omega)).trans (rd_k (by omega)))))) dX2_copyLife_42 ?_
  refine pt_2_5 hB (hq).1 dX2_copyLife_45 ?_
  refine y_aload_n hB 0 dX2_copyLife_48 rfl rfl ?_
  refine y_aload_n hB 1 dX2_copyLife_49 rfl rfl ?_
  refine gt_2_6 hB (hp).1 (t1 := C p 6) ((rd_k (by omega)).trans ((rd_k (by omega)).trans ((rd_k (by omega)).trans ((rd_k (by omega)).trans ((rd_k (by omega)).trans (rd_k (by omega))))))) dX2_copyLife_50 ?_
  refine pt_2_6 hB (hq).1 dX2_copyLife_53 ?_
  refine y_aload_n hB 1 dX2_copyLife_56 rfl rfl ?_
  refine gt_2_7 hB (hp).1 (t1 := p + 1) (by omega) dX2_copyLife_57 ?_
  refine y_iconst (v := 0) hB dX2_copyLife_60 rfl ?_
  refine y_aload_n hB 0 dX2_copyLife_61 rfl rfl ?_
  refine gt_2_7 hB (hq).1 (t1 := q + 1) (by omega) dX2_copyLife_62 ?_
  refine y_iconst (v := 0) hB dX2_copyLife_65 rfl ?_
  refine y_bipush (v := 8) hB dX2_copyLife_66 (by decide) ?_
  refine cpy_6 hB (hp).2.1 (hq).2.1 q222 q213 q212 q10 (Nat.le_of_ble_eq_true rfl) (by decide) dX2_copyLife_68 ?_
  refine y_aload_n hB 1 dX2_copyLife_71 rfl rfl ?_
  refine gt_2_8 hB (hp).1 (t1 := p + 2) (by omega) dX2_copyLife_72 ?_
  refine y_iconst (v := 0) hB dX2_copyLife_75 rfl ?_
  refine y_aload_n hB 0 dX2_copyLife_76 rfl rfl ?_
  refine gt_2_8 hB (hq).1 (t1 := q + 2) (by omega) dX2_copyLife_77 ?_
  refine y_iconst (v := 0) hB dX2_copyLife_80 rfl ?_
  refine y_bipush (v := 8) hB dX2_copyLife_81 (by decide) ?_
  refine cpy_6 hB (hp).2.2.1 (hq).2.2.1 q222 q213 q212 q10 (Nat.le_of_ble_eq_true rfl) (by decide) dX2_copyLife_83 ?_
  refine y_aload_n hB 1 dX2_copyLife_86 rfl rfl ?_
  refine gt_2_9 hB (hp).1 (t1 := p + 3) (by omega) dX2_copyLife_87 ?_
  refine y_iconst (v := 0) hB dX2_copyLife_90 rfl ?_
  refine y_aload_n hB 0 dX2_copyLife_91 rfl rfl ?_
  refine gt_2_9 hB (hq).1 (t1 := q + 3) (by omega) dX2_copyLife_92 ?_
  refine y_iconst (v := 0) hB dX2_copyLife_95 rfl ?_
  refine y_bipush (v := 8) hB dX2_copyLife_96 (by decide) ?_
  refine cpy_6 hB (hp).2.2.2.1 (hq).2.2.2.1 q222 q213 q212 q10 (Nat.le_of_ble_eq_true rfl) (by decide) dX2_copyLife_98 ?_
  exact m_wv hB hE dX2_copyLife_101 (cpL_eq C hd)
