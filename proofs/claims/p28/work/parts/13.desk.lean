set_option maxHeartbeats 4000000 in
theorem tX6_isWithin (l : Launch) (G : gG) (b : Nat) (C S : gM) (u t z : Int) (hu : -2147483648 ≤ u ∧ u ≤ 2147483647) (ht : -2147483648 ≤ t ∧ t ≤ 2147483647) (hz : -2147483648 ≤ z ∧ z ≤ 2147483647) : Ct l G b yX6_isWithin cX6_isWithin 3 (some .boolean) rmX6_isWithin [.int (iI (u)), .int (iI (t)), .int (iI (z))] 578 (wM G b C S) (RI G b C S (fun v => (v = 1 ∧ t ≤ u ∧ u ≤ z) ∨ (v = 0 ∧ ¬ (t ≤ u ∧ u ≤ z)))) := by
  refine CtK_of (by decide) (Nat.le_of_ble_eq_true rfl) q194 ?_
  intro x hl hB hE _
  subst hl
  show YM x G b 0 0 C S 0 [(0, .int (iI (u))), (1, .int (iI (t))), (2, .int (iI (z)))] []
  refine y_iload_n hB 0 dX6_isWithin_0 rfl rfl ?_
  refine y_iload_n hB 1 dX6_isWithin_1 rfl rfl ?_
  refine y_icmp_lt hB 14 dX6_isWithin_2 (by decide) (by omega) (by omega) (fun c_2 => ?_) (fun c_2 => ?_)
  · refine y_iconst (v := 0) hB dX6_isWithin_14 rfl ?_
    exact m_ri hB hE dX6_isWithin_15 rfl (by omega)
  · refine y_iload_n hB 0 dX6_isWithin_5 rfl rfl ?_
    refine y_iload_n hB 2 dX6_isWithin_6 rfl rfl ?_
    refine y_icmp_gt hB 14 dX6_isWithin_7 (by decide) (by omega) (by omega) (fun c_7 => ?_) (fun c_7 => ?_)
    · refine y_iconst (v := 0) hB dX6_isWithin_14 rfl ?_
      exact m_ri hB hE dX6_isWithin_15 rfl (by omega)
    · refine y_iconst (v := 1) hB dX6_isWithin_10 rfl ?_
      refine y_goto hB 15 dX6_isWithin_11 (by decide) ?_
      exact m_ri hB hE dX6_isWithin_15 rfl (by omega)
set_option maxHeartbeats 4000000 in
theorem tX6_isSource (l : Launch) (G : gG) (b : Nat) (C S : gM) (u : Int) (hu : -2147483648 ≤ u ∧ u ≤ 2147483647) : Ct l G b yX6_isSource cX6_isSource 1 (some .boolean) rmX6_isSource [.int (iI (u))] 578 (wM G b C S) (RI G b C S (fun v => (v = 1 ∧ 0 ≤ u ∧ u < 6) ∨ (v = 0 ∧ ¬ (0 ≤ u ∧ u < 6)))) := by
  refine CtK_of (by decide) (Nat.le_of_ble_eq_true rfl) q282 ?_
  intro x hl hB hE _
  subst hl
  show YM x G b 0 0 C S 0 [(0, .int (iI (u)))] []
  refine y_iload_n hB 0 dX6_isSource_0 rfl rfl ?_
  refine y_if_lt hB 14 dX6_isSource_1 (by decide) (by omega) (fun c_1 => ?_) (fun c_1 => ?_)
  · refine y_iconst (v := 0) hB dX6_isSource_14 rfl ?_
    exact m_ri hB hE dX6_isSource_15 rfl (by omega)
  · refine y_iload_n hB 0 dX6_isSource_4 rfl rfl ?_
    refine y_bipush (v := 6) hB dX6_isSource_5 (by decide) ?_
    refine y_icmp_ge hB 14 dX6_isSource_7 (by decide) (by omega) (by omega) (fun c_7 => ?_) (fun c_7 => ?_)
    · refine y_iconst (v := 0) hB dX6_isSource_14 rfl ?_
      exact m_ri hB hE dX6_isSource_15 rfl (by omega)
    · refine y_iconst (v := 1) hB dX6_isSource_10 rfl ?_
      refine y_goto hB 15 dX6_isSource_11 (by decide) ?_
      exact m_ri hB hE dX6_isSource_15 rfl (by omega)
set_option maxHeartbeats 4000000 in
theorem tX6_isSetting (l : Launch) (G : gG) (b : Nat) (C S : gM) (u : Int) (hu : -2147483648 ≤ u ∧ u ≤ 2147483647) : Ct l G b yX6_isSetting cX6_isSetting 1 (some .boolean) rmX6_isSetting [.int (iI (u))] 578 (wM G b C S) (RI G b C S (fun v => (v = 1 ∧ 0 ≤ u ∧ u < 5) ∨ (v = 0 ∧ ¬ (0 ≤ u ∧ u < 5)))) := by
  refine CtK_of (by decide) (Nat.le_of_ble_eq_true rfl) q295 ?_
  intro x hl hB hE _
  subst hl
  show YM x G b 0 0 C S 0 [(0, .int (iI (u)))] []
  refine y_iload_n hB 0 dX6_isSetting_0 rfl rfl ?_
  refine y_if_lt hB 13 dX6_isSetting_1 (by decide) (by omega) (fun c_1 => ?_) (fun c_1 => ?_)
  · refine y_iconst (v := 0) hB dX6_isSetting_13 rfl ?_
    exact m_ri hB hE dX6_isSetting_14 rfl (by omega)
  · refine y_iload_n hB 0 dX6_isSetting_4 rfl rfl ?_
    refine y_iconst (v := 5) hB dX6_isSetting_5 rfl ?_
    refine y_icmp_ge hB 13 dX6_isSetting_6 (by decide) (by omega) (by omega) (fun c_6 => ?_) (fun c_6 => ?_)
    · refine y_iconst (v := 0) hB dX6_isSetting_13 rfl ?_
      exact m_ri hB hE dX6_isSetting_14 rfl (by omega)
    · refine y_iconst (v := 1) hB dX6_isSetting_9 rfl ?_
      refine y_goto hB 14 dX6_isSetting_10 (by decide) ?_
      exact m_ri hB hE dX6_isSetting_14 rfl (by omega)
set_option maxHeartbeats 4000000 in
theorem tX0_persons (l : Launch) (G : gG) (b : Nat) (C S : gM) (o : Int) (ho : kd o = 1) : Ct l G b yX0_persons cX0_persons 1 (some .int) rmX0_persons [.ref (ad b (o))] 578 (wM G b C S) (RI G b C S (fun v => v = C o 3)) := by
  refine CtK_of (by decide) (Nat.le_of_ble_eq_true rfl) q430 ?_
  intro x hl hB hE _
  subst hl
  show YM x G b 0 0 C S 0 [(0, .ref (ad b (o)))] []
  refine y_aload_n hB 0 dX0_persons_0 rfl rfl ?_
  refine gt_0_3 hB ho (t1 := C o 3) rfl dX0_persons_1 ?_
  exact m_ri hB hE dX0_persons_4 rfl (rfl)
set_option maxHeartbeats 4000000 in
theorem tX0_today (l : Launch) (G : gG) (b : Nat) (C S : gM) (o : Int) (ho : kd o = 1) : Ct l G b yX0_today cX0_today 1 (some .int) rmX0_today [.ref (ad b (o))] 578 (wM G b C S) (RI G b C S (fun v => v = C o 4)) := by
  refine CtK_of (by decide) (Nat.le_of_ble_eq_true rfl) q359 ?_
  intro x hl hB hE _
  subst hl
  show YM x G b 0 0 C S 0 [(0, .ref (ad b (o)))] []
  refine y_aload_n hB 0 dX0_today_0 rfl rfl ?_
  refine gt_0_4 hB ho (t1 := C o 4) rfl dX0_today_1 ?_
  exact m_ri hB hE dX0_today_4 rfl (rfl)
set_option maxHeartbeats 4000000 in
theorem tX0_hoursLeft (l : Launch) (G : gG) (b : Nat) (C S : gM) (o : Int) (ho : kd o = 1) : Ct l G b yX0_hoursLeft cX0_hoursLeft 1 (some .int) rmX0_hoursLeft [.ref (ad b (o))] 578 (wM G b C S) (RI G b C S (fun v => v = C o 5)) := by
  refine CtK_of (by decide) (Nat.le_of_ble_eq_true rfl) q470 ?_
  intro x hl hB hE _
  subst hl
  show YM x G b 0 0 C S 0 [(0, .ref (ad b (o)))] []
  refine y_aload_n hB 0 dX0_hoursLeft_0 rfl rfl ?_
  refine gt_0_5 hB ho (t1 := C o 5) rfl dX0_hoursLeft_1 ?_
  exact m_ri hB hE dX0_hoursLeft_4 rfl (rfl)
set_option maxHeartbeats 4000000 in
theorem tX0_corrections (l : Launch) (G : gG) (b : Nat) (C S : gM) (o : Int) (ho : kd o = 1) : Ct l G b yX0_corrections cX0_corrections 1 (some .int) rmX0_corrections [.ref (ad b (o))] 578 (wM G b C S) (RI G b C S (fun v => v = C o 6)) := by
  refine CtK_of (by decide) (Nat.le_of_ble_eq_true rfl) q486 ?_
  intro x hl hB hE _
  subst hl
  show YM x G b 0 0 C S 0 [(0, .ref (ad b (o)))] []
  refine y_aload_n hB 0 dX0_corrections_0 rfl rfl ?_
  refine gt_0_6 hB ho (t1 := C o 6) rfl dX0_corrections_1 ?_
  exact m_ri hB hE dX0_corrections_4 rfl (rfl)
set_option maxHeartbeats 4000000 in
theorem tX0_roomForPersons (l : Launch) (G : gG) (b : Nat) (C S : gM) (o : Int) (ho : kd o = 1) : Ct l G b yX0_roomForPersons cX0_roomForPersons 1 (some .int) rmX0_roomForPersons [.ref (ad b (o))] 578 (wM G b C S) (RI G b C S (fun v => v = 20 - C o 3)) := by
  refine CtK_of (by decide) (Nat.le_of_ble_eq_true rfl) q198 ?_
  intro x hl hB hE _
  subst hl
  show YM x G b 0 0 C S 0 [(0, .ref (ad b (o)))] []
  refine y_bipush (v := 20) hB dX0_roomForPersons_0 (by decide) ?_
  refine y_aload_n hB 0 dX0_roomForPersons_2 rfl rfl ?_
  refine gt_0_3 hB ho (t1 := C o 3) rfl dX0_roomForPersons_3 ?_
  refine y_isub (t := -(C o 3) + 20) hB dX0_roomForPersons_6 (by omega) ?_
  exact m_ri hB hE dX0_roomForPersons_7 rfl (by omega)
set_option maxHeartbeats 4000000 in
theorem tX0_spendHours (l : Launch) (G : gG) (b : Nat) (C S : gM) (o u w : Int) (ho : kd o = 1) (hw : C o 5 - u = w) : Ct l G b yX0_spendHours cX0_spendHours 2 none rmX0_spendHours [.ref (ad b (o)), .int (iI (u))] 578 (wM G b C S) (WV G b S (fun C' => C' = up2 C o 5 w)) := by
  refine CtK_of (by decide) (Nat.le_of_ble_eq_true rfl) q324 ?_
  intro x hl hB hE _
  subst hl
  show YM x G b 0 0 C S 0 [(0, .ref (ad b (o))), (1, .int (iI (u)))] []
  subst hw
  refine y_aload_n hB 0 dX0_spendHours_0 rfl rfl ?_
  refine y_dup hB dX0_spendHours_1 rfl ?_
  refine gt_0_5 hB ho (t1 := C o 5) rfl dX0_spendHours_2 ?_
  refine y_iload_n hB 1 dX0_spendHours_5 rfl rfl ?_
  refine y_isub (t := C o 5 - u) hB dX0_spendHours_6 (by omega) ?_
  refine pt_0_5 hB ho dX0_spendHours_7 ?_
  exact m_wv hB hE dX0_spendHours_10 (rfl)
set_option maxHeartbeats 4000000 in
theorem tX0_lifeOf (l : Launch) (G : gG) (b : Nat) (C S : gM) (o u q : Int) (ho : isDesk o) (hp : 0 ≤ C o 3 ∧ C o 3 ≤ 20) (hu : 0 ≤ u ∧ u < C o 3) (e : 4 * u + o + 4 = q) : Ct l G b yX0_lifeOf cX0_lifeOf 2 (some (.object "LivesAhead$Life")) rmX0_lifeOf [.ref (ad b (o)), .int (iI (u))] 578 (wM G b C S) (RR G b C S (.ref (ad b q))) := by
  refine CtK_of (by decide) (Nat.le_of_ble_eq_true rfl) q217 ?_
  intro x hl hB hE _
  subst hl
  show YM x G b 0 0 C S 0 [(0, .ref (ad b (o))), (1, .int (iI (u)))] []
  refine y_iload_n hB 1 dX0_lifeOf_0 rfl rfl ?_
  refine y_if_lt hB 18 dX0_lifeOf_1 (by decide) (by omega) (fun c_1 => ?_) (fun c_1 => ?_)
  · exfalso
    omega
  · refine y_iload_n hB 1 dX0_lifeOf_4 rfl rfl ?_
    refine y_aload_n hB 0 dX0_lifeOf_5 rfl rfl ?_
    refine gt_0_3 hB (ho).1 (t1 := C o 3) rfl dX0_lifeOf_6 ?_
    refine y_icmp_ge hB 18 dX0_lifeOf_9 (by decide) (by omega) (by omega) (fun c_9 => ?_) (fun c_9 => ?_)
    · exfalso
      omega
    · refine y_iload_n hB 1 dX0_lifeOf_12 rfl rfl ?_
      refine y_bipush (v := 20) hB dX0_lifeOf_13 (by decide) ?_
      refine y_icmp_lt hB 20 dX0_lifeOf_15 (by decide) (by omega) (by omega) (fun c_15 => ?_) (fun c_15 => ?_)
      · refine y_aload_n hB 0 dX0_lifeOf_20 rfl rfl ?_
        refine gt_0_2 hB (ho).1 (t1 := o + 3) (by omega) dX0_lifeOf_21 ?_
        refine y_iload_n hB 1 dX0_lifeOf_24 rfl rfl ?_
        refine ald_4 hB (ho).2.2.2.1 (by omega) (t1 := o + 4 * u + 4) (by omega) dX0_lifeOf_25 ?_
        rw [show o + 4 * u + 4 = q by omega]
        exact m_rr hB hE dX0_lifeOf_26 (Or.inr ⟨_, rfl⟩)
      · exfalso
        omega
set_option maxHeartbeats 4000000 in
theorem tX0_lifeOfN (l : Launch) (G : gG) (b : Nat) (C S : gM) (o u : Int) (ho : isDesk o) (hp : 0 ≤ C o 3 ∧ C o 3 ≤ 20) (hb : -2147483648 ≤ u ∧ u ≤ 2147483647) (hu : ¬ (0 ≤ u ∧ u < C o 3)) : Ct l G b yX0_lifeOf cX0_lifeOf 2 (some (.object "LivesAhead$Life")) rmX0_lifeOf [.ref (ad b (o)), .int (iI (u))] 578 (wM G b C S) (RR G b C S .null) := by
  refine CtK_of (by decide) (Nat.le_of_ble_eq_true rfl) q217 ?_
  intro x hl hB hE _
  subst hl
  show YM x G b 0 0 C S 0 [(0, .ref (ad b (o))), (1, .int (iI (u)))] []
  refine y_iload_n hB 1 dX0_lifeOf_0 rfl rfl ?_
  refine y_if_lt hB 18 dX0_lifeOf_1 (by decide) (by omega) (fun c_1 => ?_) (fun c_1 => ?_)
  · refine y_null hB dX0_lifeOf_18 ?_
    exact m_rr hB hE dX0_lifeOf_19 (Or.inl rfl)
  · refine y_iload_n hB 1 dX0_lifeOf_4 rfl rfl ?_
    refine y_aload_n hB 0 dX0_lifeOf_5 rfl rfl ?_
    refine gt_0_3 hB (ho).1 (t1 := C o 3) rfl dX0_lifeOf_6 ?_
    refine y_icmp_ge hB 18 dX0_lifeOf_9 (by decide) (by omega) (by omega) (fun c_9 => ?_) (fun c_9 => ?_)
    · refine y_null hB dX0_lifeOf_18 ?_
      exact m_rr hB hE dX0_lifeOf_19 (Or.inl rfl)
    · refine y_iload_n hB 1 dX0_lifeOf_12 rfl rfl ?_
      refine y_bipush (v := 20) hB dX0_lifeOf_13 (by decide) ?_
      refine y_icmp_lt hB 20 dX0_lifeOf_15 (by decide) (by omega) (by omega) (fun c_15 => ?_) (fun c_15 => ?_)
      · exfalso
        omega
      · exfalso
        omega
set_option maxHeartbeats 4000000 in
theorem tX0_setting (l : Launch) (G : gG) (b : Nat) (C S : gM) (o u : Int) (ho : isDesk o) (hu : 0 ≤ u ∧ u < 5) : Ct l G b yX0_setting cX0_setting 2 (some .int) rmX0_setting [.ref (ad b (o)), .int (iI (u))] 578 (wM G b C S) (RI G b C S (fun v => v = C (o + 1) u)) := by
  refine CtK_of (by decide) (Nat.le_of_ble_eq_true rfl) q292 ?_
  intro x hl hB hE _
  subst hl
  show YM x G b 0 0 C S 0 [(0, .ref (ad b (o))), (1, .int (iI (u)))] []
  refine y_iload_n hB 1 dX0_setting_0 rfl rfl ?_
  refine m_N hB msX6_isSetting nw6 (tX6_isSetting _ G b C S u (by omega)) rfl rfl ⟨Nat.le_of_ble_eq_true rfl, Nat.le_of_ble_eq_true rfl⟩ (Nat.le_of_ble_eq_true rfl) ⟨rfl, rfl⟩ ⟨Nat.le_of_ble_eq_true rfl, Nat.le_of_ble_eq_true rfl⟩ dX0_setting_1 (k_RI (fun v_1 h_1 => ?_))
  refine y_if_eq hB 16 dX0_setting_4 (by decide) (by omega) (fun c_4 => ?_) (fun c_4 => ?_)
  · exfalso
    omega
  · refine y_aload_n hB 0 dX0_setting_7 rfl rfl ?_
    refine gt_0_0 hB (ho).1 (t1 := o + 1) (by omega) dX0_setting_8 ?_
    refine y_iload_n hB 1 dX0_setting_11 rfl rfl ?_
    refine ald_2 hB (ho).2.1 (t1 := C (o + 1) u) (by omega) rfl dX0_setting_12 ?_
    refine y_goto hB 18 dX0_setting_13 (by decide) ?_
    exact m_ri hB hE dX0_setting_18 rfl (rfl)
set_option maxHeartbeats 4000000 in
theorem tX0_trustOf (l : Launch) (G : gG) (b : Nat) (C S : gM) (o u : Int) (ho : isDesk o) (hu : 0 ≤ u ∧ u < 6) : Ct l G b yX0_trustOf cX0_trustOf 2 (some .int) rmX0_trustOf [.ref (ad b (o)), .int (iI (u))] 578 (wM G b C S) (RI G b C S (fun v => v = C (o + 2) u)) := by
  refine CtK_of (by decide) (Nat.le_of_ble_eq_true rfl) q279 ?_
  intro x hl hB hE _
  subst hl
  show YM x G b 0 0 C S 0 [(0, .ref (ad b (o))), (1, .int (iI (u)))] []
  refine y_iload_n hB 1 dX0_trustOf_0 rfl rfl ?_
  refine m_N hB msX6_isSource nw5 (tX6_isSource _ G b C S u (by omega)) rfl rfl ⟨Nat.le_of_ble_eq_true rfl, Nat.le_of_ble_eq_true rfl⟩ (Nat.le_of_ble_eq_true rfl) ⟨rfl, rfl⟩ ⟨Nat.le_of_ble_eq_true rfl, Nat.le_of_ble_eq_true rfl⟩ dX0_trustOf_1 (k_RI (fun v_1 h_1 => ?_))
  refine y_if_eq hB 16 dX0_trustOf_4 (by decide) (by omega) (fun c_4 => ?_) (fun c_4 => ?_)
  · exfalso
    omega
  · refine y_aload_n hB 0 dX0_trustOf_7 rfl rfl ?_
    refine gt_0_1 hB (ho).1 (t1 := o + 2) (by omega) dX0_trustOf_8 ?_
    refine y_iload_n hB 1 dX0_trustOf_11 rfl rfl ?_
    refine ald_3 hB (ho).2.2.1 (t1 := C (o + 2) u) (by omega) rfl dX0_trustOf_12 ?_
    refine y_goto hB 17 dX0_trustOf_13 (by decide) ?_
    exact m_ri hB hE dX0_trustOf_17 rfl (rfl)
set_option maxHeartbeats 4000000 in
theorem tX0_changeSetting (l : Launch) (G : gG) (b : Nat) (C S : gM) (o u t : Int) (ho : isDesk o) (hu : 0 ≤ u ∧ u < 5) : Ct l G b yX0_changeSetting cX0_changeSetting 3 none rmX0_changeSetting [.ref (ad b (o)), .int (iI (u)), .int (iI (t))] 578 (wM G b C S) (WV G b S (fun C' => C' = up2 C (o + 1) u t)) := by
  refine CtK_of (by decide) (Nat.le_of_ble_eq_true rfl) q338 ?_
  intro x hl hB hE _
  subst hl
  show YM x G b 0 0 C S 0 [(0, .ref (ad b (o))), (1, .int (iI (u))), (2, .int (iI (t)))] []
  refine y_iload_n hB 1 dX0_changeSetting_0 rfl rfl ?_
  refine m_N hB msX6_isSetting nw6 (tX6_isSetting _ G b C S u (by omega)) rfl rfl ⟨Nat.le_of_ble_eq_true rfl, Nat.le_of_ble_eq_true rfl⟩ (Nat.le_of_ble_eq_true rfl) ⟨rfl, rfl⟩ ⟨Nat.le_of_ble_eq_true rfl, Nat.le_of_ble_eq_true rfl⟩ dX0_changeSetting_1 (k_RI (fun v_1 h_1 => ?_))
  refine y_if_eq hB 14 dX0_changeSetting_4 (by decide) (by omega) (fun c_4 => ?_) (fun c_4 => ?_)
  · exfalso
    omega
  · refine y_aload_n hB 0 dX0_changeSetting_7 rfl rfl ?_
    refine gt_0_0 hB (ho).1 (t1 := o + 1) (by omega) dX0_changeSetting_8 ?_
    refine y_iload_n hB 1 dX0_changeSetting_11 rfl rfl ?_
    refine y_iload_n hB 2 dX0_changeSetting_12 rfl rfl ?_
    refine ast_2 hB (ho).2.1 (by omega) dX0_changeSetting_13 ?_
    exact m_wv hB hE dX0_changeSetting_14 (rfl)
set_option maxHeartbeats 4000000 in
theorem tX0_changeTrust (l : Launch) (G : gG) (b : Nat) (C S : gM) (o u t : Int) (ho : isDesk o) (hu : 0 ≤ u ∧ u < 6) : Ct l G b yX0_changeTrust cX0_changeTrust 3 none rmX0_changeTrust [.ref (ad b (o)), .int (iI (u)), .int (iI (t))] 578 (wM G b C S) (WV G b S (fun C' => C' = up2 C (o + 2) u t)) := by
  refine CtK_of (by decide) (Nat.le_of_ble_eq_true rfl) q636 ?_
  intro x hl hB hE _
  subst hl
  show YM x G b 0 0 C S 0 [(0, .ref (ad b (o))), (1, .int (iI (u))), (2, .int (iI (t)))] []
  refine y_iload_n hB 1 dX0_changeTrust_0 rfl rfl ?_
  refine m_N hB msX6_isSource nw5 (tX6_isSource _ G b C S u (by omega)) rfl rfl ⟨Nat.le_of_ble_eq_true rfl, Nat.le_of_ble_eq_true rfl⟩ (Nat.le_of_ble_eq_true rfl) ⟨rfl, rfl⟩ ⟨Nat.le_of_ble_eq_true rfl, Nat.le_of_ble_eq_true rfl⟩ dX0_changeTrust_1 (k_RI (fun v_1 h_1 => ?_))
  refine y_if_eq hB 14 dX0_changeTrust_4 (by decide) (by omega) (fun c_4 => ?_) (fun c_4 => ?_)
  · exfalso
    omega
  · refine y_aload_n hB 0 dX0_changeTrust_7 rfl rfl ?_
    refine gt_0_1 hB (ho).1 (t1 := o + 2) (by omega) dX0_changeTrust_8 ?_
    refine y_iload_n hB 1 dX0_changeTrust_11 rfl rfl ?_
    refine y_iload_n hB 2 dX0_changeTrust_12 rfl rfl ?_
    refine ast_3 hB (ho).2.2.1 (by omega) dX0_changeTrust_13 ?_
    exact m_wv hB hE dX0_changeTrust_14 (rfl)
set_option maxHeartbeats 4000000 in
theorem tX0_personsIn (l : Launch) (G : gG) (b : Nat) (C S : gM) (o u : Int) (ho : isDesk o) (hp : 0 ≤ C o 3 ∧ C o 3 ≤ 20) (hu : 0 ≤ u ∧ u ≤ 3) (hst : ∀ i : Int, 0 ≤ i → i < C o 3 → 0 ≤ C (4 * i + o + 4) 2 ∧ C (4 * i + o + 4) 2 ≤ 3) : Ct l G b yX0_personsIn cX0_personsIn 5 (some .int) rmX0_personsIn [.ref (ad b (o)), .int (iI (u))] 578 (wM G b C S) (RI G b C S (fun v => v = smI (fun i => if C (4 * i + o + 4) 2 = u then 1 else 0) (C o 3))) := by
  refine CtK_of (by decide) (Nat.le_of_ble_eq_true rfl) q474 ?_
  intro x hl hB hE _
  subst hl
  show YM x G b 0 0 C S 0 [(0, .ref (ad b (o))), (1, .int (iI (u)))] []
  refine y_iconst (v := 0) hB dX0_personsIn_0 rfl ?_
  refine y_istore_n (lv' := [(2, .int (iI (0))), (0, .ref (ad b (o))), (1, .int (iI (u)))]) hB dX0_personsIn_1 rfl (by decide) rfl ?_
  refine y_iconst (v := 0) hB dX0_personsIn_2 rfl ?_
  refine y_istore_n (lv' := [(3, .int (iI (0))), (2, .int (iI (0))), (0, .ref (ad b (o))), (1, .int (iI (u)))]) hB dX0_personsIn_3 rfl (by decide) rfl ?_
  have LOOP_4 : ∀ (fu : Nat) (i s : Int), (0 ≤ i ∧ i ≤ C o 3) → (s = smI (fun i => if C (4 * i + o + 4) 2 = u then 1 else 0) i) → (0 ≤ s ∧ s ≤ i) → C o 3 - i < (fu : Int) → YM x G b 0 0 C S 4 [(0, .ref (ad b (o))), (1, .int (iI (u))), (2, .int (iI (s))), (3, .int (iI (i)))] [] := by
    intro fu
    induction fu with
    | zero => intro i s hi hv hs hm_4; exfalso; omega
    | succ fu ih_4 =>
      intro i s hi hv hs hm_4
      refine y_iload_n hB 3 dX0_personsIn_4 rfl rfl ?_
      refine y_aload_n hB 0 dX0_personsIn_5 rfl rfl ?_
      refine gt_0_3 hB (ho).1 (t1 := C o 3) rfl dX0_personsIn_6 ?_
      refine y_icmp_ge hB 42 dX0_personsIn_9 (by decide) (by omega) (by omega) (fun c_9 => ?_) (fun c_9 => ?_)
      · refine y_iload_n hB 2 dX0_personsIn_42 rfl rfl ?_
        exact m_ri hB hE dX0_personsIn_43 rfl (by rw [hv, show i = C o 3 by omega])
      · refine y_aload_n hB 0 dX0_personsIn_12 rfl rfl ?_
        refine y_iload_n hB 3 dX0_personsIn_13 rfl rfl ?_
        refine m_V hB msX0_lifeOf q214 (tX0_lifeOf _ G b C S o i (4 * i + o + 4) ho (by omega) (by omega) (by omega)) (t := 1) (ho).1 (by decide) rfl rfl rfl rfl rfl ⟨Nat.le_of_ble_eq_true rfl, Nat.le_of_ble_eq_true rfl⟩ (Nat.le_of_ble_eq_true rfl) ⟨rfl, rfl⟩ ⟨Nat.le_of_ble_eq_true rfl, Nat.le_of_ble_eq_true rfl⟩ dX0_personsIn_14 (k_RR ?_)
        have hq_14 : isLife (4 * i + o + 4) := life_at ho (i := i) (by omega) (by omega)
        have hst_14 := hst i (by omega) (by omega)
        refine y_astore (lv' := [(4, .ref (ad b (4 * i + o + 4))), (0, .ref (ad b (o))), (1, .int (iI (u))), (2, .int (iI (s))), (3, .int (iI (i)))]) hB dX0_personsIn_17 (by decide) rfl ?_
        refine y_aload hB 0 dX0_personsIn_19 rfl ?_
        refine y_ifnull hB dX0_personsIn_21 ?_
        refine y_aload hB 0 dX0_personsIn_24 rfl ?_
        refine y_iload_n hB 2 dX0_personsIn_26 rfl rfl ?_
        refine m_V hB msX2_isIn q244 (tX2_isIn _ G b C S (4 * i + o + 4) u (hq_14).1 (by omega) (by omega)) (t := 5) (hq_14).1 (by decide) rfl rfl rfl rfl rfl ⟨Nat.le_of_ble_eq_true rfl, Nat.le_of_ble_eq_true rfl⟩ (Nat.le_of_ble_eq_true rfl) ⟨rfl, rfl⟩ ⟨Nat.le_of_ble_eq_true rfl, Nat.le_of_ble_eq_true rfl⟩ dX0_personsIn_27 (k_RI (fun v_27 h_27 => ?_))
        refine y_if_eq hB 36 dX0_personsIn_30 (by decide) (by omega) (fun c_30 => ?_) (fun c_30 => ?_)
        · refine y_iinc (v := i + 1) (lv' := [(3, .int (iI (i + 1))), (4, .ref (ad b (4 * i + o + 4))), (0, .ref (ad b (o))), (1, .int (iI (u))), (2, .int (iI (s)))]) hB 4 dX0_personsIn_36 rfl (by omega) (by decide) rfl ?_
          refine y_goto hB 4 dX0_personsIn_39 (by decide) ?_
          refine y_sub (lv' := [(0, .ref (ad b (o))), (1, .int (iI (u))), (2, .int (iI (s))), (3, .int (iI (i + 1)))]) [2, 3, 4, 0] rfl ?_
          exact ih_4 (i + 1) (s) (by omega) (by rw [smI_s _ hi.1, ← hv, if_neg (by omega)]; omega) (by omega) (by omega)
        · refine y_iinc (v := s + 1) (lv' := [(2, .int (iI (s + 1))), (4, .ref (ad b (4 * i + o + 4))), (0, .ref (ad b (o))), (1, .int (iI (u))), (3, .int (iI (i)))]) hB 3 dX0_personsIn_33 rfl (by omega) (by decide) rfl ?_
          refine y_iinc (v := i + 1) (lv' := [(3, .int (iI (i + 1))), (2, .int (iI (s + 1))), (4, .ref (ad b (4 * i + o + 4))), (0, .ref (ad b (o))), (1, .int (iI (u)))]) hB 4 dX0_personsIn_36 rfl (by omega) (by decide) rfl ?_
          refine y_goto hB 4 dX0_personsIn_39 (by decide) ?_
          refine y_sub (lv' := [(0, .ref (ad b (o))), (1, .int (iI (u))), (2, .int (iI (s + 1))), (3, .int (iI (i + 1)))]) [3, 4, 1, 0] rfl ?_
          exact ih_4 (i + 1) (s + 1) (by omega) (by rw [smI_s _ hi.1, ← hv, if_pos (by omega)]) (by omega) (by omega)
  refine y_sub (lv' := [(0, .ref (ad b (o))), (1, .int (iI (u))), (2, .int (iI (0))), (3, .int (iI (0)))]) [2, 3, 1, 0] rfl ?_
  exact LOOP_4 ((C o 3).toNat + 1) 0 0 (by omega) (smI_0 _).symm (by omega) (by omega)
set_option maxHeartbeats 4000000 in
theorem tX0_facts (l : Launch) (G : gG) (b : Nat) (C S : gM) (o : Int) (ho : isDesk o) (hp : 0 ≤ C o 3 ∧ C o 3 ≤ 20) : Ct l G b yX0_facts cX0_facts 4 (some .int) rmX0_facts [.ref (ad b (o))] 578 (wM G b C S) (RI G b C S (fun v => v = smI (fun i => C (4 * i + o + 4) 6) (C o 3))) := by
  refine CtK_of (by decide) (Nat.le_of_ble_eq_true rfl) q478 ?_
  intro x hl hB hE _
  subst hl
  show YM x G b 0 0 C S 0 [(0, .ref (ad b (o)))] []
  refine y_iconst (v := 0) hB dX0_facts_0 rfl ?_
  refine y_istore_n (lv' := [(1, .int (iI (0))), (0, .ref (ad b (o)))]) hB dX0_facts_1 rfl (by decide) rfl ?_
  refine y_iconst (v := 0) hB dX0_facts_2 rfl ?_
  refine y_istore_n (lv' := [(2, .int (iI (0))), (1, .int (iI (0))), (0, .ref (ad b (o)))]) hB dX0_facts_3 rfl (by decide) rfl ?_
  have LOOP_4 : ∀ (fu : Nat) (i s : Int), (0 ≤ i ∧ i ≤ C o 3) → (s = smI (fun i => C (4 * i + o + 4) 6) i) → C o 3 - i < (fu : Int) → YM x G b 0 0 C S 4 [(0, .ref (ad b (o))), (1, .int (iI (s))), (2, .int (iI (i)))] [] := by
    intro fu
    induction fu with
    | zero => intro i s hi hv hm_4; exfalso; omega
    | succ fu ih_4 =>
      intro i s hi hv hm_4
      refine y_iload_n hB 2 dX0_facts_4 rfl rfl ?_
      refine y_aload_n hB 0 dX0_facts_5 rfl rfl ?_
      refine gt_0_3 hB (ho).1 (t1 := C o 3) rfl dX0_facts_6 ?_
      refine y_icmp_ge hB 35 dX0_facts_9 (by decide) (by omega) (by omega) (fun c_9 => ?_) (fun c_9 => ?_)
      · refine y_iload_n hB 1 dX0_facts_35 rfl rfl ?_
        exact m_ri hB hE dX0_facts_36 rfl (by rw [hv, show i = C o 3 by omega])
      · refine y_aload_n hB 0 dX0_facts_12 rfl rfl ?_
        refine y_iload_n hB 2 dX0_facts_13 rfl rfl ?_
        refine m_V hB msX0_lifeOf q214 (tX0_lifeOf _ G b C S o i (4 * i + o + 4) ho (by omega) (by omega) (by omega)) (t := 1) (ho).1 (by decide) rfl rfl rfl rfl rfl ⟨Nat.le_of_ble_eq_true rfl, Nat.le_of_ble_eq_true rfl⟩ (Nat.le_of_ble_eq_true rfl) ⟨rfl, rfl⟩ ⟨Nat.le_of_ble_eq_true rfl, Nat.le_of_ble_eq_true rfl⟩ dX0_facts_14 (k_RR ?_)
        have hq_14 : isLife (4 * i + o + 4) := life_at ho (i := i) (by omega) (by omega)
        refine y_astore_n (lv' := [(3, .ref (ad b (4 * i + o + 4))), (0, .ref (ad b (o))), (1, .int (iI (s))), (2, .int (iI (i)))]) hB dX0_facts_17 rfl (by decide) rfl ?_
        refine y_aload_n hB 0 dX0_facts_18 rfl rfl ?_
        refine y_ifnull hB dX0_facts_19 ?_
        refine y_iload_n hB 2 dX0_facts_22 rfl rfl ?_
        refine y_aload_n hB 0 dX0_facts_23 rfl rfl ?_
        refine m_V hB msX2_size q252 (tX2_size _ G b C S (4 * i + o + 4) (hq_14).1) (t := 5) (hq_14).1 (by decide) rfl rfl rfl rfl rfl ⟨Nat.le_of_ble_eq_true rfl, Nat.le_of_ble_eq_true rfl⟩ (Nat.le_of_ble_eq_true rfl) ⟨rfl, rfl⟩ ⟨Nat.le_of_ble_eq_true rfl, Nat.le_of_ble_eq_true rfl⟩ dX0_facts_24 (k_RI (fun v_24 h_24 => ?_))
        refine y_iadd (t := s + v_24) hB dX0_facts_27 (by omega) ?_
        refine y_istore_n (lv' := [(1, .int (iI (s + v_24))), (3, .ref (ad b (4 * i + o + 4))), (0, .ref (ad b (o))), (2, .int (iI (i)))]) hB dX0_facts_28 rfl (by decide) rfl ?_
        refine y_iinc (v := i + 1) (lv' := [(2, .int (iI (i + 1))), (1, .int (iI (s + v_24))), (3, .ref (ad b (4 * i + o + 4))), (0, .ref (ad b (o)))]) hB 3 dX0_facts_29 rfl (by omega) (by decide) rfl ?_
        refine y_goto hB 4 dX0_facts_32 (by decide) ?_
        refine y_sub (lv' := [(0, .ref (ad b (o))), (1, .int (iI (s + v_24))), (2, .int (iI (i + 1)))]) [3, 1, 0] rfl ?_
        exact ih_4 (i + 1) (s + v_24) (by omega) (by rw [smI_s _ hi.1, ← hv, h_24]) (by omega)
  refine y_sub (lv' := [(0, .ref (ad b (o))), (1, .int (iI (0))), (2, .int (iI (0)))]) [2, 1, 0] rfl ?_
  exact LOOP_4 ((C o 3).toNat + 1) 0 0 (by omega) (smI_0 _).symm (by omega)
set_option maxHeartbeats 4000000 in
theorem tX0_worthOf (l : Launch) (G : gG) (b : Nat) (C S : gM) (o q u d N : Int) (ho : isDesk o) (hq : isLife q) (hD : DkOk C o N) (hl : LfOk C q (C o 4)) (hN : N ≤ 512) (hu : 0 ≤ u ∧ u < C q 6) (hd : C o 4 ≤ d ∧ d ≤ 1520) : Ct l G b yX0_worthOf cX0_worthOf 7 (some .float) rmX0_worthOf [.ref (ad b (o)), .ref (ad b (q)), .int (iI (u)), .int (iI (d))] 578 (wM G b C S) (RF G b C S (fun v => v = WF (C (o + 2) (C (q + 1) u)) (d - C (q + 3) u))) := by
  refine CtK_of (by decide) (Nat.le_of_ble_eq_true rfl) q271 ?_
  intro x hl hB hE _
  subst hl
  show YM x G b 0 0 C S 0 [(0, .ref (ad b (o))), (1, .ref (ad b (q))), (2, .int (iI (u))), (3, .int (iI (d)))] []
  obtain ⟨hd3, hd4, hd5, hd6, hs0, hs1, hs2, hs3, hs4, htr, hlv⟩ := id hD
  obtain ⟨hl0, hl1, hl2, hl3, hl4, hl5, hl6, hl7, hlf⟩ := id hl
  obtain ⟨hf1, hf2, hf3⟩ := hlf u hu.1 hu.2
  refine y_aload_n hB 0 dX0_worthOf_0 rfl rfl ?_
  refine y_aload_n hB 1 dX0_worthOf_1 rfl rfl ?_
  refine y_iload_n hB 2 dX0_worthOf_2 rfl rfl ?_
  refine m_V hB msX2_sourceOf q272 (tX2_sourceOf _ G b C S q u hq (by omega) (by omega)) (t := 5) (hq).1 (by decide) rfl rfl rfl rfl rfl ⟨Nat.le_of_ble_eq_true rfl, Nat.le_of_ble_eq_true rfl⟩ (Nat.le_of_ble_eq_true rfl) ⟨rfl, rfl⟩ ⟨Nat.le_of_ble_eq_true rfl, Nat.le_of_ble_eq_true rfl⟩ dX0_worthOf_3 (k_RI (fun v_3 h_3 => ?_))
  rw [← h_3] at hf1
  refine m_V hB msX0_trustOf q276 (tX0_trustOf _ G b C S o v_3 ho (by omega)) (t := 1) (ho).1 (by decide) rfl rfl rfl rfl rfl ⟨Nat.le_of_ble_eq_true rfl, Nat.le_of_ble_eq_true rfl⟩ (Nat.le_of_ble_eq_true rfl) ⟨rfl, rfl⟩ ⟨Nat.le_of_ble_eq_true rfl, Nat.le_of_ble_eq_true rfl⟩ dX0_worthOf_6 (k_RI (fun v_6 h_6 => ?_))
  have ht6 := htr v_3 (by omega)
  rw [← h_6] at ht6
  refine y_i2f hB dX0_worthOf_9 ?_
  refine y_ldcf hB q283 dX0_worthOf_10 ?_
  refine y_fdiv hB dX0_worthOf_12 (vf_pos (fin_pos (fin_wf (k := 0) (by omega) (by omega)))) ?_
  refine y_fstore (lv' := [(4, .float (FP.fdiv (FP.i2f (iI (v_6))) 1120403456)), (0, .ref (ad b (o))), (1, .ref (ad b (q))), (2, .int (iI (u))), (3, .int (iI (d)))]) hB dX0_worthOf_13 (by decide) rfl ?_
  refine y_iload_n hB 4 dX0_worthOf_15 rfl rfl ?_
  refine y_aload_n hB 2 dX0_worthOf_16 rfl rfl ?_
  refine y_iload_n hB 3 dX0_worthOf_17 rfl rfl ?_
  refine m_V hB msX2_dayOf q256 (tX2_dayOf _ G b C S q u hq (by omega) (by omega)) (t := 5) (hq).1 (by decide) rfl rfl rfl rfl rfl ⟨Nat.le_of_ble_eq_true rfl, Nat.le_of_ble_eq_true rfl⟩ (Nat.le_of_ble_eq_true rfl) ⟨rfl, rfl⟩ ⟨Nat.le_of_ble_eq_true rfl, Nat.le_of_ble_eq_true rfl⟩ dX0_worthOf_18 (k_RI (fun v_18 h_18 => ?_))
  rw [← h_18] at hf3
  refine y_isub (t := d - v_18) hB dX0_worthOf_21 (by omega) ?_
  refine y_bipush (v := 10) hB dX0_worthOf_22 (by decide) ?_
  refine y_idiv hB dX0_worthOf_24 (by omega) (by omega) ?_
  refine y_istore (lv' := [(5, .int (iI ((d - v_18) / 10))), (4, .float (FP.fdiv (FP.i2f (iI (v_6))) 1120403456)), (0, .ref (ad b (o))), (1, .ref (ad b (q))), (2, .int (iI (u))), (3, .int (iI (d)))]) hB dX0_worthOf_25 (by decide) rfl ?_
  refine y_iconst (v := 0) hB dX0_worthOf_27 rfl ?_
  refine y_istore (lv' := [(6, .int (iI (0))), (5, .int (iI ((d - v_18) / 10))), (4, .float (FP.fdiv (FP.i2f (iI (v_6))) 1120403456)), (0, .ref (ad b (o))), (1, .ref (ad b (q))), (2, .int (iI (u))), (3, .int (iI (d)))]) hB dX0_worthOf_28 (by decide) rfl ?_
  have LOOP_30 : ∀ (fu : Nat) (i : Int) (w1 : UInt32), (0 ≤ i ∧ i ≤ (d - v_18) / 10) → (w1 = wf v_6 i.toNat) → (d - v_18) / 10 - i < (fu : Int) → YM x G b 0 0 C S 30 [(4, .float (w1)), (5, .int (iI ((d - v_18) / 10))), (6, .int (iI (i)))] [] := by
    intro fu
    induction fu with
    | zero => intro i w1 hi hw hm_30; exfalso; omega
    | succ fu ih_30 =>
      intro i w1 hi hw hm_30
      refine y_iload hB 2 dX0_worthOf_30 rfl ?_
      refine y_iload hB 1 dX0_worthOf_32 rfl ?_
      refine y_icmp_ge hB 50 dX0_worthOf_34 (by decide) (by omega) (by omega) (fun c_34 => ?_) (fun c_34 => ?_)
      · refine y_fload hB 0 dX0_worthOf_50 rfl ?_
        exact m_rf hB hE dX0_worthOf_52 (by rw [hw, show i = (d - v_18) / 10 by omega, h_6, h_3, h_18]; rfl)
      · refine y_fload hB 0 dX0_worthOf_37 rfl ?_
        refine y_ldcf hB q284 dX0_worthOf_39 ?_
        refine y_fmul hB dX0_worthOf_41 (hw ▸ vf_pos (pos_fmul (fin_wf (by omega) (by omega)) fin_c09)) ?_
        refine y_fstore (lv' := [(4, .float (FP.fmul w1 1063675494)), (5, .int (iI ((d - v_18) / 10))), (6, .int (iI (i)))]) hB dX0_worthOf_42 (by decide) rfl ?_
        refine y_iinc (v := i + 1) (lv' := [(6, .int (iI (i + 1))), (4, .float (FP.fmul w1 1063675494)), (5, .int (iI ((d - v_18) / 10)))]) hB 2 dX0_worthOf_44 rfl (by omega) (by decide) rfl ?_
        refine y_goto hB 30 dX0_worthOf_47 (by decide) ?_
        refine y_sub (lv' := [(4, .float (FP.fmul w1 1063675494)), (5, .int (iI ((d - v_18) / 10))), (6, .int (iI (i + 1)))]) [1, 2, 0] rfl ?_
        exact ih_30 (i + 1) _ (by omega) (by rw [show (i + 1).toNat = i.toNat + 1 by omega, hw]; rfl) (by omega)
  refine y_sub (lv' := [(4, .float (FP.fdiv (FP.i2f (iI (v_6))) 1120403456)), (5, .int (iI ((d - v_18) / 10))), (6, .int (iI (0)))]) [2, 1, 0] rfl ?_
  exact LOOP_30 (((d - v_18) / 10).toNat + 1) 0 _ (by omega) rfl (by omega)
set_option maxHeartbeats 4000000 in
theorem tX0_bound (l : Launch) (G : gG) (b : Nat) (C S : gM) (o N : Int) (ho : isDesk o) (hD : DkOk C o N) : Ct l G b yX0_bound cX0_bound 1 (some .float) rmX0_bound [.ref (ad b (o))] 578 (wM G b C S) (RF G b C S (fun v => v = wf (C (o + 1) 2) 0)) := by
  refine CtK_of (by decide) (Nat.le_of_ble_eq_true rfl) q288 ?_
  intro x hl hB hE _
  subst hl
  show YM x G b 0 0 C S 0 [(0, .ref (ad b (o)))] []
  obtain ⟨hd3, hd4, hd5, hd6, hs0, hs1, hs2, hs3, hs4, htr, hlv⟩ := id hD
  refine y_aload_n hB 0 dX0_bound_0 rfl rfl ?_
  refine y_iconst (v := 2) hB dX0_bound_1 rfl ?_
  refine m_V hB msX0_setting q289 (tX0_setting _ G b C S o 2 ho (by omega)) (t := 1) (ho).1 (by decide) rfl rfl rfl rfl rfl ⟨Nat.le_of_ble_eq_true rfl, Nat.le_of_ble_eq_true rfl⟩ (Nat.le_of_ble_eq_true rfl) ⟨rfl, rfl⟩ ⟨Nat.le_of_ble_eq_true rfl, Nat.le_of_ble_eq_true rfl⟩ dX0_bound_2 (k_RI (fun v_2 h_2 => ?_))
  refine y_i2f hB dX0_bound_5 ?_
  refine y_ldcf hB q283 dX0_bound_6 ?_
  refine y_fdiv hB dX0_bound_8 (by rw [h_2]; exact vf_pos (fin_pos (fin_wf (k := 0) (by omega) (by omega)))) ?_
  exact m_rf hB hE dX0_bound_9 (by rw [h_2]; rfl)
set_option maxHeartbeats 4000000 in
theorem tX0_worthOfLife (l : Launch) (G : gG) (b : Nat) (C S : gM) (o q N : Int) (ho : isDesk o) (hq : isLife q) (hD : DkOk C o N) (hl : LfOk C q (C o 4)) (hN : N ≤ 512) : Ct l G b yX0_worthOfLife cX0_worthOfLife 4 (some .float) rmX0_worthOfLife [.ref (ad b (o)), .ref (ad b (q))] 578 (wM G b C S) (RF G b C S (fun v => v = wsI (fun j => FP.fmul (WF (C (o + 2) (C (q + 1) j)) (C o 4 - C (q + 3) j)) (FP.i2f (iI (C (q + 2) j)))) (C q 6))) := by
  refine CtK_of (by decide) (Nat.le_of_ble_eq_true rfl) q545 ?_
  intro x hl hB hE _
  subst hl
  show YM x G b 0 0 C S 0 [(0, .ref (ad b (o))), (1, .ref (ad b (q)))] []
  obtain ⟨hd3, hd4, hd5, hd6, hs0, hs1, hs2, hs3, hs4, htr, hlv⟩ := id hD
  obtain ⟨hl0, hl1, hl2, hl3, hl4, hl5, hl6, hl7, hlf⟩ := id hl
  refine y_fconst0 hB dX0_worthOfLife_0 ?_
  refine y_fstore_n (lv' := [(2, .float (FP.fconst0)), (0, .ref (ad b (o))), (1, .ref (ad b (q)))]) hB dX0_worthOfLife_1 rfl (by decide) rfl ?_
  refine y_iconst (v := 0) hB dX0_worthOfLife_2 rfl ?_
  refine y_istore_n (lv' := [(3, .int (iI (0))), (2, .float (FP.fconst0)), (0, .ref (ad b (o))), (1, .ref (ad b (q)))]) hB dX0_worthOfLife_3 rfl (by decide) rfl ?_
  have LOOP_4 : ∀ (fu : Nat) (i : Int) (w1 : UInt32), (0 ≤ i ∧ i ≤ C q 6) → (w1 = wsI (fun j => FP.fmul (WF (C (o + 2) (C (q + 1) j)) (C o 4 - C (q + 3) j)) (FP.i2f (iI (C (q + 2) j)))) i) → C q 6 - i < (fu : Int) → YM x G b 0 0 C S 4 [(0, .ref (ad b (o))), (1, .ref (ad b (q))), (2, .float (w1)), (3, .int (iI (i)))] [] := by
    intro fu
    induction fu with
    | zero => intro i w1 hi hw hm_4; exfalso; omega
    | succ fu ih_4 =>
      intro i w1 hi hw hm_4
      have hps : ∀ j : Int, 0 ≤ j → j < C q 6 → pos32 (FP.fmul (WF (C (o + 2) (C (q + 1) j)) (C o 4 - C (q + 3) j)) (FP.i2f (iI (C (q + 2) j)))) := fun j a1 a2 => by
        obtain ⟨hf1, hf2, hf3⟩ := hlf j a1 a2
        exact pos_fmul (fin_WF (htr _ hf1) (by omega)) (fin_lines (by omega))
      refine y_iload_n hB 3 dX0_worthOfLife_4 rfl rfl ?_
      refine y_aload_n hB 1 dX0_worthOfLife_5 rfl rfl ?_
      refine m_V hB msX2_size q252 (tX2_size _ G b C S q (hq).1) (t := 5) (hq).1 (by decide) rfl rfl rfl rfl rfl ⟨Nat.le_of_ble_eq_true rfl, Nat.le_of_ble_eq_true rfl⟩ (Nat.le_of_ble_eq_true rfl) ⟨rfl, rfl⟩ ⟨Nat.le_of_ble_eq_true rfl, Nat.le_of_ble_eq_true rfl⟩ dX0_worthOfLife_6 (k_RI (fun v_6 h_6 => ?_))
      refine y_icmp_ge hB 38 dX0_worthOfLife_9 (by decide) (by omega) (by omega) (fun c_9 => ?_) (fun c_9 => ?_)
      · refine y_fload_n hB 2 dX0_worthOfLife_38 rfl rfl ?_
        exact m_rf hB hE dX0_worthOfLife_39 (by rw [hw, show i = C q 6 by omega])
      · refine y_fload_n hB 2 dX0_worthOfLife_12 rfl rfl ?_
        refine y_aload_n hB 0 dX0_worthOfLife_13 rfl rfl ?_
        refine y_aload_n hB 1 dX0_worthOfLife_14 rfl rfl ?_
        refine y_iload_n hB 3 dX0_worthOfLife_15 rfl rfl ?_
        refine y_aload_n hB 0 dX0_worthOfLife_16 rfl rfl ?_
        refine gt_0_4 hB (ho).1 (t1 := C o 4) rfl dX0_worthOfLife_17 ?_
        refine m_V hB msX0_worthOf q268 (tX0_worthOf _ G b C S o q i (C o 4) N ho hq hD hl hN (by omega) (by omega)) (t := 1) (ho).1 (by decide) rfl rfl rfl rfl rfl ⟨Nat.le_of_ble_eq_true rfl, Nat.le_of_ble_eq_true rfl⟩ (Nat.le_of_ble_eq_true rfl) ⟨rfl, rfl⟩ ⟨Nat.le_of_ble_eq_true rfl, Nat.le_of_ble_eq_true rfl⟩ dX0_worthOfLife_20 (k_RF (fun v_20 h_20 => ?_))
        refine y_aload_n hB 1 dX0_worthOfLife_23 rfl rfl ?_
        refine y_iload_n hB 3 dX0_worthOfLife_24 rfl rfl ?_
        refine m_V hB msX2_linesOf q534 (tX2_linesOf _ G b C S q i hq (by omega) (by omega)) (t := 5) (hq).1 (by decide) rfl rfl rfl rfl rfl ⟨Nat.le_of_ble_eq_true rfl, Nat.le_of_ble_eq_true rfl⟩ (Nat.le_of_ble_eq_true rfl) ⟨rfl, rfl⟩ ⟨Nat.le_of_ble_eq_true rfl, Nat.le_of_ble_eq_true rfl⟩ dX0_worthOfLife_25 (k_RI (fun v_25 h_25 => ?_))
        refine y_i2f hB dX0_worthOfLife_28 ?_
        refine y_fmul hB dX0_worthOfLife_29 (by rw [h_20, h_25]; exact vf_pos (hps i hi.1 (by omega))) ?_
        refine y_fadd hB dX0_worthOfLife_30 (by rw [h_20, h_25, hw]; exact vf_pos (pos_fadd (pos_wsI (fun j a1 a2 => hps j a1 (by omega))) (hps i hi.1 (by omega)))) ?_
        refine y_fstore_n (lv' := [(2, .float (FP.fadd w1 (FP.fmul v_20 (FP.i2f (iI (v_25)))))), (0, .ref (ad b (o))), (1, .ref (ad b (q))), (3, .int (iI (i)))]) hB dX0_worthOfLife_31 rfl (by decide) rfl ?_
        refine y_iinc (v := i + 1) (lv' := [(3, .int (iI (i + 1))), (2, .float (FP.fadd w1 (FP.fmul v_20 (FP.i2f (iI (v_25)))))), (0, .ref (ad b (o))), (1, .ref (ad b (q)))]) hB 3 dX0_worthOfLife_32 rfl (by omega) (by decide) rfl ?_
        refine y_goto hB 4 dX0_worthOfLife_35 (by decide) ?_
        refine y_sub (lv' := [(0, .ref (ad b (o))), (1, .ref (ad b (q))), (2, .float (FP.fadd w1 (FP.fmul v_20 (FP.i2f (iI (v_25)))))), (3, .int (iI (i + 1)))]) [2, 3, 1, 0] rfl ?_
        exact ih_4 (i + 1) _ (by omega) (by rw [wsI_s _ hi.1, ← hw, h_20, h_25]) (by omega)
  refine y_sub (lv' := [(0, .ref (ad b (o))), (1, .ref (ad b (q))), (2, .float (FP.fconst0)), (3, .int (iI (0)))]) [2, 3, 1, 0] rfl ?_
  exact LOOP_4 ((C q 6).toNat + 1) 0 _ (by omega) (wsI_0 _).symm (by omega)
set_option maxHeartbeats 4000000 in
theorem tX0_isStale (l : Launch) (G : gG) (b : Nat) (C S : gM) (o q u N : Int) (ho : isDesk o) (hq : isLife q) (hD : DkOk C o N) (hl : LfOk C q (C o 4)) (hN : N ≤ 512) (hu : 0 ≤ u ∧ u < C q 6) : Ct l G b yX0_isStale cX0_isStale 3 (some .boolean) rmX0_isStale [.ref (ad b (o)), .ref (ad b (q)), .int (iI (u))] 578 (wM G b C S) (RI G b C S (fun v => v = fst C o q (C o 4) u)) := by
  refine CtK_of (by decide) (Nat.le_of_ble_eq_true rfl) q267 ?_
  intro x hl hB hE _
  subst hl
  show YM x G b 0 0 C S 0 [(0, .ref (ad b (o))), (1, .ref (ad b (q))), (2, .int (iI (u)))] []
  obtain ⟨hd3, hd4, hd5, hd6, hs0, hs1, hs2, hs3, hs4, htr, hlv⟩ := id hD
  refine y_aload_n hB 0 dX0_isStale_0 rfl rfl ?_
  refine y_aload_n hB 1 dX0_isStale_1 rfl rfl ?_
  refine y_iload_n hB 2 dX0_isStale_2 rfl rfl ?_
  refine y_aload_n hB 0 dX0_isStale_3 rfl rfl ?_
  refine gt_0_4 hB (ho).1 (t1 := C o 4) rfl dX0_isStale_4 ?_
  refine m_V hB msX0_worthOf q268 (tX0_worthOf _ G b C S o q u (C o 4) N ho hq hD hl hN (by omega) (by omega)) (t := 1) (ho).1 (by decide) rfl rfl rfl rfl rfl ⟨Nat.le_of_ble_eq_true rfl, Nat.le_of_ble_eq_true rfl⟩ (Nat.le_of_ble_eq_true rfl) ⟨rfl, rfl⟩ ⟨Nat.le_of_ble_eq_true rfl, Nat.le_of_ble_eq_true rfl⟩ dX0_isStale_7 (k_RF (fun v_7 h_7 => ?_))
  refine y_aload_n hB 0 dX0_isStale_10 rfl rfl ?_
  refine m_V hB msX0_bound q285 (tX0_bound _ G b C S o N ho hD) (t := 1) (ho).1 (by decide) rfl rfl rfl rfl rfl ⟨Nat.le_of_ble_eq_true rfl, Nat.le_of_ble_eq_true rfl⟩ (Nat.le_of_ble_eq_true rfl) ⟨rfl, rfl⟩ ⟨Nat.le_of_ble_eq_true rfl, Nat.le_of_ble_eq_true rfl⟩ dX0_isStale_11 (k_RF (fun v_11 h_11 => ?_))
  refine y_fcmp hB dX0_isStale_14 ?_
  refine y_if_ge hB 22 dX0_isStale_15 (by decide) (by have h9 := cmpI_b (FP.fcmp v_7 v_11) .g; omega) (fun c_15 => ?_) (fun c_15 => ?_)
  · have hz : fst C o q (C o 4) u = 0 := by unfold fst stI; rw [← h_7, ← h_11, if_neg (by omega)]
    refine y_iconst (v := 0) hB dX0_isStale_22 rfl ?_
    exact m_ri hB hE dX0_isStale_23 rfl (hz.symm)
  · have hz : fst C o q (C o 4) u = 1 := by unfold fst stI; rw [← h_7, ← h_11, if_pos (by omega)]
    refine y_iconst (v := 1) hB dX0_isStale_18 rfl ?_
    refine y_goto hB 23 dX0_isStale_19 (by decide) ?_
    exact m_ri hB hE dX0_isStale_23 rfl (hz.symm)
set_option maxHeartbeats 4000000 in
theorem tX0_staleFactsOf (l : Launch) (G : gG) (b : Nat) (C S : gM) (o q d N : Int) (ho : isDesk o) (hq : isLife q) (hD : DkOk C o N) (hl : LfOk C q (C o 4)) (hN : N ≤ 512) (hd : C o 4 ≤ d ∧ d ≤ 1520) : Ct l G b yX0_staleFactsOf cX0_staleFactsOf 6 (some .int) rmX0_staleFactsOf [.ref (ad b (o)), .ref (ad b (q)), .int (iI (d))] 578 (wM G b C S) (RI G b C S (fun v => v = staleN C o q d)) := by
  refine CtK_of (by decide) (Nat.le_of_ble_eq_true rfl) q311 ?_
  intro x hl hB hE _
  subst hl
  show YM x G b 0 0 C S 0 [(0, .ref (ad b (o))), (1, .ref (ad b (q))), (2, .int (iI (d)))] []
  obtain ⟨hd3, hd4, hd5, hd6, hs0, hs1, hs2, hs3, hs4, htr, hlv⟩ := id hD
  obtain ⟨hl0, hl1, hl2, hl3, hl4, hl5, hl6, hl7, hlf⟩ := id hl
  refine y_aload_n hB 0 dX0_staleFactsOf_0 rfl rfl ?_
  refine m_V hB msX0_bound q285 (tX0_bound _ G b C S o N ho hD) (t := 1) (ho).1 (by decide) rfl rfl rfl rfl rfl ⟨Nat.le_of_ble_eq_true rfl, Nat.le_of_ble_eq_true rfl⟩ (Nat.le_of_ble_eq_true rfl) ⟨rfl, rfl⟩ ⟨Nat.le_of_ble_eq_true rfl, Nat.le_of_ble_eq_true rfl⟩ dX0_staleFactsOf_1 (k_RF (fun v_1 h_1 => ?_))
  refine y_fstore_n (lv' := [(3, .float (v_1)), (0, .ref (ad b (o))), (1, .ref (ad b (q))), (2, .int (iI (d)))]) hB dX0_staleFactsOf_4 rfl (by decide) rfl ?_
  refine y_iconst (v := 0) hB dX0_staleFactsOf_5 rfl ?_
  refine y_istore (lv' := [(4, .int (iI (0))), (3, .float (v_1)), (0, .ref (ad b (o))), (1, .ref (ad b (q))), (2, .int (iI (d)))]) hB dX0_staleFactsOf_6 (by decide) rfl ?_
  refine y_iconst (v := 0) hB dX0_staleFactsOf_8 rfl ?_
  refine y_istore (lv' := [(5, .int (iI (0))), (4, .int (iI (0))), (3, .float (v_1)), (0, .ref (ad b (o))), (1, .ref (ad b (q))), (2, .int (iI (d)))]) hB dX0_staleFactsOf_9 (by decide) rfl ?_
  have LOOP_11 : ∀ (fu : Nat) (i s : Int), (0 ≤ i ∧ i ≤ C q 6) → (s = smI (fst C o q d) i) → (0 ≤ s ∧ s ≤ i) → C q 6 - i < (fu : Int) → YM x G b 0 0 C S 11 [(0, .ref (ad b (o))), (1, .ref (ad b (q))), (2, .int (iI (d))), (3, .float (v_1)), (4, .int (iI (s))), (5, .int (iI (i)))] [] := by
    intro fu
    induction fu with
    | zero => intro i s hi hv hs hm_11; exfalso; omega
    | succ fu ih_11 =>
      intro i s hi hv hs hm_11
      refine y_iload hB 5 dX0_staleFactsOf_11 rfl ?_
      refine y_aload_n hB 1 dX0_staleFactsOf_13 rfl rfl ?_
      refine m_V hB msX2_size q252 (tX2_size _ G b C S q (hq).1) (t := 5) (hq).1 (by decide) rfl rfl rfl rfl rfl ⟨Nat.le_of_ble_eq_true rfl, Nat.le_of_ble_eq_true rfl⟩ (Nat.le_of_ble_eq_true rfl) ⟨rfl, rfl⟩ ⟨Nat.le_of_ble_eq_true rfl, Nat.le_of_ble_eq_true rfl⟩ dX0_staleFactsOf_14 (k_RI (fun v_14 h_14 => ?_))
      refine y_icmp_ge hB 42 dX0_staleFactsOf_17 (by decide) (by omega) (by omega) (fun c_17 => ?_) (fun c_17 => ?_)
      · refine y_iload hB 4 dX0_staleFactsOf_42 rfl ?_
        exact m_ri hB hE dX0_staleFactsOf_44 rfl (by rw [hv, show i = C q 6 by omega]; rfl)
      · refine y_aload_n hB 0 dX0_staleFactsOf_20 rfl rfl ?_
        refine y_aload_n hB 1 dX0_staleFactsOf_21 rfl rfl ?_
        refine y_iload hB 5 dX0_staleFactsOf_22 rfl ?_
        refine y_iload_n hB 2 dX0_staleFactsOf_24 rfl rfl ?_
        refine m_V hB msX0_worthOf q268 (tX0_worthOf _ G b C S o q i d N ho hq hD hl hN (by omega) (by omega)) (t := 1) (ho).1 (by decide) rfl rfl rfl rfl rfl ⟨Nat.le_of_ble_eq_true rfl, Nat.le_of_ble_eq_true rfl⟩ (Nat.le_of_ble_eq_true rfl) ⟨rfl, rfl⟩ ⟨Nat.le_of_ble_eq_true rfl, Nat.le_of_ble_eq_true rfl⟩ dX0_staleFactsOf_25 (k_RF (fun v_25 h_25 => ?_))
        refine y_fload_n hB 3 dX0_staleFactsOf_28 rfl rfl ?_
        refine y_fcmp hB dX0_staleFactsOf_29 ?_
        refine y_if_ge hB 36 dX0_staleFactsOf_30 (by decide) (by have h9 := cmpI_b (FP.fcmp v_25 v_1) .g; omega) (fun c_30 => ?_) (fun c_30 => ?_)
        · have hz : fst C o q d i = 0 := by unfold fst stI; rw [← h_25, ← h_1, if_neg (by omega)]
          refine y_iinc (v := i + 1) (lv' := [(5, .int (iI (i + 1))), (0, .ref (ad b (o))), (1, .ref (ad b (q))), (2, .int (iI (d))), (3, .float (v_1)), (4, .int (iI (s)))]) hB 5 dX0_staleFactsOf_36 rfl (by omega) (by decide) rfl ?_
          refine y_goto hB 11 dX0_staleFactsOf_39 (by decide) ?_
          refine y_sub (lv' := [(0, .ref (ad b (o))), (1, .ref (ad b (q))), (2, .int (iI (d))), (3, .float (v_1)), (4, .int (iI (s))), (5, .int (iI (i + 1)))]) [1, 2, 3, 4, 5, 0] rfl ?_
          exact ih_11 (i + 1) (s) (by omega) (by rw [smI_s _ hi.1, ← hv, hz]; omega) (by omega) (by omega)
        · have hz : fst C o q d i = 1 := by unfold fst stI; rw [← h_25, ← h_1, if_pos (by omega)]
          refine y_iinc (v := s + 1) (lv' := [(4, .int (iI (s + 1))), (0, .ref (ad b (o))), (1, .ref (ad b (q))), (2, .int (iI (d))), (3, .float (v_1)), (5, .int (iI (i)))]) hB 4 dX0_staleFactsOf_33 rfl (by omega) (by decide) rfl ?_
          refine y_iinc (v := i + 1) (lv' := [(5, .int (iI (i + 1))), (4, .int (iI (s + 1))), (0, .ref (ad b (o))), (1, .ref (ad b (q))), (2, .int (iI (d))), (3, .float (v_1))]) hB 5 dX0_staleFactsOf_36 rfl (by omega) (by decide) rfl ?_
          refine y_goto hB 11 dX0_staleFactsOf_39 (by decide) ?_
          refine y_sub (lv' := [(0, .ref (ad b (o))), (1, .ref (ad b (q))), (2, .int (iI (d))), (3, .float (v_1)), (4, .int (iI (s + 1))), (5, .int (iI (i + 1)))]) [2, 3, 4, 5, 1, 0] rfl ?_
          exact ih_11 (i + 1) (s + 1) (by omega) (by rw [smI_s _ hi.1, ← hv, hz]) (by omega) (by omega)
  refine y_sub (lv' := [(0, .ref (ad b (o))), (1, .ref (ad b (q))), (2, .int (iI (d))), (3, .float (v_1)), (4, .int (iI (0))), (5, .int (iI (0)))]) [3, 4, 5, 2, 1, 0] rfl ?_
  exact LOOP_11 ((C q 6).toNat + 1) 0 0 (by omega) (smI_0 _).symm (by omega) (by omega)
set_option maxHeartbeats 4000000 in
theorem tX0_staleFactsOn (l : Launch) (G : gG) (b : Nat) (C S : gM) (o d N : Int) (ho : isDesk o) (hD : DkOk C o N) (hN : N ≤ 512) (hd : C o 4 ≤ d ∧ d ≤ 1520) : Ct l G b yX0_staleFactsOn cX0_staleFactsOn 5 (some .int) rmX0_staleFactsOn [.ref (ad b (o)), .int (iI (d))] 578 (wM G b C S) (RI G b C S (fun v => v = smI (fun i => if C (4 * i + o + 4) 2 = 3 then 0 else staleN C o (4 * i + o + 4) d) (C o 3))) := by
  refine CtK_of (by decide) (Nat.le_of_ble_eq_true rfl) q461 ?_
  intro x hl hB hE _
  subst hl
  show YM x G b 0 0 C S 0 [(0, .ref (ad b (o))), (1, .int (iI (d)))] []
  obtain ⟨hd3, hd4, hd5, hd6, hs0, hs1, hs2, hs3, hs4, htr, hlv⟩ := id hD
  refine y_iconst (v := 0) hB dX0_staleFactsOn_0 rfl ?_
  refine y_istore_n (lv' := [(2, .int (iI (0))), (0, .ref (ad b (o))), (1, .int (iI (d)))]) hB dX0_staleFactsOn_1 rfl (by decide) rfl ?_
  refine y_iconst (v := 0) hB dX0_staleFactsOn_2 rfl ?_
  refine y_istore_n (lv' := [(3, .int (iI (0))), (2, .int (iI (0))), (0, .ref (ad b (o))), (1, .int (iI (d)))]) hB dX0_staleFactsOn_3 rfl (by decide) rfl ?_
  have LOOP_4 : ∀ (fu : Nat) (i s : Int), (0 ≤ i ∧ i ≤ C o 3) → (s = smI (fun i => if C (4 * i + o + 4) 2 = 3 then 0 else staleN C o (4 * i + o + 4) d) i) → C o 3 - i < (fu : Int) → YM x G b 0 0 C S 4 [(0, .ref (ad b (o))), (1, .int (iI (d))), (2, .int (iI (s))), (3, .int (iI (i)))] [] := by
    intro fu
    induction fu with
    | zero => intro i s hi hv hm_4; exfalso; omega
    | succ fu ih_4 =>
      intro i s hi hv hm_4
      refine y_iload_n hB 3 dX0_staleFactsOn_4 rfl rfl ?_
      refine y_aload_n hB 0 dX0_staleFactsOn_5 rfl rfl ?_
      refine gt_0_3 hB (ho).1 (t1 := C o 3) rfl dX0_staleFactsOn_6 ?_
      refine y_icmp_ge hB 49 dX0_staleFactsOn_9 (by decide) (by omega) (by omega) (fun c_9 => ?_) (fun c_9 => ?_)
      · refine y_iload_n hB 2 dX0_staleFactsOn_49 rfl rfl ?_
        exact m_ri hB hE dX0_staleFactsOn_50 rfl (by rw [hv, show i = C o 3 by omega])
      · refine y_aload_n hB 0 dX0_staleFactsOn_12 rfl rfl ?_
        refine y_iload_n hB 3 dX0_staleFactsOn_13 rfl rfl ?_
        refine m_V hB msX0_lifeOf q214 (tX0_lifeOf _ G b C S o i (4 * i + o + 4) ho (by omega) (by omega) (by omega)) (t := 1) (ho).1 (by decide) rfl rfl rfl rfl rfl ⟨Nat.le_of_ble_eq_true rfl, Nat.le_of_ble_eq_true rfl⟩ (Nat.le_of_ble_eq_true rfl) ⟨rfl, rfl⟩ ⟨Nat.le_of_ble_eq_true rfl, Nat.le_of_ble_eq_true rfl⟩ dX0_staleFactsOn_14 (k_RR ?_)
        have hq_14 : isLife (4 * i + o + 4) := life_at ho (i := i) (by omega) (by omega)
        have hl_14 := hlv (i) (by omega) (by omega)
        obtain ⟨ha_14, hb_14, hc_14, hd_14, he_14, hf_14, hg_14, hh_14, hi_14⟩ := id hl_14
        refine y_astore (lv' := [(4, .ref (ad b (4 * i + o + 4))), (0, .ref (ad b (o))), (1, .int (iI (d))), (2, .int (iI (s))), (3, .int (iI (i)))]) hB dX0_staleFactsOn_17 (by decide) rfl ?_
        refine y_aload hB 0 dX0_staleFactsOn_19 rfl ?_
        refine y_ifnull hB dX0_staleFactsOn_21 ?_
        refine y_aload hB 0 dX0_staleFactsOn_24 rfl ?_
        refine y_iconst (v := 3) hB dX0_staleFactsOn_26 rfl ?_
        refine m_V hB msX2_isIn q244 (tX2_isIn _ G b C S (4 * i + o + 4) 3 (hq_14).1 (by omega) (by omega)) (t := 5) (hq_14).1 (by decide) rfl rfl rfl rfl rfl ⟨Nat.le_of_ble_eq_true rfl, Nat.le_of_ble_eq_true rfl⟩ (Nat.le_of_ble_eq_true rfl) ⟨rfl, rfl⟩ ⟨Nat.le_of_ble_eq_true rfl, Nat.le_of_ble_eq_true rfl⟩ dX0_staleFactsOn_27 (k_RI (fun v_27 h_27 => ?_))
        refine y_if_ne hB 43 dX0_staleFactsOn_30 (by decide) (by omega) (fun c_30 => ?_) (fun c_30 => ?_)
        · refine y_iinc (v := i + 1) (lv' := [(3, .int (iI (i + 1))), (4, .ref (ad b (4 * i + o + 4))), (0, .ref (ad b (o))), (1, .int (iI (d))), (2, .int (iI (s)))]) hB 4 dX0_staleFactsOn_43 rfl (by omega) (by decide) rfl ?_
          refine y_goto hB 4 dX0_staleFactsOn_46 (by decide) ?_
          refine y_sub (lv' := [(0, .ref (ad b (o))), (1, .int (iI (d))), (2, .int (iI (s))), (3, .int (iI (i + 1)))]) [2, 3, 4, 0] rfl ?_
          exact ih_4 (i + 1) s (by omega) (by rw [smI_s _ hi.1, ← hv, if_pos (by omega)]; omega) (by omega)
        · refine y_iload_n hB 3 dX0_staleFactsOn_33 rfl rfl ?_
          refine y_aload_n hB 1 dX0_staleFactsOn_34 rfl rfl ?_
          refine y_aload hB 0 dX0_staleFactsOn_35 rfl ?_
          refine y_iload_n hB 2 dX0_staleFactsOn_37 rfl rfl ?_
          refine m_V hB msX0_staleFactsOf q308 (tX0_staleFactsOf _ G b C S o (4 * i + o + 4) d N ho hq_14 hD hl_14 hN (by omega)) (t := 1) (ho).1 (by decide) rfl rfl rfl rfl rfl ⟨Nat.le_of_ble_eq_true rfl, Nat.le_of_ble_eq_true rfl⟩ (Nat.le_of_ble_eq_true rfl) ⟨rfl, rfl⟩ ⟨Nat.le_of_ble_eq_true rfl, Nat.le_of_ble_eq_true rfl⟩ dX0_staleFactsOn_38 (k_RI (fun v_38 h_38 => ?_))
          refine y_iadd (t := s + v_38) hB dX0_staleFactsOn_41 (by omega) ?_
          refine y_istore_n (lv' := [(2, .int (iI (s + v_38))), (4, .ref (ad b (4 * i + o + 4))), (0, .ref (ad b (o))), (1, .int (iI (d))), (3, .int (iI (i)))]) hB dX0_staleFactsOn_42 rfl (by decide) rfl ?_
          refine y_iinc (v := i + 1) (lv' := [(3, .int (iI (i + 1))), (2, .int (iI (s + v_38))), (4, .ref (ad b (4 * i + o + 4))), (0, .ref (ad b (o))), (1, .int (iI (d)))]) hB 4 dX0_staleFactsOn_43 rfl (by omega) (by decide) rfl ?_
          refine y_goto hB 4 dX0_staleFactsOn_46 (by decide) ?_
          refine y_sub (lv' := [(0, .ref (ad b (o))), (1, .int (iI (d))), (2, .int (iI (s + v_38))), (3, .int (iI (i + 1)))]) [3, 4, 1, 0] rfl ?_
          exact ih_4 (i + 1) (s + v_38) (by omega) (by rw [smI_s _ hi.1, ← hv, if_neg (by omega), h_38]) (by omega)
  refine y_sub (lv' := [(0, .ref (ad b (o))), (1, .int (iI (d))), (2, .int (iI (0))), (3, .int (iI (0)))]) [2, 3, 1, 0] rfl ?_
  exact LOOP_4 ((C o 3).toNat + 1) 0 0 (by omega) (smI_0 _).symm (by omega)
set_option maxHeartbeats 4000000 in
theorem tX0_factsFrom (l : Launch) (G : gG) (b : Nat) (C S : gM) (o u N : Int) (ho : isDesk o) (hD : DkOk C o N) (hN : N ≤ 512) (hu : 0 ≤ u ∧ u ≤ 5) : Ct l G b yX0_factsFrom cX0_factsFrom 6 (some .int) rmX0_factsFrom [.ref (ad b (o)), .int (iI (u))] 578 (wM G b C S) (RI G b C S (fun v => v = smI (fun i => smI (fun j => if C (4 * i + o + 5) j = u then 1 else 0) (C (4 * i + o + 4) 6)) (C o 3))) := by
  refine CtK_of (by decide) (Nat.le_of_ble_eq_true rfl) q525 ?_
  intro x hl hB hE _
  subst hl
  show YM x G b 0 0 C S 0 [(0, .ref (ad b (o))), (1, .int (iI (u)))] []
  obtain ⟨hd3, hd4, hd5, hd6, hs0, hs1, hs2, hs3, hs4, htr, hlv⟩ := id hD
  refine y_iconst (v := 0) hB dX0_factsFrom_0 rfl ?_
  refine y_istore_n (lv' := [(2, .int (iI (0))), (0, .ref (ad b (o))), (1, .int (iI (u)))]) hB dX0_factsFrom_1 rfl (by decide) rfl ?_
  refine y_iconst (v := 0) hB dX0_factsFrom_2 rfl ?_
  refine y_istore_n (lv' := [(3, .int (iI (0))), (2, .int (iI (0))), (0, .ref (ad b (o))), (1, .int (iI (u)))]) hB dX0_factsFrom_3 rfl (by decide) rfl ?_
  have LOOP_4 : ∀ (fu : Nat) (i s : Int), (0 ≤ i ∧ i ≤ C o 3) → (s = smI (fun i => smI (fun j => if C (4 * i + o + 5) j = u then 1 else 0) (C (4 * i + o + 4) 6)) i) → C o 3 - i < (fu : Int) → YM x G b 0 0 C S 4 [(0, .ref (ad b (o))), (1, .int (iI (u))), (2, .int (iI (s))), (3, .int (iI (i)))] [] := by
    intro fu
    induction fu with
    | zero => intro i s hi hv hm_4; exfalso; omega
    | succ fu ih_4 =>
      intro i s hi hv hm_4
      refine y_iload_n hB 3 dX0_factsFrom_4 rfl rfl ?_
      refine y_aload_n hB 0 dX0_factsFrom_5 rfl rfl ?_
      refine gt_0_3 hB (ho).1 (t1 := C o 3) rfl dX0_factsFrom_6 ?_
      refine y_icmp_ge hB 63 dX0_factsFrom_9 (by decide) (by omega) (by omega) (fun c_9 => ?_) (fun c_9 => ?_)
      · refine y_iload_n hB 2 dX0_factsFrom_63 rfl rfl ?_
        exact m_ri hB hE dX0_factsFrom_64 rfl (by rw [hv, show i = C o 3 by omega])
      · refine y_aload_n hB 0 dX0_factsFrom_12 rfl rfl ?_
        refine y_iload_n hB 3 dX0_factsFrom_13 rfl rfl ?_
        refine m_V hB msX0_lifeOf q214 (tX0_lifeOf _ G b C S o i (4 * i + o + 4) ho (by omega) (by omega) (by omega)) (t := 1) (ho).1 (by decide) rfl rfl rfl rfl rfl ⟨Nat.le_of_ble_eq_true rfl, Nat.le_of_ble_eq_true rfl⟩ (Nat.le_of_ble_eq_true rfl) ⟨rfl, rfl⟩ ⟨Nat.le_of_ble_eq_true rfl, Nat.le_of_ble_eq_true rfl⟩ dX0_factsFrom_14 (k_RR ?_)
        have hq_14 : isLife (4 * i + o + 4) := life_at ho (i := i) (by omega) (by omega)
        have hl_14 := hlv (i) (by omega) (by omega)
        obtain ⟨ha_14, hb_14, hc_14, hd_14, he_14, hf_14, hg_14, hh_14, hi_14⟩ := id hl_14
        refine y_astore (lv' := [(4, .ref (ad b (4 * i + o + 4))), (0, .ref (ad b (o))), (1, .int (iI (u))), (2, .int (iI (s))), (3, .int (iI (i)))]) hB dX0_factsFrom_17 (by decide) rfl ?_
        refine y_iconst (v := 0) hB dX0_factsFrom_19 rfl ?_
        refine y_istore (lv' := [(5, .int (iI (0))), (4, .ref (ad b (4 * i + o + 4))), (0, .ref (ad b (o))), (1, .int (iI (u))), (2, .int (iI (s))), (3, .int (iI (i)))]) hB dX0_factsFrom_20 (by decide) rfl ?_
        have LOOP_22 : ∀ (fu : Nat) (j t : Int), (0 ≤ j ∧ j ≤ C (4 * i + o + 4) 6) → (t = s + smI (fun j => if C (4 * i + o + 5) j = u then 1 else 0) j) → C (4 * i + o + 4) 6 - j < (fu : Int) → YM x G b 0 0 C S 22 [(0, .ref (ad b (o))), (1, .int (iI (u))), (2, .int (iI (t))), (3, .int (iI (i))), (4, .ref (ad b (4 * i + o + 4))), (5, .int (iI (j)))] [] := by
          intro fu
          induction fu with
          | zero => intro j t hj ht hm_22; exfalso; omega
          | succ fu ih_22 =>
            intro j t hj ht hm_22
            refine y_aload hB 4 dX0_factsFrom_22 rfl ?_
            refine y_ifnull hB dX0_factsFrom_24 ?_
            refine y_iload hB 5 dX0_factsFrom_27 rfl ?_
            refine y_aload hB 4 dX0_factsFrom_29 rfl ?_
            refine m_V hB msX2_size q252 (tX2_size _ G b C S (4 * i + o + 4) (hq_14).1) (t := 5) (hq_14).1 (by decide) rfl rfl rfl rfl rfl ⟨Nat.le_of_ble_eq_true rfl, Nat.le_of_ble_eq_true rfl⟩ (Nat.le_of_ble_eq_true rfl) ⟨rfl, rfl⟩ ⟨Nat.le_of_ble_eq_true rfl, Nat.le_of_ble_eq_true rfl⟩ dX0_factsFrom_31 (k_RI (fun v_31 h_31 => ?_))
            refine y_icmp_ge hB 57 dX0_factsFrom_34 (by decide) (by omega) (by omega) (fun c_34 => ?_) (fun c_34 => ?_)
            · refine y_iinc (v := i + 1) (lv' := [(3, .int (iI (i + 1))), (0, .ref (ad b (o))), (1, .int (iI (u))), (2, .int (iI (t))), (4, .ref (ad b (4 * i + o + 4))), (5, .int (iI (j)))]) hB 3 dX0_factsFrom_57 rfl (by omega) (by decide) rfl ?_
              refine y_goto hB 4 dX0_factsFrom_60 (by decide) ?_
              refine y_sub (lv' := [(0, .ref (ad b (o))), (1, .int (iI (u))), (2, .int (iI (t))), (3, .int (iI (i + 1)))]) [1, 2, 3, 0] rfl ?_
              exact ih_4 (i + 1) t (by omega) (by rw [smI_s _ hi.1, ← hv, ht, show j = C (4 * i + o + 4) 6 by omega]) (by omega)
            · refine y_aload hB 4 dX0_factsFrom_37 rfl ?_
              refine y_iload hB 5 dX0_factsFrom_39 rfl ?_
              refine m_V hB msX2_sourceOf q272 (tX2_sourceOf _ G b C S (4 * i + o + 4) j hq_14 (by omega) (by omega)) (t := 5) (hq_14).1 (by decide) rfl rfl rfl rfl rfl ⟨Nat.le_of_ble_eq_true rfl, Nat.le_of_ble_eq_true rfl⟩ (Nat.le_of_ble_eq_true rfl) ⟨rfl, rfl⟩ ⟨Nat.le_of_ble_eq_true rfl, Nat.le_of_ble_eq_true rfl⟩ dX0_factsFrom_41 (k_RI (fun v_41 h_41 => ?_))
              have hr_41 := (hi_14 j (by omega) (by omega)).1
              rw [show 4 * i + o + 4 + 1 = 4 * i + o + 5 by omega] at hr_41
              rw [show 4 * i + o + 4 + 1 = 4 * i + o + 5 by omega] at h_41
              refine y_iload_n hB 1 dX0_factsFrom_44 rfl rfl ?_
              refine y_icmp_ne hB 51 dX0_factsFrom_45 (by decide) (by omega) (by omega) (fun c_45 => ?_) (fun c_45 => ?_)
              · refine y_iinc (v := j + 1) (lv' := [(5, .int (iI (j + 1))), (0, .ref (ad b (o))), (1, .int (iI (u))), (2, .int (iI (t))), (3, .int (iI (i))), (4, .ref (ad b (4 * i + o + 4)))]) hB 5 dX0_factsFrom_51 rfl (by omega) (by decide) rfl ?_
                refine y_goto hB 22 dX0_factsFrom_54 (by decide) ?_
                refine y_sub (lv' := [(0, .ref (ad b (o))), (1, .int (iI (u))), (2, .int (iI (t))), (3, .int (iI (i))), (4, .ref (ad b (4 * i + o + 4))), (5, .int (iI (j + 1)))]) [1, 2, 3, 4, 5, 0] rfl ?_
                exact ih_22 (j + 1) (t) (by omega) (by rw [smI_s _ hj.1, if_neg (by omega)]; omega) (by omega)
              · refine y_iinc (v := t + 1) (lv' := [(2, .int (iI (t + 1))), (0, .ref (ad b (o))), (1, .int (iI (u))), (3, .int (iI (i))), (4, .ref (ad b (4 * i + o + 4))), (5, .int (iI (j)))]) hB 2 dX0_factsFrom_48 rfl (by omega) (by decide) rfl ?_
                refine y_iinc (v := j + 1) (lv' := [(5, .int (iI (j + 1))), (2, .int (iI (t + 1))), (0, .ref (ad b (o))), (1, .int (iI (u))), (3, .int (iI (i))), (4, .ref (ad b (4 * i + o + 4)))]) hB 5 dX0_factsFrom_51 rfl (by omega) (by decide) rfl ?_
                refine y_goto hB 22 dX0_factsFrom_54 (by decide) ?_
                refine y_sub (lv' := [(0, .ref (ad b (o))), (1, .int (iI (u))), (2, .int (iI (t + 1))), (3, .int (iI (i))), (4, .ref (ad b (4 * i + o + 4))), (5, .int (iI (j + 1)))]) [2, 3, 1, 4, 5, 0] rfl ?_
                exact ih_22 (j + 1) (t + 1) (by omega) (by rw [smI_s _ hj.1, if_pos (by omega)]; omega) (by omega)
        refine y_sub (lv' := [(0, .ref (ad b (o))), (1, .int (iI (u))), (2, .int (iI (s))), (3, .int (iI (i))), (4, .ref (ad b (4 * i + o + 4))), (5, .int (iI (0)))]) [2, 3, 4, 5, 1, 0] rfl ?_
        exact LOOP_22 ((C (4 * i + o + 4) 6).toNat + 1) 0 s (by omega) (by rw [smI_0]; omega) (by omega)
  refine y_sub (lv' := [(0, .ref (ad b (o))), (1, .int (iI (u))), (2, .int (iI (0))), (3, .int (iI (0)))]) [2, 3, 1, 0] rfl ?_
  exact LOOP_4 ((C o 3).toNat + 1) 0 0 (by omega) (smI_0 _).symm (by omega)
set_option maxHeartbeats 4000000 in
theorem tX0_staleFactsFrom (l : Launch) (G : gG) (b : Nat) (C S : gM) (o u N : Int) (ho : isDesk o) (hD : DkOk C o N) (hN : N ≤ 512) (hu : 0 ≤ u ∧ u ≤ 5) : Ct l G b yX0_staleFactsFrom cX0_staleFactsFrom 6 (some .int) rmX0_staleFactsFrom [.ref (ad b (o)), .int (iI (u))] 578 (wM G b C S) (RI G b C S (fun v => v = smI (fun i => smI (fun j => if C (4 * i + o + 5) j = u then fst C o (4 * i + o + 4) (C o 4) j else 0) (C (4 * i + o + 4) 6)) (C o 3))) := by
  refine CtK_of (by decide) (Nat.le_of_ble_eq_true rfl) q529 ?_
  intro x hl hB hE _
  subst hl
  show YM x G b 0 0 C S 0 [(0, .ref (ad b (o))), (1, .int (iI (u)))] []
  obtain ⟨hd3, hd4, hd5, hd6, hs0, hs1, hs2, hs3, hs4, htr, hlv⟩ := id hD
  refine y_iconst (v := 0) hB dX0_staleFactsFrom_0 rfl ?_
  refine y_istore_n (lv' := [(2, .int (iI (0))), (0, .ref (ad b (o))), (1, .int (iI (u)))]) hB dX0_staleFactsFrom_1 rfl (by decide) rfl ?_
  refine y_iconst (v := 0) hB dX0_staleFactsFrom_2 rfl ?_
  refine y_istore_n (lv' := [(3, .int (iI (0))), (2, .int (iI (0))), (0, .ref (ad b (o))), (1, .int (iI (u)))]) hB dX0_staleFactsFrom_3 rfl (by decide) rfl ?_
  have LOOP_4 : ∀ (fu : Nat) (i s : Int), (0 ≤ i ∧ i ≤ C o 3) → (s = smI (fun i => smI (fun j => if C (4 * i + o + 5) j = u then fst C o (4 * i + o + 4) (C o 4) j else 0) (C (4 * i + o + 4) 6)) i) → C o 3 - i < (fu : Int) → YM x G b 0 0 C S 4 [(0, .ref (ad b (o))), (1, .int (iI (u))), (2, .int (iI (s))), (3, .int (iI (i)))] [] := by
    intro fu
    induction fu with
    | zero => intro i s hi hv hm_4; exfalso; omega
    | succ fu ih_4 =>
      intro i s hi hv hm_4
      refine y_iload_n hB 3 dX0_staleFactsFrom_4 rfl rfl ?_
      refine y_aload_n hB 0 dX0_staleFactsFrom_5 rfl rfl ?_
      refine gt_0_3 hB (ho).1 (t1 := C o 3) rfl dX0_staleFactsFrom_6 ?_
      refine y_icmp_ge hB 74 dX0_staleFactsFrom_9 (by decide) (by omega) (by omega) (fun c_9 => ?_) (fun c_9 => ?_)
      · refine y_iload_n hB 2 dX0_staleFactsFrom_74 rfl rfl ?_
        exact m_ri hB hE dX0_staleFactsFrom_75 rfl (by rw [hv, show i = C o 3 by omega])
      · refine y_aload_n hB 0 dX0_staleFactsFrom_12 rfl rfl ?_
        refine y_iload_n hB 3 dX0_staleFactsFrom_13 rfl rfl ?_
        refine m_V hB msX0_lifeOf q214 (tX0_lifeOf _ G b C S o i (4 * i + o + 4) ho (by omega) (by omega) (by omega)) (t := 1) (ho).1 (by decide) rfl rfl rfl rfl rfl ⟨Nat.le_of_ble_eq_true rfl, Nat.le_of_ble_eq_true rfl⟩ (Nat.le_of_ble_eq_true rfl) ⟨rfl, rfl⟩ ⟨Nat.le_of_ble_eq_true rfl, Nat.le_of_ble_eq_true rfl⟩ dX0_staleFactsFrom_14 (k_RR ?_)
        have hq_14 : isLife (4 * i + o + 4) := life_at ho (i := i) (by omega) (by omega)
        have hl_14 := hlv (i) (by omega) (by omega)
        obtain ⟨ha_14, hb_14, hc_14, hd_14, he_14, hf_14, hg_14, hh_14, hi_14⟩ := id hl_14
        refine y_astore (lv' := [(4, .ref (ad b (4 * i + o + 4))), (0, .ref (ad b (o))), (1, .int (iI (u))), (2, .int (iI (s))), (3, .int (iI (i)))]) hB dX0_staleFactsFrom_17 (by decide) rfl ?_
        refine y_iconst (v := 0) hB dX0_staleFactsFrom_19 rfl ?_
        refine y_istore (lv' := [(5, .int (iI (0))), (4, .ref (ad b (4 * i + o + 4))), (0, .ref (ad b (o))), (1, .int (iI (u))), (2, .int (iI (s))), (3, .int (iI (i)))]) hB dX0_staleFactsFrom_20 (by decide) rfl ?_
        have LOOP_22 : ∀ (fu : Nat) (j t : Int), (0 ≤ j ∧ j ≤ C (4 * i + o + 4) 6) → (t = s + smI (fun j => if C (4 * i + o + 5) j = u then fst C o (4 * i + o + 4) (C o 4) j else 0) j) → C (4 * i + o + 4) 6 - j < (fu : Int) → YM x G b 0 0 C S 22 [(0, .ref (ad b (o))), (1, .int (iI (u))), (2, .int (iI (t))), (3, .int (iI (i))), (4, .ref (ad b (4 * i + o + 4))), (5, .int (iI (j)))] [] := by
          intro fu
          induction fu with
          | zero => intro j t hj ht hm_22; exfalso; omega
          | succ fu ih_22 =>
            intro j t hj ht hm_22
            refine y_aload hB 4 dX0_staleFactsFrom_22 rfl ?_
            refine y_ifnull hB dX0_staleFactsFrom_24 ?_
            refine y_iload hB 5 dX0_staleFactsFrom_27 rfl ?_
            refine y_aload hB 4 dX0_staleFactsFrom_29 rfl ?_
            refine m_V hB msX2_size q252 (tX2_size _ G b C S (4 * i + o + 4) (hq_14).1) (t := 5) (hq_14).1 (by decide) rfl rfl rfl rfl rfl ⟨Nat.le_of_ble_eq_true rfl, Nat.le_of_ble_eq_true rfl⟩ (Nat.le_of_ble_eq_true rfl) ⟨rfl, rfl⟩ ⟨Nat.le_of_ble_eq_true rfl, Nat.le_of_ble_eq_true rfl⟩ dX0_staleFactsFrom_31 (k_RI (fun v_31 h_31 => ?_))
            refine y_icmp_ge hB 68 dX0_staleFactsFrom_34 (by decide) (by omega) (by omega) (fun c_34 => ?_) (fun c_34 => ?_)
            · refine y_iinc (v := i + 1) (lv' := [(3, .int (iI (i + 1))), (0, .ref (ad b (o))), (1, .int (iI (u))), (2, .int (iI (t))), (4, .ref (ad b (4 * i + o + 4))), (5, .int (iI (j)))]) hB 3 dX0_staleFactsFrom_68 rfl (by omega) (by decide) rfl ?_
              refine y_goto hB 4 dX0_staleFactsFrom_71 (by decide) ?_
              refine y_sub (lv' := [(0, .ref (ad b (o))), (1, .int (iI (u))), (2, .int (iI (t))), (3, .int (iI (i + 1)))]) [1, 2, 3, 0] rfl ?_
              exact ih_4 (i + 1) t (by omega) (by rw [smI_s _ hi.1, ← hv, ht, show j = C (4 * i + o + 4) 6 by omega]) (by omega)
            · refine y_aload hB 4 dX0_staleFactsFrom_37 rfl ?_
              refine y_iload hB 5 dX0_staleFactsFrom_39 rfl ?_
              refine m_V hB msX2_sourceOf q272 (tX2_sourceOf _ G b C S (4 * i + o + 4) j hq_14 (by omega) (by omega)) (t := 5) (hq_14).1 (by decide) rfl rfl rfl rfl rfl ⟨Nat.le_of_ble_eq_true rfl, Nat.le_of_ble_eq_true rfl⟩ (Nat.le_of_ble_eq_true rfl) ⟨rfl, rfl⟩ ⟨Nat.le_of_ble_eq_true rfl, Nat.le_of_ble_eq_true rfl⟩ dX0_staleFactsFrom_41 (k_RI (fun v_41 h_41 => ?_))
              have hr_41 := (hi_14 j (by omega) (by omega)).1
              rw [show 4 * i + o + 4 + 1 = 4 * i + o + 5 by omega] at hr_41
              rw [show 4 * i + o + 4 + 1 = 4 * i + o + 5 by omega] at h_41
              refine y_iload_n hB 1 dX0_staleFactsFrom_44 rfl rfl ?_
              refine y_icmp_ne hB 62 dX0_staleFactsFrom_45 (by decide) (by omega) (by omega) (fun c_45 => ?_) (fun c_45 => ?_)
              · have hz : (if C (4 * i + o + 5) j = u then fst C o (4 * i + o + 4) (C o 4) j else 0) = 0 := if_neg (by omega)
                refine y_iinc (v := j + 1) (lv' := [(5, .int (iI (j + 1))), (0, .ref (ad b (o))), (1, .int (iI (u))), (2, .int (iI (t))), (3, .int (iI (i))), (4, .ref (ad b (4 * i + o + 4)))]) hB 5 dX0_staleFactsFrom_62 rfl (by omega) (by decide) rfl ?_
                refine y_goto hB 22 dX0_staleFactsFrom_65 (by decide) ?_
                refine y_sub (lv' := [(0, .ref (ad b (o))), (1, .int (iI (u))), (2, .int (iI (t))), (3, .int (iI (i))), (4, .ref (ad b (4 * i + o + 4))), (5, .int (iI (j + 1)))]) [1, 2, 3, 4, 5, 0] rfl ?_
                exact ih_22 (j + 1) t (by omega) (by rw [smI_s _ hj.1, hz]; omega) (by omega)
              · refine y_aload_n hB 0 dX0_staleFactsFrom_48 rfl rfl ?_
                refine y_aload hB 4 dX0_staleFactsFrom_49 rfl ?_
                refine y_iload hB 5 dX0_staleFactsFrom_51 rfl ?_
                refine m_V hB msX0_isStale q264 (tX0_isStale _ G b C S o (4 * i + o + 4) j N ho hq_14 hD hl_14 hN (by omega)) (t := 1) (ho).1 (by decide) rfl rfl rfl rfl rfl ⟨Nat.le_of_ble_eq_true rfl, Nat.le_of_ble_eq_true rfl⟩ (Nat.le_of_ble_eq_true rfl) ⟨rfl, rfl⟩ ⟨Nat.le_of_ble_eq_true rfl, Nat.le_of_ble_eq_true rfl⟩ dX0_staleFactsFrom_53 (k_RI (fun v_53 h_53 => ?_))
                have hz_53 := fst_b C o (4 * i + o + 4) (C o 4) j
                refine y_if_eq hB 62 dX0_staleFactsFrom_56 (by decide) (by omega) (fun c_56 => ?_) (fun c_56 => ?_)
                · have hz : (if C (4 * i + o + 5) j = u then fst C o (4 * i + o + 4) (C o 4) j else 0) = 0 := by rw [if_pos (by omega), ← h_53]; omega
                  refine y_iinc (v := j + 1) (lv' := [(5, .int (iI (j + 1))), (0, .ref (ad b (o))), (1, .int (iI (u))), (2, .int (iI (t))), (3, .int (iI (i))), (4, .ref (ad b (4 * i + o + 4)))]) hB 5 dX0_staleFactsFrom_62 rfl (by omega) (by decide) rfl ?_
                  refine y_goto hB 22 dX0_staleFactsFrom_65 (by decide) ?_
                  refine y_sub (lv' := [(0, .ref (ad b (o))), (1, .int (iI (u))), (2, .int (iI (t))), (3, .int (iI (i))), (4, .ref (ad b (4 * i + o + 4))), (5, .int (iI (j + 1)))]) [1, 2, 3, 4, 5, 0] rfl ?_
                  exact ih_22 (j + 1) t (by omega) (by rw [smI_s _ hj.1, hz]; omega) (by omega)
                · refine y_iinc (v := t + 1) (lv' := [(2, .int (iI (t + 1))), (0, .ref (ad b (o))), (1, .int (iI (u))), (3, .int (iI (i))), (4, .ref (ad b (4 * i + o + 4))), (5, .int (iI (j)))]) hB 2 dX0_staleFactsFrom_59 rfl (by omega) (by decide) rfl ?_
                  refine y_iinc (v := j + 1) (lv' := [(5, .int (iI (j + 1))), (2, .int (iI (t + 1))), (0, .ref (ad b (o))), (1, .int (iI (u))), (3, .int (iI (i))), (4, .ref (ad b (4 * i + o + 4)))]) hB 5 dX0_staleFactsFrom_62 rfl (by omega) (by decide) rfl ?_
                  refine y_goto hB 22 dX0_staleFactsFrom_65 (by decide) ?_
                  refine y_sub (lv' := [(0, .ref (ad b (o))), (1, .int (iI (u))), (2, .int (iI (t + 1))), (3, .int (iI (i))), (4, .ref (ad b (4 * i + o + 4))), (5, .int (iI (j + 1)))]) [2, 3, 1, 4, 5, 0] rfl ?_
                  exact ih_22 (j + 1) (t + 1) (by omega) (by rw [smI_s _ hj.1, if_pos (by omega), ← h_53]; omega) (by omega)
        refine y_sub (lv' := [(0, .ref (ad b (o))), (1, .int (iI (u))), (2, .int (iI (s))), (3, .int (iI (i))), (4, .ref (ad b (4 * i + o + 4))), (5, .int (iI (0)))]) [2, 3, 4, 5, 1, 0] rfl ?_
        exact LOOP_22 ((C (4 * i + o + 4) 6).toNat + 1) 0 s (by omega) (by rw [smI_0]; omega) (by omega)
  refine y_sub (lv' := [(0, .ref (ad b (o))), (1, .int (iI (u))), (2, .int (iI (0))), (3, .int (iI (0)))]) [2, 3, 1, 0] rfl ?_
  exact LOOP_4 ((C o 3).toNat + 1) 0 0 (by omega) (smI_0 _).symm (by omega)
set_option maxHeartbeats 4000000 in
theorem tX0_linesFrom (l : Launch) (G : gG) (b : Nat) (C S : gM) (o u N : Int) (ho : isDesk o) (hD : DkOk C o N) (hN : N ≤ 512) (hu : 0 ≤ u ∧ u ≤ 5) : Ct l G b yX0_linesFrom cX0_linesFrom 6 (some .int) rmX0_linesFrom [.ref (ad b (o)), .int (iI (u))] 578 (wM G b C S) (RI G b C S (fun v => v = smI (fun i => smI (fun j => if C (4 * i + o + 5) j = u then C (4 * i + o + 6) j else 0) (C (4 * i + o + 4) 6)) (C o 3))) := by
  refine CtK_of (by decide) (Nat.le_of_ble_eq_true rfl) q533 ?_
  intro x hl hB hE _
  subst hl
  show YM x G b 0 0 C S 0 [(0, .ref (ad b (o))), (1, .int (iI (u)))] []
  obtain ⟨hd3, hd4, hd5, hd6, hs0, hs1, hs2, hs3, hs4, htr, hlv⟩ := id hD
  refine y_iconst (v := 0) hB dX0_linesFrom_0 rfl ?_
  refine y_istore_n (lv' := [(2, .int (iI (0))), (0, .ref (ad b (o))), (1, .int (iI (u)))]) hB dX0_linesFrom_1 rfl (by decide) rfl ?_
  refine y_iconst (v := 0) hB dX0_linesFrom_2 rfl ?_
  refine y_istore_n (lv' := [(3, .int (iI (0))), (2, .int (iI (0))), (0, .ref (ad b (o))), (1, .int (iI (u)))]) hB dX0_linesFrom_3 rfl (by decide) rfl ?_
  have LOOP_4 : ∀ (fu : Nat) (i s : Int), (0 ≤ i ∧ i ≤ C o 3) → (s = smI (fun i => smI (fun j => if C (4 * i + o + 5) j = u then C (4 * i + o + 6) j else 0) (C (4 * i + o + 4) 6)) i) → C o 3 - i < (fu : Int) → YM x G b 0 0 C S 4 [(0, .ref (ad b (o))), (1, .int (iI (u))), (2, .int (iI (s))), (3, .int (iI (i)))] [] := by
    intro fu
    induction fu with
    | zero => intro i s hi hv hm_4; exfalso; omega
    | succ fu ih_4 =>
      intro i s hi hv hm_4
      refine y_iload_n hB 3 dX0_linesFrom_4 rfl rfl ?_
      refine y_aload_n hB 0 dX0_linesFrom_5 rfl rfl ?_
      refine gt_0_3 hB (ho).1 (t1 := C o 3) rfl dX0_linesFrom_6 ?_
      refine y_icmp_ge hB 70 dX0_linesFrom_9 (by decide) (by omega) (by omega) (fun c_9 => ?_) (fun c_9 => ?_)
      · refine y_iload_n hB 2 dX0_linesFrom_70 rfl rfl ?_
        exact m_ri hB hE dX0_linesFrom_71 rfl (by rw [hv, show i = C o 3 by omega])
      · refine y_aload_n hB 0 dX0_linesFrom_12 rfl rfl ?_
        refine y_iload_n hB 3 dX0_linesFrom_13 rfl rfl ?_
        refine m_V hB msX0_lifeOf q214 (tX0_lifeOf _ G b C S o i (4 * i + o + 4) ho (by omega) (by omega) (by omega)) (t := 1) (ho).1 (by decide) rfl rfl rfl rfl rfl ⟨Nat.le_of_ble_eq_true rfl, Nat.le_of_ble_eq_true rfl⟩ (Nat.le_of_ble_eq_true rfl) ⟨rfl, rfl⟩ ⟨Nat.le_of_ble_eq_true rfl, Nat.le_of_ble_eq_true rfl⟩ dX0_linesFrom_14 (k_RR ?_)
        have hq_14 : isLife (4 * i + o + 4) := life_at ho (i := i) (by omega) (by omega)
        have hl_14 := hlv (i) (by omega) (by omega)
        obtain ⟨ha_14, hb_14, hc_14, hd_14, he_14, hf_14, hg_14, hh_14, hi_14⟩ := id hl_14
        refine y_astore (lv' := [(4, .ref (ad b (4 * i + o + 4))), (0, .ref (ad b (o))), (1, .int (iI (u))), (2, .int (iI (s))), (3, .int (iI (i)))]) hB dX0_linesFrom_17 (by decide) rfl ?_
        refine y_iconst (v := 0) hB dX0_linesFrom_19 rfl ?_
        refine y_istore (lv' := [(5, .int (iI (0))), (4, .ref (ad b (4 * i + o + 4))), (0, .ref (ad b (o))), (1, .int (iI (u))), (2, .int (iI (s))), (3, .int (iI (i)))]) hB dX0_linesFrom_20 (by decide) rfl ?_
        have LOOP_22 : ∀ (fu : Nat) (j t : Int), (0 ≤ j ∧ j ≤ C (4 * i + o + 4) 6) → (t = s + smI (fun j => if C (4 * i + o + 5) j = u then C (4 * i + o + 6) j else 0) j) → C (4 * i + o + 4) 6 - j < (fu : Int) → YM x G b 0 0 C S 22 [(0, .ref (ad b (o))), (1, .int (iI (u))), (2, .int (iI (t))), (3, .int (iI (i))), (4, .ref (ad b (4 * i + o + 4))), (5, .int (iI (j)))] [] := by
          intro fu
          induction fu with
          | zero => intro j t hj ht hm_22; exfalso; omega
          | succ fu ih_22 =>
            intro j t hj ht hm_22
            refine y_aload hB 4 dX0_linesFrom_22 rfl ?_
            refine y_ifnull hB dX0_linesFrom_24 ?_
            refine y_iload hB 5 dX0_linesFrom_27 rfl ?_
            refine y_aload hB 4 dX0_linesFrom_29 rfl ?_
            refine m_V hB msX2_size q252 (tX2_size _ G b C S (4 * i + o + 4) (hq_14).1) (t := 5) (hq_14).1 (by decide) rfl rfl rfl rfl rfl ⟨Nat.le_of_ble_eq_true rfl, Nat.le_of_ble_eq_true rfl⟩ (Nat.le_of_ble_eq_true rfl) ⟨rfl, rfl⟩ ⟨Nat.le_of_ble_eq_true rfl, Nat.le_of_ble_eq_true rfl⟩ dX0_linesFrom_31 (k_RI (fun v_31 h_31 => ?_))
            refine y_icmp_ge hB 64 dX0_linesFrom_34 (by decide) (by omega) (by omega) (fun c_34 => ?_) (fun c_34 => ?_)
            · refine y_iinc (v := i + 1) (lv' := [(3, .int (iI (i + 1))), (0, .ref (ad b (o))), (1, .int (iI (u))), (2, .int (iI (t))), (4, .ref (ad b (4 * i + o + 4))), (5, .int (iI (j)))]) hB 3 dX0_linesFrom_64 rfl (by omega) (by decide) rfl ?_
              refine y_goto hB 4 dX0_linesFrom_67 (by decide) ?_
              refine y_sub (lv' := [(0, .ref (ad b (o))), (1, .int (iI (u))), (2, .int (iI (t))), (3, .int (iI (i + 1)))]) [1, 2, 3, 0] rfl ?_
              exact ih_4 (i + 1) t (by omega) (by rw [smI_s _ hi.1, ← hv, ht, show j = C (4 * i + o + 4) 6 by omega]) (by omega)
            · refine y_aload hB 4 dX0_linesFrom_37 rfl ?_
              refine y_iload hB 5 dX0_linesFrom_39 rfl ?_
              refine m_V hB msX2_sourceOf q272 (tX2_sourceOf _ G b C S (4 * i + o + 4) j hq_14 (by omega) (by omega)) (t := 5) (hq_14).1 (by decide) rfl rfl rfl rfl rfl ⟨Nat.le_of_ble_eq_true rfl, Nat.le_of_ble_eq_true rfl⟩ (Nat.le_of_ble_eq_true rfl) ⟨rfl, rfl⟩ ⟨Nat.le_of_ble_eq_true rfl, Nat.le_of_ble_eq_true rfl⟩ dX0_linesFrom_41 (k_RI (fun v_41 h_41 => ?_))
              have hr_41 := (hi_14 j (by omega) (by omega)).1
              rw [show 4 * i + o + 4 + 1 = 4 * i + o + 5 by omega] at hr_41
              rw [show 4 * i + o + 4 + 1 = 4 * i + o + 5 by omega] at h_41
              refine y_iload_n hB 1 dX0_linesFrom_44 rfl rfl ?_
              refine y_icmp_ne hB 58 dX0_linesFrom_45 (by decide) (by omega) (by omega) (fun c_45 => ?_) (fun c_45 => ?_)
              · refine y_iinc (v := j + 1) (lv' := [(5, .int (iI (j + 1))), (0, .ref (ad b (o))), (1, .int (iI (u))), (2, .int (iI (t))), (3, .int (iI (i))), (4, .ref (ad b (4 * i + o + 4)))]) hB 5 dX0_linesFrom_58 rfl (by omega) (by decide) rfl ?_
                refine y_goto hB 22 dX0_linesFrom_61 (by decide) ?_
                refine y_sub (lv' := [(0, .ref (ad b (o))), (1, .int (iI (u))), (2, .int (iI (t))), (3, .int (iI (i))), (4, .ref (ad b (4 * i + o + 4))), (5, .int (iI (j + 1)))]) [1, 2, 3, 4, 5, 0] rfl ?_
                exact ih_22 (j + 1) (t) (by omega) (by rw [smI_s _ hj.1, if_neg (by omega)]; omega) (by omega)
              · refine y_iload_n hB 2 dX0_linesFrom_48 rfl rfl ?_
                refine y_aload hB 4 dX0_linesFrom_49 rfl ?_
                refine y_iload hB 5 dX0_linesFrom_51 rfl ?_
                refine m_V hB msX2_linesOf q534 (tX2_linesOf _ G b C S (4 * i + o + 4) j hq_14 (by omega) (by omega)) (t := 5) (hq_14).1 (by decide) rfl rfl rfl rfl rfl ⟨Nat.le_of_ble_eq_true rfl, Nat.le_of_ble_eq_true rfl⟩ (Nat.le_of_ble_eq_true rfl) ⟨rfl, rfl⟩ ⟨Nat.le_of_ble_eq_true rfl, Nat.le_of_ble_eq_true rfl⟩ dX0_linesFrom_53 (k_RI (fun v_53 h_53 => ?_))
                rw [show 4 * i + o + 4 + 2 = 4 * i + o + 6 by omega] at h_53
                refine y_iadd (t := t + v_53) hB dX0_linesFrom_56 (by omega) ?_
                refine y_istore_n (lv' := [(2, .int (iI (t + v_53))), (0, .ref (ad b (o))), (1, .int (iI (u))), (3, .int (iI (i))), (4, .ref (ad b (4 * i + o + 4))), (5, .int (iI (j)))]) hB dX0_linesFrom_57 rfl (by decide) rfl ?_
                refine y_iinc (v := j + 1) (lv' := [(5, .int (iI (j + 1))), (2, .int (iI (t + v_53))), (0, .ref (ad b (o))), (1, .int (iI (u))), (3, .int (iI (i))), (4, .ref (ad b (4 * i + o + 4)))]) hB 5 dX0_linesFrom_58 rfl (by omega) (by decide) rfl ?_
                refine y_goto hB 22 dX0_linesFrom_61 (by decide) ?_
                refine y_sub (lv' := [(0, .ref (ad b (o))), (1, .int (iI (u))), (2, .int (iI (t + v_53))), (3, .int (iI (i))), (4, .ref (ad b (4 * i + o + 4))), (5, .int (iI (j + 1)))]) [2, 3, 1, 4, 5, 0] rfl ?_
                exact ih_22 (j + 1) (t + v_53) (by omega) (by rw [smI_s _ hj.1, if_pos (by omega), ← h_53]; omega) (by omega)
        refine y_sub (lv' := [(0, .ref (ad b (o))), (1, .int (iI (u))), (2, .int (iI (s))), (3, .int (iI (i))), (4, .ref (ad b (4 * i + o + 4))), (5, .int (iI (0)))]) [2, 3, 4, 5, 1, 0] rfl ?_
        exact LOOP_22 ((C (4 * i + o + 4) 6).toNat + 1) 0 s (by omega) (by rw [smI_0]; omega) (by omega)
  refine y_sub (lv' := [(0, .ref (ad b (o))), (1, .int (iI (u))), (2, .int (iI (0))), (3, .int (iI (0)))]) [2, 3, 1, 0] rfl ?_
  exact LOOP_4 ((C o 3).toNat + 1) 0 0 (by omega) (smI_0 _).symm (by omega)
set_option maxHeartbeats 4000000 in
theorem tX0_urgencyOf (l : Launch) (G : gG) (b : Nat) (C S : gM) (o q N : Int) (ho : isDesk o) (hq : isLife q) (hD : DkOk C o N) (hl : LfOk C q (C o 4)) (hN : N ≤ 512) : Ct l G b yX0_urgencyOf cX0_urgencyOf 3 (some .int) rmX0_urgencyOf [.ref (ad b (o)), .ref (ad b (q))] 578 (wM G b C S) (RI G b C S (fun v => v = urg C o q)) := by
  refine CtK_of (by decide) (Nat.le_of_ble_eq_true rfl) q299 ?_
  intro x hl hB hE _
  subst hl
  show YM x G b 0 0 C S 0 [(0, .ref (ad b (o))), (1, .ref (ad b (q)))] []
  obtain ⟨hd3, hd4, hd5, hd6, hs0, hs1, hs2, hs3, hs4, htr, hlv⟩ := id hD
  obtain ⟨hl0, hl1, hl2, hl3, hl4, hl5, hl6, hl7, hlf⟩ := id hl
  refine y_aload_n hB 1 dX0_urgencyOf_0 rfl rfl ?_
  refine m_V hB msX2_age q300 (tX2_age _ G b C S q (hq).1) (t := 5) (hq).1 (by decide) rfl rfl rfl rfl rfl ⟨Nat.le_of_ble_eq_true rfl, Nat.le_of_ble_eq_true rfl⟩ (Nat.le_of_ble_eq_true rfl) ⟨rfl, rfl⟩ ⟨Nat.le_of_ble_eq_true rfl, Nat.le_of_ble_eq_true rfl⟩ dX0_urgencyOf_1 (k_RI (fun v_1 h_1 => ?_))
  refine y_bipush (v := 10) hB dX0_urgencyOf_4 (by decide) ?_
  refine y_aload_n hB 1 dX0_urgencyOf_6 rfl rfl ?_
  refine m_V hB msX2_rank q304 (tX2_rank _ G b C S q (hq).1) (t := 5) (hq).1 (by decide) rfl rfl rfl rfl rfl ⟨Nat.le_of_ble_eq_true rfl, Nat.le_of_ble_eq_true rfl⟩ (Nat.le_of_ble_eq_true rfl) ⟨rfl, rfl⟩ ⟨Nat.le_of_ble_eq_true rfl, Nat.le_of_ble_eq_true rfl⟩ dX0_urgencyOf_7 (k_RI (fun v_7 h_7 => ?_))
  refine y_imul (t := 10 * v_7) hB dX0_urgencyOf_10 (by omega) ?_
  refine y_iadd (t := v_1 + 10 * v_7) hB dX0_urgencyOf_11 (by omega) ?_
  refine y_iconst (v := 5) hB dX0_urgencyOf_12 rfl ?_
  refine y_aload_n hB 0 dX0_urgencyOf_13 rfl rfl ?_
  refine y_aload_n hB 1 dX0_urgencyOf_14 rfl rfl ?_
  refine y_aload_n hB 0 dX0_urgencyOf_15 rfl rfl ?_
  refine gt_0_4 hB (ho).1 (t1 := C o 4) rfl dX0_urgencyOf_16 ?_
  refine m_V hB msX0_staleFactsOf q308 (tX0_staleFactsOf _ G b C S o q (C o 4) N ho hq hD hl hN (by omega)) (t := 1) (ho).1 (by decide) rfl rfl rfl rfl rfl ⟨Nat.le_of_ble_eq_true rfl, Nat.le_of_ble_eq_true rfl⟩ (Nat.le_of_ble_eq_true rfl) ⟨rfl, rfl⟩ ⟨Nat.le_of_ble_eq_true rfl, Nat.le_of_ble_eq_true rfl⟩ dX0_urgencyOf_19 (k_RI (fun v_19 h_19 => ?_))
  have hb_19 := staleN_b C o q (C o 4) (by omega)
  refine y_imul (t := 5 * v_19) hB dX0_urgencyOf_22 (by omega) ?_
  refine y_iadd (t := v_1 + 5 * v_19 + 10 * v_7) hB dX0_urgencyOf_23 (by omega) ?_
  refine y_istore_n (lv' := [(2, .int (iI (v_1 + 5 * v_19 + 10 * v_7))), (0, .ref (ad b (o))), (1, .ref (ad b (q)))]) hB dX0_urgencyOf_24 rfl (by decide) rfl ?_
  refine y_aload_n hB 2 dX0_urgencyOf_25 rfl rfl ?_
  refine m_V hB msX2_size q252 (tX2_size _ G b C S q (hq).1) (t := 5) (hq).1 (by decide) rfl rfl rfl rfl rfl ⟨Nat.le_of_ble_eq_true rfl, Nat.le_of_ble_eq_true rfl⟩ (Nat.le_of_ble_eq_true rfl) ⟨rfl, rfl⟩ ⟨Nat.le_of_ble_eq_true rfl, Nat.le_of_ble_eq_true rfl⟩ dX0_urgencyOf_26 (k_RI (fun v_26 h_26 => ?_))
  refine y_if_ne hB 39 dX0_urgencyOf_29 (by decide) (by omega) (fun c_29 => ?_) (fun c_29 => ?_)
  · refine y_iload_n hB 0 dX0_urgencyOf_39 rfl rfl ?_
    exact m_ri hB hE dX0_urgencyOf_40 rfl (by unfold urg; rw [← h_19]; rw [if_neg (by omega)]; omega)
  · refine y_iload_n hB 0 dX0_urgencyOf_32 rfl rfl ?_
    refine y_bipush (v := 40) hB dX0_urgencyOf_33 (by decide) ?_
    refine y_iadd (t := v_1 + 5 * v_19 + 10 * v_7 + 40) hB dX0_urgencyOf_35 (by omega) ?_
    refine y_goto hB 40 dX0_urgencyOf_36 (by decide) ?_
    exact m_ri hB hE dX0_urgencyOf_40 rfl (by unfold urg; rw [← h_19]; rw [if_pos (by omega)]; omega)
set_option maxHeartbeats 4000000 in
theorem tX0_firstToCheck (l : Launch) (G : gG) (b : Nat) (C S : gM) (o q N : Int) (ho : isDesk o) (hq : isLife q) (hD : DkOk C o N) (hl : LfOk C q (C o 4)) (hN : N ≤ 512) : Ct l G b yX0_firstToCheck cX0_firstToCheck 3 (some .int) rmX0_firstToCheck [.ref (ad b (o)), .ref (ad b (q))] 578 (wM G b C S) (RI G b C S (fun v => isFirst (toChk C o q) (C q 6) v)) := by
  refine CtK_of (by decide) (Nat.le_of_ble_eq_true rfl) q251 ?_
  intro x hl hB hE _
  subst hl
  show YM x G b 0 0 C S 0 [(0, .ref (ad b (o))), (1, .ref (ad b (q)))] []
  obtain ⟨hd3, hd4, hd5, hd6, hs0, hs1, hs2, hs3, hs4, htr, hlv⟩ := id hD
  obtain ⟨hl0, hl1, hl2, hl3, hl4, hl5, hl6, hl7, hlf⟩ := id hl
  refine y_iconst (v := 0) hB dX0_firstToCheck_0 rfl ?_
  refine y_istore_n (lv' := [(2, .int (iI (0))), (0, .ref (ad b (o))), (1, .ref (ad b (q)))]) hB dX0_firstToCheck_1 rfl (by decide) rfl ?_
  have LOOP_2 : ∀ (fu : Nat) (i : Int), (0 ≤ i ∧ i ≤ C q 6) → (∀ j, 0 ≤ j → j < i → ¬ toChk C o q j) → C q 6 - i < (fu : Int) → YM x G b 0 0 C S 2 [(0, .ref (ad b (o))), (1, .ref (ad b (q))), (2, .int (iI (i)))] [] := by
    intro fu
    induction fu with
    | zero => intro i hi hv hm_2; exfalso; omega
    | succ fu ih_2 =>
      intro i hi hv hm_2
      refine y_iload_n hB 2 dX0_firstToCheck_2 rfl rfl ?_
      refine y_aload_n hB 1 dX0_firstToCheck_3 rfl rfl ?_
      refine m_V hB msX2_size q252 (tX2_size _ G b C S q (hq).1) (t := 5) (hq).1 (by decide) rfl rfl rfl rfl rfl ⟨Nat.le_of_ble_eq_true rfl, Nat.le_of_ble_eq_true rfl⟩ (Nat.le_of_ble_eq_true rfl) ⟨rfl, rfl⟩ ⟨Nat.le_of_ble_eq_true rfl, Nat.le_of_ble_eq_true rfl⟩ dX0_firstToCheck_4 (k_RI (fun v_4 h_4 => ?_))
      refine y_icmp_ge hB 39 dX0_firstToCheck_7 (by decide) (by omega) (by omega) (fun c_7 => ?_) (fun c_7 => ?_)
      · refine y_bipush (v := -5) hB dX0_firstToCheck_39 (by decide) ?_
        exact m_ri hB hE dX0_firstToCheck_41 rfl (Or.inl ⟨rfl, fun j a1 a2 => hv j a1 (by omega)⟩)
      · refine y_aload_n hB 1 dX0_firstToCheck_10 rfl rfl ?_
        refine y_iload_n hB 2 dX0_firstToCheck_11 rfl rfl ?_
        refine m_V hB msX2_dayOf q256 (tX2_dayOf _ G b C S q i hq (by omega) (by omega)) (t := 5) (hq).1 (by decide) rfl rfl rfl rfl rfl ⟨Nat.le_of_ble_eq_true rfl, Nat.le_of_ble_eq_true rfl⟩ (Nat.le_of_ble_eq_true rfl) ⟨rfl, rfl⟩ ⟨Nat.le_of_ble_eq_true rfl, Nat.le_of_ble_eq_true rfl⟩ dX0_firstToCheck_12 (k_RI (fun v_12 h_12 => ?_))
        have hf_12 := hlf i (by omega) (by omega)
        refine y_aload_n hB 0 dX0_firstToCheck_15 rfl rfl ?_
        refine gt_0_4 hB (ho).1 (t1 := C o 4) rfl dX0_firstToCheck_16 ?_
        refine y_icmp_eq hB 33 dX0_firstToCheck_19 (by decide) (by omega) (by omega) (fun c_19 => ?_) (fun c_19 => ?_)
        · refine y_iinc (v := i + 1) (lv' := [(2, .int (iI (i + 1))), (0, .ref (ad b (o))), (1, .ref (ad b (q)))]) hB 2 dX0_firstToCheck_33 rfl (by omega) (by decide) rfl ?_
          refine y_goto hB 2 dX0_firstToCheck_36 (by decide) ?_
          refine y_sub (lv' := [(0, .ref (ad b (o))), (1, .ref (ad b (q))), (2, .int (iI (i + 1)))]) [1, 2, 0] rfl ?_
          exact ih_2 (i + 1) (by omega) (fun j a1 a2 => (by rcases (show j < i ∨ j = i by omega) with a3 | a3; exact hv j a1 a3; subst a3; unfold toChk; omega)) (by omega)
        · refine y_aload_n hB 0 dX0_firstToCheck_22 rfl rfl ?_
          refine y_aload_n hB 1 dX0_firstToCheck_23 rfl rfl ?_
          refine y_iload_n hB 2 dX0_firstToCheck_24 rfl rfl ?_
          refine m_V hB msX0_isStale q264 (tX0_isStale _ G b C S o q i N ho hq hD hl hN (by omega)) (t := 1) (ho).1 (by decide) rfl rfl rfl rfl rfl ⟨Nat.le_of_ble_eq_true rfl, Nat.le_of_ble_eq_true rfl⟩ (Nat.le_of_ble_eq_true rfl) ⟨rfl, rfl⟩ ⟨Nat.le_of_ble_eq_true rfl, Nat.le_of_ble_eq_true rfl⟩ dX0_firstToCheck_25 (k_RI (fun v_25 h_25 => ?_))
          have hb_25 := fst_b C o q (C o 4) i
          refine y_if_eq hB 33 dX0_firstToCheck_28 (by decide) (by omega) (fun c_28 => ?_) (fun c_28 => ?_)
          · refine y_iinc (v := i + 1) (lv' := [(2, .int (iI (i + 1))), (0, .ref (ad b (o))), (1, .ref (ad b (q)))]) hB 2 dX0_firstToCheck_33 rfl (by omega) (by decide) rfl ?_
            refine y_goto hB 2 dX0_firstToCheck_36 (by decide) ?_
            refine y_sub (lv' := [(0, .ref (ad b (o))), (1, .ref (ad b (q))), (2, .int (iI (i + 1)))]) [1, 2, 0] rfl ?_
            exact ih_2 (i + 1) (by omega) (fun j a1 a2 => (by rcases (show j < i ∨ j = i by omega) with a3 | a3; exact hv j a1 a3; subst a3; unfold toChk; omega)) (by omega)
          · refine y_iload_n hB 2 dX0_firstToCheck_31 rfl rfl ?_
            exact m_ri hB hE dX0_firstToCheck_32 rfl (Or.inr ⟨hi.1, by omega, (by unfold toChk; omega), hv⟩)
  refine y_sub (lv' := [(0, .ref (ad b (o))), (1, .ref (ad b (q))), (2, .int (iI (0)))]) [1, 2, 0] rfl ?_
  exact LOOP_2 ((C q 6).toNat + 1) 0 (by omega) (fun j a1 a2 => by omega) (by omega)
set_option maxHeartbeats 4000000 in
theorem tX0_checkToday (l : Launch) (G : gG) (b : Nat) (C S : gM) (o q u : Int) (ho : isDesk o) (hq : isLife q) (hs : 0 ≤ C q 6 ∧ C q 6 ≤ 8) (hu : 0 ≤ u ∧ u < C q 6) (hd : o + 4 ≤ q ∨ q + 4 ≤ o) : Ct l G b yX0_checkToday cX0_checkToday 3 none rmX0_checkToday [.ref (ad b (o)), .ref (ad b (q)), .int (iI (u))] 578 (wM G b C S) (WV G b S (fun C' => C' = up2 (up2 C (q + 3) u (C o 4)) o 5 (C o 5 - 1))) := by
  refine CtK_of (by decide) (Nat.le_of_ble_eq_true rfl) q316 ?_
  intro x hl hB hE _
  subst hl
  show YM x G b 0 0 C S 0 [(0, .ref (ad b (o))), (1, .ref (ad b (q))), (2, .int (iI (u)))] []
  refine y_aload_n hB 1 dX0_checkToday_0 rfl rfl ?_
  refine y_iload_n hB 2 dX0_checkToday_1 rfl rfl ?_
  refine y_aload_n hB 0 dX0_checkToday_2 rfl rfl ?_
  refine gt_0_4 hB (ho).1 (t1 := C o 4) rfl dX0_checkToday_3 ?_
  refine m_V hB msX2_changeDay q317 (tX2_changeDay _ G b C S q u (C o 4) hq (by omega) (by omega)) (t := 5) (hq).1 (by decide) rfl rfl rfl rfl rfl ⟨Nat.le_of_ble_eq_true rfl, Nat.le_of_ble_eq_true rfl⟩ (Nat.le_of_ble_eq_true rfl) ⟨rfl, rfl⟩ ⟨Nat.le_of_ble_eq_true rfl, Nat.le_of_ble_eq_true rfl⟩ dX0_checkToday_6 (k_WV (fun C_6 h_6 => ?_))
  obtain rfl := h_6
  refine y_aload_n hB 0 dX0_checkToday_9 rfl rfl ?_
  refine y_iconst (v := 1) hB dX0_checkToday_10 rfl ?_
  refine m_V hB msX0_spendHours q321 (tX0_spendHours _ G b (up2 C (q + 3) u (C o 4)) S o 1 (C o 5 - 1) (ho).1 (by have h9 : (up2 C (q + 3) u (C o 4)) o 5 = C o 5 := (rd_k (by omega)); omega)) (t := 1) (ho).1 (by decide) rfl rfl rfl rfl rfl ⟨Nat.le_of_ble_eq_true rfl, Nat.le_of_ble_eq_true rfl⟩ (Nat.le_of_ble_eq_true rfl) ⟨rfl, rfl⟩ ⟨Nat.le_of_ble_eq_true rfl, Nat.le_of_ble_eq_true rfl⟩ dX0_checkToday_11 (k_WV (fun C_11 h_11 => ?_))
  obtain rfl := h_11
  exact m_wv hB hE dX0_checkToday_14 (rfl)
set_option maxHeartbeats 4000000 in
theorem tX0_couldPrint (l : Launch) (G : gG) (b : Nat) (C S : gM) (o q N : Int) (ho : isDesk o) (hq : isLife q) (hD : DkOk C o N) (hl : LfOk C q (C o 4)) (hN : N ≤ 512) : Ct l G b yX0_couldPrint cX0_couldPrint 2 (some .boolean) rmX0_couldPrint [.ref (ad b (o)), .ref (ad b (q))] 578 (wM G b C S) (RI G b C S (fun v => (v = 1 ∧ C (o + 1) 3 ≤ pcI (mkI (C (q + 1)) (C q 6)) ∧ staleN C o q (C o 4) = 0) ∨ (v = 0 ∧ ¬ (C (o + 1) 3 ≤ pcI (mkI (C (q + 1)) (C q 6)) ∧ staleN C o q (C o 4) = 0)))) := by
  refine CtK_of (by decide) (Nat.le_of_ble_eq_true rfl) q409 ?_
  intro x hl hB hE _
  subst hl
  show YM x G b 0 0 C S 0 [(0, .ref (ad b (o))), (1, .ref (ad b (q)))] []
  obtain ⟨hd3, hd4, hd5, hd6, hs0, hs1, hs2, hs3, hs4, htr, hlv⟩ := id hD
  obtain ⟨hl0, hl1, hl2, hl3, hl4, hl5, hl6, hl7, hlf⟩ := id hl
  refine y_aload_n hB 1 dX0_couldPrint_0 rfl rfl ?_
  refine m_V hB msX2_differentSources q410 (tX2_differentSources _ G b C S q hq (by omega) (fun j a1 a2 => (hlf j a1 a2).1)) (t := 5) (hq).1 (by decide) rfl rfl rfl rfl rfl ⟨Nat.le_of_ble_eq_true rfl, Nat.le_of_ble_eq_true rfl⟩ (Nat.le_of_ble_eq_true rfl) ⟨rfl, rfl⟩ ⟨Nat.le_of_ble_eq_true rfl, Nat.le_of_ble_eq_true rfl⟩ dX0_couldPrint_1 (k_RI (fun v_1 h_1 => ?_))
  have hb_1 := pcI_b (mkI_lt (f := C (q + 1)) (n := C q 6) (fun j a1 a2 => (hlf j a1 a2).1))
  refine y_aload_n hB 0 dX0_couldPrint_4 rfl rfl ?_
  refine y_iconst (v := 3) hB dX0_couldPrint_5 rfl ?_
  refine m_V hB msX0_setting q289 (tX0_setting _ G b C S o 3 ho (by omega)) (t := 1) (ho).1 (by decide) rfl rfl rfl rfl rfl ⟨Nat.le_of_ble_eq_true rfl, Nat.le_of_ble_eq_true rfl⟩ (Nat.le_of_ble_eq_true rfl) ⟨rfl, rfl⟩ ⟨Nat.le_of_ble_eq_true rfl, Nat.le_of_ble_eq_true rfl⟩ dX0_couldPrint_6 (k_RI (fun v_6 h_6 => ?_))
  refine y_icmp_lt hB 28 dX0_couldPrint_9 (by decide) (by omega) (by omega) (fun c_9 => ?_) (fun c_9 => ?_)
  · refine y_iconst (v := 0) hB dX0_couldPrint_28 rfl ?_
    exact m_ri hB hE dX0_couldPrint_29 rfl (by omega)
  · refine y_aload_n hB 0 dX0_couldPrint_12 rfl rfl ?_
    refine y_aload_n hB 1 dX0_couldPrint_13 rfl rfl ?_
    refine y_aload_n hB 0 dX0_couldPrint_14 rfl rfl ?_
    refine gt_0_4 hB (ho).1 (t1 := C o 4) rfl dX0_couldPrint_15 ?_
    refine m_V hB msX0_staleFactsOf q308 (tX0_staleFactsOf _ G b C S o q (C o 4) N ho hq hD hl hN (by omega)) (t := 1) (ho).1 (by decide) rfl rfl rfl rfl rfl ⟨Nat.le_of_ble_eq_true rfl, Nat.le_of_ble_eq_true rfl⟩ (Nat.le_of_ble_eq_true rfl) ⟨rfl, rfl⟩ ⟨Nat.le_of_ble_eq_true rfl, Nat.le_of_ble_eq_true rfl⟩ dX0_couldPrint_18 (k_RI (fun v_18 h_18 => ?_))
    have hb_18 := staleN_b C o q (C o 4) (by omega)
    refine y_if_ne hB 28 dX0_couldPrint_21 (by decide) (by omega) (fun c_21 => ?_) (fun c_21 => ?_)
    · refine y_iconst (v := 0) hB dX0_couldPrint_28 rfl ?_
      exact m_ri hB hE dX0_couldPrint_29 rfl (by omega)
    · refine y_iconst (v := 1) hB dX0_couldPrint_24 rfl ?_
      refine y_goto hB 29 dX0_couldPrint_25 (by decide) ?_
      exact m_ri hB hE dX0_couldPrint_29 rfl (by omega)
set_option maxHeartbeats 4000000 in
theorem tX0_markPrinted (l : Launch) (G : gG) (b : Nat) (C S : gM) (o u q : Int) (ho : isDesk o) (hp : 0 ≤ C o 3 ∧ C o 3 ≤ 20) (hu : 0 ≤ u ∧ u < C o 3) (e : 4 * u + o + 4 = q) : Ct l G b yX0_markPrinted cX0_markPrinted 3 none rmX0_markPrinted [.ref (ad b (o)), .int (iI (u))] 578 (wM G b C S) (WV G b S (fun C' => C' = up2 (up2 C q 2 3) q 5 (C o 4))) := by
  refine CtK_of (by decide) (Nat.le_of_ble_eq_true rfl) q574 ?_
  intro x hl hB hE _
  subst hl
  show YM x G b 0 0 C S 0 [(0, .ref (ad b (o))), (1, .int (iI (u)))] []
  subst e
  refine y_aload_n hB 0 dX0_markPrinted_0 rfl rfl ?_
  refine y_iload_n hB 1 dX0_markPrinted_1 rfl rfl ?_
  refine m_V hB msX0_lifeOf q214 (tX0_lifeOf _ G b C S o u (o + 4 * u + 4) ho (by omega) (by omega) (by omega)) (t := 1) (ho).1 (by decide) rfl rfl rfl rfl rfl ⟨Nat.le_of_ble_eq_true rfl, Nat.le_of_ble_eq_true rfl⟩ (Nat.le_of_ble_eq_true rfl) ⟨rfl, rfl⟩ ⟨Nat.le_of_ble_eq_true rfl, Nat.le_of_ble_eq_true rfl⟩ dX0_markPrinted_2 (k_RR ?_)
  have hq_2 : isLife (o + 4 * u + 4) := life_at ho (i := u) (by omega) (by omega)
  refine y_astore_n (lv' := [(2, .ref (ad b (o + 4 * u + 4))), (0, .ref (ad b (o))), (1, .int (iI (u)))]) hB dX0_markPrinted_5 rfl (by decide) rfl ?_
  refine y_aload_n hB 0 dX0_markPrinted_6 rfl rfl ?_
  refine y_ifnull hB dX0_markPrinted_7 ?_
  refine y_aload_n hB 0 dX0_markPrinted_10 rfl rfl ?_
  refine y_aload_n hB 1 dX0_markPrinted_11 rfl rfl ?_
  refine gt_0_4 hB (ho).1 (t1 := C o 4) rfl dX0_markPrinted_12 ?_
  refine m_V hB msX2_becomePrinted q575 (tX2_becomePrinted _ G b C S (o + 4 * u + 4) (C o 4) (hq_2).1) (t := 5) (hq_2).1 (by decide) rfl rfl rfl rfl rfl ⟨Nat.le_of_ble_eq_true rfl, Nat.le_of_ble_eq_true rfl⟩ (Nat.le_of_ble_eq_true rfl) ⟨rfl, rfl⟩ ⟨Nat.le_of_ble_eq_true rfl, Nat.le_of_ble_eq_true rfl⟩ dX0_markPrinted_15 (k_WV (fun C_15 h_15 => ?_))
  obtain rfl := h_15
  exact m_wv hB hE dX0_markPrinted_18 (by rw [show o + 4 * u + 4 = 4 * u + o + 4 by omega])
set_option maxHeartbeats 4000000 in
theorem tX0_beginNextDay (l : Launch) (G : gG) (b : Nat) (C S : gM) (o : Int) (ho : isDesk o) : Ct l G b yX0_beginNextDay cX0_beginNextDay 1 none rmX0_beginNextDay [.ref (ad b (o))] 578 (wM G b C S) (WV G b S (fun C' => C' = up2 (up2 C o 4 (C o 4 + 1)) o 5 (C (o + 1) 0))) := by
  refine CtK_of (by decide) (Nat.le_of_ble_eq_true rfl) q588 ?_
  intro x hl hB hE _
  subst hl
  show YM x G b 0 0 C S 0 [(0, .ref (ad b (o)))] []
  refine y_aload_n hB 0 dX0_beginNextDay_0 rfl rfl ?_
  refine y_dup hB dX0_beginNextDay_1 rfl ?_
  refine gt_0_4 hB (ho).1 (t1 := C o 4) rfl dX0_beginNextDay_2 ?_
  refine y_iconst (v := 1) hB dX0_beginNextDay_5 rfl ?_
  refine y_iadd (t := C o 4 + 1) hB dX0_beginNextDay_6 (by omega) ?_
  refine pt_0_4 hB (ho).1 dX0_beginNextDay_7 ?_
  refine y_aload_n hB 0 dX0_beginNextDay_10 rfl rfl ?_
  refine y_aload_n hB 0 dX0_beginNextDay_11 rfl rfl ?_
  refine y_iconst (v := 0) hB dX0_beginNextDay_12 rfl ?_
  refine m_V hB msX0_setting q289 (tX0_setting _ G b (up2 C o 4 (C o 4 + 1)) S o 0 ho (by omega)) (t := 1) (ho).1 (by decide) rfl rfl rfl rfl rfl ⟨Nat.le_of_ble_eq_true rfl, Nat.le_of_ble_eq_true rfl⟩ (Nat.le_of_ble_eq_true rfl) ⟨rfl, rfl⟩ ⟨Nat.le_of_ble_eq_true rfl, Nat.le_of_ble_eq_true rfl⟩ dX0_beginNextDay_13 (k_RI (fun v_13 h_13 => ?_))
  rw [rd_k (by omega)] at h_13
  refine pt_0_5 hB (ho).1 dX0_beginNextDay_16 ?_
  exact m_wv hB hE dX0_beginNextDay_19 (by rw [h_13])
set_option maxHeartbeats 4000000 in
theorem tX0_takeBackOldDeaths (l : Launch) (G : gG) (b : Nat) (C S : gM) (o N : Int) (ho : isDesk o) (hD : DkOk C o N) (hN : N ≤ 512) : Ct l G b yX0_takeBackOldDeaths cX0_takeBackOldDeaths 3 none rmX0_takeBackOldDeaths [.ref (ad b (o))] 578 (wM G b C S) (WV G b S (fun C' => C' = tbk C o (C o 3))) := by
  refine CtK_of (by decide) (Nat.le_of_ble_eq_true rfl) q582 ?_
  intro x hl hB hE _
  subst hl
  show YM x G b 0 0 C S 0 [(0, .ref (ad b (o)))] []
  obtain ⟨hd3, hd4, hd5, hd6, hs0, hs1, hs2, hs3, hs4, htr, hlv⟩ := id hD
  refine y_iconst (v := 0) hB dX0_takeBackOldDeaths_0 rfl ?_
  refine y_istore_n (lv' := [(1, .int (iI (0))), (0, .ref (ad b (o)))]) hB dX0_takeBackOldDeaths_1 rfl (by decide) rfl ?_
  have LOOP_2 : ∀ (fu : Nat) (i : Int), (0 ≤ i ∧ i ≤ C o 3) → C o 3 - i < (fu : Int) → YM x G b 0 0 (tbk C o i) S 2 [(0, .ref (ad b (o))), (1, .int (iI (i)))] [] := by
    intro fu
    induction fu with
    | zero => intro i hi hm_2; exfalso; omega
    | succ fu ih_2 =>
      intro i hi hm_2
      have e3 : tbk C o i o 3 = C o 3 := tbk_out (by omega)
      have e4 : tbk C o i o 4 = C o 4 := tbk_out (by omega)
      have e5 : tbk C o i (o + 1) 4 = C (o + 1) 4 := tbk_out (by omega)
      have q2 : tbk C o i (4 * i + o + 4) 2 = C (4 * i + o + 4) 2 := tbk_out (by omega)
      have q4 : tbk C o i (4 * i + o + 4) 4 = C (4 * i + o + 4) 4 := tbk_out (by omega)
      refine y_iload_n hB 1 dX0_takeBackOldDeaths_2 rfl rfl ?_
      refine y_aload_n hB 0 dX0_takeBackOldDeaths_3 rfl rfl ?_
      refine gt_0_3 hB (ho).1 (t1 := (tbk C o i) o 3) rfl dX0_takeBackOldDeaths_4 ?_
      refine y_icmp_ge hB 57 dX0_takeBackOldDeaths_7 (by decide) (by omega) (by omega) (fun c_7 => ?_) (fun c_7 => ?_)
      · exact m_wv hB hE dX0_takeBackOldDeaths_57 (by rw [show i = C o 3 by omega])
      · refine y_aload_n hB 0 dX0_takeBackOldDeaths_10 rfl rfl ?_
        refine y_iload_n hB 1 dX0_takeBackOldDeaths_11 rfl rfl ?_
        refine m_V hB msX0_lifeOf q214 (tX0_lifeOf _ G b (tbk C o i) S o i (4 * i + o + 4) ho (by omega) (by omega) (by omega)) (t := 1) (ho).1 (by decide) rfl rfl rfl rfl rfl ⟨Nat.le_of_ble_eq_true rfl, Nat.le_of_ble_eq_true rfl⟩ (Nat.le_of_ble_eq_true rfl) ⟨rfl, rfl⟩ ⟨Nat.le_of_ble_eq_true rfl, Nat.le_of_ble_eq_true rfl⟩ dX0_takeBackOldDeaths_12 (k_RR ?_)
        have hq_12 : isLife (4 * i + o + 4) := life_at ho (i := i) (by omega) (by omega)
        have hl_12 := hlv i (by omega) (by omega)
        obtain ⟨ha_12, hb_12, hc_12, hd_12, he_12, hf_12, hg_12, hh_12, hi_12⟩ := id hl_12
        refine y_astore_n (lv' := [(2, .ref (ad b (4 * i + o + 4))), (0, .ref (ad b (o))), (1, .int (iI (i)))]) hB dX0_takeBackOldDeaths_15 rfl (by decide) rfl ?_
        refine y_aload_n hB 0 dX0_takeBackOldDeaths_16 rfl rfl ?_
        refine y_ifnull hB dX0_takeBackOldDeaths_17 ?_
        refine y_aload_n hB 0 dX0_takeBackOldDeaths_20 rfl rfl ?_
        refine y_iconst (v := 1) hB dX0_takeBackOldDeaths_21 rfl ?_
        refine m_V hB msX2_isIn q244 (tX2_isIn _ G b (tbk C o i) S (4 * i + o + 4) 1 (hq_12).1 (by omega) (by omega)) (t := 5) (hq_12).1 (by decide) rfl rfl rfl rfl rfl ⟨Nat.le_of_ble_eq_true rfl, Nat.le_of_ble_eq_true rfl⟩ (Nat.le_of_ble_eq_true rfl) ⟨rfl, rfl⟩ ⟨Nat.le_of_ble_eq_true rfl, Nat.le_of_ble_eq_true rfl⟩ dX0_takeBackOldDeaths_22 (k_RI (fun v_22 h_22 => ?_))
        refine y_if_eq hB 51 dX0_takeBackOldDeaths_25 (by decide) (by omega) (fun c_25 => ?_) (fun c_25 => ?_)
        · rw [tbk_s0 (C := C) (by omega)]
          refine y_iinc (v := i + 1) (lv' := [(1, .int (iI (i + 1))), (2, .ref (ad b (4 * i + o + 4))), (0, .ref (ad b (o)))]) hB 2 dX0_takeBackOldDeaths_51 rfl (by omega) (by decide) rfl ?_
          refine y_goto hB 2 dX0_takeBackOldDeaths_54 (by decide) ?_
          refine y_sub (lv' := [(0, .ref (ad b (o))), (1, .int (iI (i + 1)))]) [2, 0] rfl ?_
          exact ih_2 (i + 1) (by omega) (by omega)
        · refine y_aload_n hB 1 dX0_takeBackOldDeaths_28 rfl rfl ?_
          refine gt_0_4 hB (ho).1 (t1 := (tbk C o i) o 4) rfl dX0_takeBackOldDeaths_29 ?_
          refine y_iconst (v := 1) hB dX0_takeBackOldDeaths_32 rfl ?_
          refine y_iadd (t := (tbk C o i) o 4 + 1) hB dX0_takeBackOldDeaths_33 (by omega) ?_
          refine y_aload_n hB 0 dX0_takeBackOldDeaths_34 rfl rfl ?_
          refine m_V hB msX2_deathDay q583 (tX2_deathDay _ G b (tbk C o i) S (4 * i + o + 4) (hq_12).1) (t := 5) (hq_12).1 (by decide) rfl rfl rfl rfl rfl ⟨Nat.le_of_ble_eq_true rfl, Nat.le_of_ble_eq_true rfl⟩ (Nat.le_of_ble_eq_true rfl) ⟨rfl, rfl⟩ ⟨Nat.le_of_ble_eq_true rfl, Nat.le_of_ble_eq_true rfl⟩ dX0_takeBackOldDeaths_35 (k_RI (fun v_35 h_35 => ?_))
          refine y_aload_n hB 1 dX0_takeBackOldDeaths_38 rfl rfl ?_
          refine y_iconst (v := 4) hB dX0_takeBackOldDeaths_39 rfl ?_
          refine m_V hB msX0_setting q289 (tX0_setting _ G b (tbk C o i) S o 4 ho (by omega)) (t := 1) (ho).1 (by decide) rfl rfl rfl rfl rfl ⟨Nat.le_of_ble_eq_true rfl, Nat.le_of_ble_eq_true rfl⟩ (Nat.le_of_ble_eq_true rfl) ⟨rfl, rfl⟩ ⟨Nat.le_of_ble_eq_true rfl, Nat.le_of_ble_eq_true rfl⟩ dX0_takeBackOldDeaths_40 (k_RI (fun v_40 h_40 => ?_))
          refine y_iadd (t := v_35 + v_40) hB dX0_takeBackOldDeaths_43 (by omega) ?_
          refine y_icmp_lt hB 51 dX0_takeBackOldDeaths_44 (by decide) (by omega) (by omega) (fun c_44 => ?_) (fun c_44 => ?_)
          · rw [tbk_s0 (C := C) (by omega)]
            refine y_iinc (v := i + 1) (lv' := [(1, .int (iI (i + 1))), (2, .ref (ad b (4 * i + o + 4))), (0, .ref (ad b (o)))]) hB 2 dX0_takeBackOldDeaths_51 rfl (by omega) (by decide) rfl ?_
            refine y_goto hB 2 dX0_takeBackOldDeaths_54 (by decide) ?_
            refine y_sub (lv' := [(0, .ref (ad b (o))), (1, .int (iI (i + 1)))]) [2, 0] rfl ?_
            exact ih_2 (i + 1) (by omega) (by omega)
          · refine y_aload_n hB 0 dX0_takeBackOldDeaths_47 rfl rfl ?_
            refine m_V hB msX2_takeBackDeath q584 (tX2_takeBackDeath _ G b (tbk C o i) S (4 * i + o + 4) (hq_12).1) (t := 5) (hq_12).1 (by decide) rfl rfl rfl rfl rfl ⟨Nat.le_of_ble_eq_true rfl, Nat.le_of_ble_eq_true rfl⟩ (Nat.le_of_ble_eq_true rfl) ⟨rfl, rfl⟩ ⟨Nat.le_of_ble_eq_true rfl, Nat.le_of_ble_eq_true rfl⟩ dX0_takeBackOldDeaths_48 (k_WV (fun C_48 h_48 => ?_))
            obtain rfl := h_48
            rw [tbk_s1 hi.1 (by omega) (by omega)]
            refine y_iinc (v := i + 1) (lv' := [(1, .int (iI (i + 1))), (2, .ref (ad b (4 * i + o + 4))), (0, .ref (ad b (o)))]) hB 2 dX0_takeBackOldDeaths_51 rfl (by omega) (by decide) rfl ?_
            refine y_goto hB 2 dX0_takeBackOldDeaths_54 (by decide) ?_
            refine y_sub (lv' := [(0, .ref (ad b (o))), (1, .int (iI (i + 1)))]) [2, 0] rfl ?_
            exact ih_2 (i + 1) (by omega) (by omega)
  refine y_sub (lv' := [(0, .ref (ad b (o))), (1, .int (iI (0)))]) [1, 0] rfl ?_
  rw [← tbk_0 C o]
  exact LOOP_2 ((C o 3).toNat + 1) 0 (by omega) (by omega)
set_option maxHeartbeats 4000000 in
theorem tX0_join (l : Launch) (G : gG) (b : Nat) (C S : gM) (o u t n q : Int) (ho : isDesk o) (hn : C o 3 = n) (hp : 0 ≤ n ∧ n < 20) (e : 4 * n + o + 4 = q) : Ct l G b yX0_join cX0_join 4 (some .int) rmX0_join [.ref (ad b (o)), .int (iI (u)), .int (iI (t))] 578 (wM G b C S) (WI G b S (fun v C' => v = n ∧ C' = bgn (up2 C o 3 (n + 1)) q u t)) := by
  refine CtK_of (by decide) (Nat.le_of_ble_eq_true rfl) q226 ?_
  intro x hl hB hE _
  subst hl
  show YM x G b 0 0 C S 0 [(0, .ref (ad b (o))), (1, .int (iI (u))), (2, .int (iI (t)))] []
  subst e
  subst hn
  refine y_aload_n hB 0 dX0_join_0 rfl rfl ?_
  refine m_V hB msX0_roomForPersons q227 (tX0_roomForPersons _ G b C S o (ho).1) (t := 1) (ho).1 (by decide) rfl rfl rfl rfl rfl ⟨Nat.le_of_ble_eq_true rfl, Nat.le_of_ble_eq_true rfl⟩ (Nat.le_of_ble_eq_true rfl) ⟨rfl, rfl⟩ ⟨Nat.le_of_ble_eq_true rfl, Nat.le_of_ble_eq_true rfl⟩ dX0_join_1 (k_RI (fun v_1 h_1 => ?_))
  refine y_iconst (v := 1) hB dX0_join_4 rfl ?_
  refine y_icmp_ge hB 11 dX0_join_5 (by decide) (by omega) (by omega) (fun c_5 => ?_) (fun c_5 => ?_)
  · refine y_aload_n hB 0 dX0_join_11 rfl rfl ?_
    refine y_dup hB dX0_join_12 rfl ?_
    refine gt_0_3 hB (ho).1 (t1 := C o 3) rfl dX0_join_13 ?_
    refine y_iconst (v := 1) hB dX0_join_16 rfl ?_
    refine y_iadd (t := C o 3 + 1) hB dX0_join_17 (by omega) ?_
    refine pt_0_3 hB (ho).1 dX0_join_18 ?_
    refine y_aload_n hB 0 dX0_join_21 rfl rfl ?_
    refine y_aload_n hB 0 dX0_join_22 rfl rfl ?_
    refine gt_0_3 hB (ho).1 (t1 := C o 3 + 1) (rd_hit (by omega) (by omega)) dX0_join_23 ?_
    refine y_iconst (v := 1) hB dX0_join_26 rfl ?_
    refine y_isub (t := C o 3) hB dX0_join_27 (by omega) ?_
    refine m_V hB msX0_lifeOf q214 (tX0_lifeOf _ G b (up2 C o 3 (C o 3 + 1)) S o (C o 3) (4 * C o 3 + o + 4) ho (by have h90 : (up2 C o 3 (C o 3 + 1)) o 3 = C o 3 + 1 := (rd_hit (by omega) (by omega)); omega) (by have h90 : (up2 C o 3 (C o 3 + 1)) o 3 = C o 3 + 1 := (rd_hit (by omega) (by omega)); omega) (by omega)) (t := 1) (ho).1 (by decide) rfl rfl rfl rfl rfl ⟨Nat.le_of_ble_eq_true rfl, Nat.le_of_ble_eq_true rfl⟩ (Nat.le_of_ble_eq_true rfl) ⟨rfl, rfl⟩ ⟨Nat.le_of_ble_eq_true rfl, Nat.le_of_ble_eq_true rfl⟩ dX0_join_28 (k_RR ?_)
    have hq_28 : isLife (4 * C o 3 + o + 4) := life_at ho (i := C o 3) (by omega) (by omega)
    refine y_astore_n (lv' := [(3, .ref (ad b (4 * C o 3 + o + 4))), (0, .ref (ad b (o))), (1, .int (iI (u))), (2, .int (iI (t)))]) hB dX0_join_31 rfl (by decide) rfl ?_
    refine y_aload_n hB 0 dX0_join_32 rfl rfl ?_
    refine y_ifnull hB dX0_join_33 ?_
    refine y_aload_n hB 0 dX0_join_36 rfl rfl ?_
    refine y_iload_n hB 2 dX0_join_37 rfl rfl ?_
    refine y_iload_n hB 3 dX0_join_38 rfl rfl ?_
    refine m_V hB msX2_begin q228 (tX2_begin _ G b (up2 C o 3 (C o 3 + 1)) S (4 * C o 3 + o + 4) u t (hq_28).1) (t := 5) (hq_28).1 (by decide) rfl rfl rfl rfl rfl ⟨Nat.le_of_ble_eq_true rfl, Nat.le_of_ble_eq_true rfl⟩ (Nat.le_of_ble_eq_true rfl) ⟨rfl, rfl⟩ ⟨Nat.le_of_ble_eq_true rfl, Nat.le_of_ble_eq_true rfl⟩ dX0_join_39 (k_WV (fun C_39 h_39 => ?_))
    obtain rfl := h_39
    refine y_aload_n hB 1 dX0_join_42 rfl rfl ?_
    refine gt_0_3 hB (ho).1 (t1 := C o 3 + 1) ((rd_k (by omega)).trans ((rd_k (by omega)).trans ((rd_k (by omega)).trans ((rd_k (by omega)).trans ((rd_k (by omega)).trans ((rd_k (by omega)).trans ((rd_k (by omega)).trans (rd_hit (by omega) (by omega))))))))) dX0_join_43 ?_
    refine y_iconst (v := 1) hB dX0_join_46 rfl ?_
    refine y_isub (t := C o 3) hB dX0_join_47 (by omega) ?_
    exact m_wi hB hE dX0_join_48 rfl (⟨by omega, rfl⟩)
  · exfalso
    omega
set_option maxHeartbeats 4000000 in
theorem tX0_copyFrom (l : Launch) (G : gG) (b : Nat) (C S : gM) (o p N : Int) (ho : isDesk o) (hpd : isDesk p) (hd : o + 84 ≤ p ∨ p + 84 ≤ o) (hp : 0 ≤ C p 3 ∧ C p 3 ≤ 20) : Ct l G b yX0_copyFrom cX0_copyFrom 5 none rmX0_copyFrom [.ref (ad b (o)), .ref (ad b (p))] 578 (wM G b C S) (WV G b S (fun C' => C' = cpN C o p (C p 3))) := by
  refine CtK_of (by decide) (Nat.le_of_ble_eq_true rfl) q210 ?_
  intro x hl hB hE _
  subst hl
  show YM x G b 0 0 C S 0 [(0, .ref (ad b (o))), (1, .ref (ad b (p)))] []
  refine y_aload_n hB 1 dX0_copyFrom_0 rfl rfl ?_
  refine gt_0_0 hB (hpd).1 (t1 := p + 1) (by omega) dX0_copyFrom_1 ?_
  refine y_iconst (v := 0) hB dX0_copyFrom_4 rfl ?_
  refine y_aload_n hB 0 dX0_copyFrom_5 rfl rfl ?_
  refine gt_0_0 hB (ho).1 (t1 := o + 1) (by omega) dX0_copyFrom_6 ?_
  refine y_iconst (v := 0) hB dX0_copyFrom_9 rfl ?_
  refine y_iconst (v := 5) hB dX0_copyFrom_10 rfl ?_
  refine cpy_2 hB (hpd).2.1 (ho).2.1 q211 q213 q212 q10 (Nat.le_of_ble_eq_true rfl) (by decide) dX0_copyFrom_11 ?_
  refine y_aload_n hB 1 dX0_copyFrom_14 rfl rfl ?_
  refine gt_0_1 hB (hpd).1 (t1 := p + 2) (by omega) dX0_copyFrom_15 ?_
  refine y_iconst (v := 0) hB dX0_copyFrom_18 rfl ?_
  refine y_aload_n hB 0 dX0_copyFrom_19 rfl rfl ?_
  refine gt_0_1 hB (ho).1 (t1 := o + 2) (by omega) dX0_copyFrom_20 ?_
  refine y_iconst (v := 0) hB dX0_copyFrom_23 rfl ?_
  refine y_bipush (v := 6) hB dX0_copyFrom_24 (by decide) ?_
  refine cpy_3 hB (hpd).2.2.1 (ho).2.2.1 q211 q213 q212 q10 (Nat.le_of_ble_eq_true rfl) (by decide) dX0_copyFrom_26 ?_
  refine y_aload_n hB 0 dX0_copyFrom_29 rfl rfl ?_
  refine y_aload_n hB 1 dX0_copyFrom_30 rfl rfl ?_
  refine gt_0_3 hB (hpd).1 (t1 := (upA (upA C (o + 1) (cpI (C (p + 1)) (C (o + 1)) 5)) (o + 2) (cpI ((upA C (o + 1) (cpI (C (p + 1)) (C (o + 1)) 5)) (p + 2)) ((upA C (o + 1) (cpI (C (p + 1)) (C (o + 1)) 5)) (o + 2)) 6)) p 3) rfl dX0_copyFrom_31 ?_
  refine pt_0_3 hB (ho).1 dX0_copyFrom_34 ?_
  refine y_aload_n hB 0 dX0_copyFrom_37 rfl rfl ?_
  refine y_aload_n hB 1 dX0_copyFrom_38 rfl rfl ?_
  refine gt_0_4 hB (hpd).1 (t1 := (upA (upA C (o + 1) (cpI (C (p + 1)) (C (o + 1)) 5)) (o + 2) (cpI ((upA C (o + 1) (cpI (C (p + 1)) (C (o + 1)) 5)) (p + 2)) ((upA C (o + 1) (cpI (C (p + 1)) (C (o + 1)) 5)) (o + 2)) 6)) p 4) (rd_k (by omega)) dX0_copyFrom_39 ?_
  refine pt_0_4 hB (ho).1 dX0_copyFrom_42 ?_
  refine y_aload_n hB 0 dX0_copyFrom_45 rfl rfl ?_
  refine y_aload_n hB 1 dX0_copyFrom_46 rfl rfl ?_
  refine gt_0_5 hB (hpd).1 (t1 := (upA (upA C (o + 1) (cpI (C (p + 1)) (C (o + 1)) 5)) (o + 2) (cpI ((upA C (o + 1) (cpI (C (p + 1)) (C (o + 1)) 5)) (p + 2)) ((upA C (o + 1) (cpI (C (p + 1)) (C (o + 1)) 5)) (o + 2)) 6)) p 5) ((rd_k (by omega)).trans (rd_k (by omega))) dX0_copyFrom_47 ?_
  refine pt_0_5 hB (ho).1 dX0_copyFrom_50 ?_
  refine y_aload_n hB 0 dX0_copyFrom_53 rfl rfl ?_
  refine y_aload_n hB 1 dX0_copyFrom_54 rfl rfl ?_
  refine gt_0_6 hB (hpd).1 (t1 := (upA (upA C (o + 1) (cpI (C (p + 1)) (C (o + 1)) 5)) (o + 2) (cpI ((upA C (o + 1) (cpI (C (p + 1)) (C (o + 1)) 5)) (p + 2)) ((upA C (o + 1) (cpI (C (p + 1)) (C (o + 1)) 5)) (o + 2)) 6)) p 6) ((rd_k (by omega)).trans ((rd_k (by omega)).trans (rd_k (by omega)))) dX0_copyFrom_55 ?_
  refine pt_0_6 hB (ho).1 dX0_copyFrom_58 ?_
  refine y_iconst (v := 0) hB dX0_copyFrom_61 rfl ?_
  refine y_istore_n (lv' := [(2, .int (iI (0))), (0, .ref (ad b (o))), (1, .ref (ad b (p)))]) hB dX0_copyFrom_62 rfl (by decide) rfl ?_
  have LOOP_63 : ∀ (fu : Nat) (i : Int), (0 ≤ i ∧ i ≤ C p 3) → C p 3 - i < (fu : Int) → YM x G b 0 0 (cpN C o p i) S 63 [(0, .ref (ad b (o))), (1, .ref (ad b (p))), (2, .int (iI (i)))] [] := by
    intro fu
    induction fu with
    | zero => intro i hi hm_63; exfalso; omega
    | succ fu ih_63 =>
      intro i hi hm_63
      have e3 : cpN C o p i o 3 = C p 3 := cpN_o (by omega)
      have e4 : cpN C o p i p 3 = C p 3 := by rw [cpN_out (by omega) (by omega)]
      refine y_iload_n hB 2 dX0_copyFrom_63 rfl rfl ?_
      refine y_aload_n hB 0 dX0_copyFrom_64 rfl rfl ?_
      refine gt_0_3 hB (ho).1 (t1 := (cpN C o p i) o 3) rfl dX0_copyFrom_65 ?_
      refine y_icmp_ge hB 105 dX0_copyFrom_68 (by decide) (by omega) (by omega) (fun c_68 => ?_) (fun c_68 => ?_)
      · exact m_wv hB hE dX0_copyFrom_105 (by rw [show i = C p 3 by omega])
      · refine y_aload_n hB 0 dX0_copyFrom_71 rfl rfl ?_
        refine y_iload_n hB 2 dX0_copyFrom_72 rfl rfl ?_
        refine m_V hB msX0_lifeOf q214 (tX0_lifeOf _ G b (cpN C o p i) S o i (4 * i + o + 4) ho (by omega) (by omega) (by omega)) (t := 1) (ho).1 (by decide) rfl rfl rfl rfl rfl ⟨Nat.le_of_ble_eq_true rfl, Nat.le_of_ble_eq_true rfl⟩ (Nat.le_of_ble_eq_true rfl) ⟨rfl, rfl⟩ ⟨Nat.le_of_ble_eq_true rfl, Nat.le_of_ble_eq_true rfl⟩ dX0_copyFrom_73 (k_RR ?_)
        have hq_73 : isLife (4 * i + o + 4) := life_at ho (i := i) (by omega) (by omega)
        refine y_astore_n (lv' := [(3, .ref (ad b (4 * i + o + 4))), (0, .ref (ad b (o))), (1, .ref (ad b (p))), (2, .int (iI (i)))]) hB dX0_copyFrom_76 rfl (by decide) rfl ?_
        refine y_aload_n hB 2 dX0_copyFrom_77 rfl rfl ?_
        refine y_iload_n hB 3 dX0_copyFrom_78 rfl rfl ?_
        refine m_V hB msX0_lifeOf q214 (tX0_lifeOf _ G b (cpN C o p i) S p i (4 * i + p + 4) hpd (by omega) (by omega) (by omega)) (t := 1) (hpd).1 (by decide) rfl rfl rfl rfl rfl ⟨Nat.le_of_ble_eq_true rfl, Nat.le_of_ble_eq_true rfl⟩ (Nat.le_of_ble_eq_true rfl) ⟨rfl, rfl⟩ ⟨Nat.le_of_ble_eq_true rfl, Nat.le_of_ble_eq_true rfl⟩ dX0_copyFrom_79 (k_RR ?_)
        have hq_79 : isLife (4 * i + p + 4) := life_at hpd (i := i) (by omega) (by omega)
        refine y_astore (lv' := [(4, .ref (ad b (4 * i + p + 4))), (3, .ref (ad b (4 * i + o + 4))), (0, .ref (ad b (o))), (1, .ref (ad b (p))), (2, .int (iI (i)))]) hB dX0_copyFrom_82 (by decide) rfl ?_
        refine y_aload_n hB 1 dX0_copyFrom_84 rfl rfl ?_
        refine y_ifnull hB dX0_copyFrom_85 ?_
        refine y_aload hB 0 dX0_copyFrom_88 rfl ?_
        refine y_ifnull hB dX0_copyFrom_90 ?_
        refine y_aload_n hB 1 dX0_copyFrom_93 rfl rfl ?_
        refine y_aload hB 0 dX0_copyFrom_94 rfl ?_
        refine m_V hB msX2_copyLife q218 (tX2_copyLife _ G b (cpN C o p i) S (4 * i + o + 4) (4 * i + p + 4) hq_73 hq_79 (by omega)) (t := 5) (hq_73).1 (by decide) rfl rfl rfl rfl rfl ⟨Nat.le_of_ble_eq_true rfl, Nat.le_of_ble_eq_true rfl⟩ (Nat.le_of_ble_eq_true rfl) ⟨rfl, rfl⟩ ⟨Nat.le_of_ble_eq_true rfl, Nat.le_of_ble_eq_true rfl⟩ dX0_copyFrom_96 (k_WV (fun C_96 h_96 => ?_))
        refine y_iinc (v := i + 1) (lv' := [(2, .int (iI (i + 1))), (4, .ref (ad b (4 * i + p + 4))), (3, .ref (ad b (4 * i + o + 4))), (0, .ref (ad b (o))), (1, .ref (ad b (p)))]) hB 4 dX0_copyFrom_99 rfl (by omega) (by decide) rfl ?_
        refine y_goto hB 63 dX0_copyFrom_102 (by decide) ?_
        refine y_sub (lv' := [(0, .ref (ad b (o))), (1, .ref (ad b (p))), (2, .int (iI (i + 1)))]) [3, 4, 0] rfl ?_
        rw [h_96, cpN_s (by omega) hd]
        exact ih_63 (i + 1) (by omega) (by omega)
  refine y_sub (lv' := [(0, .ref (ad b (o))), (1, .ref (ad b (p))), (2, .int (iI (0)))]) [1, 2, 0] rfl ?_
  change YM x G b 0 0 (cdC C o p) S 63 [(0, .ref (ad b o)), (1, .ref (ad b p)), (2, .int (iI 0))] []
  rw [cdC_eq C hd]
  exact LOOP_63 ((C p 3).toNat + 1) 0 (by omega) (by omega)
set_option maxHeartbeats 4000000 in
theorem tX0_mostUrgentToCheck (l : Launch) (G : gG) (b : Nat) (C S : gM) (o N : Int) (ho : isDesk o) (hD : DkOk C o N) (hN : N ≤ 512) : Ct l G b yX0_mostUrgentToCheck cX0_mostUrgentToCheck 6 (some (.object "LivesAhead$Life")) rmX0_mostUrgentToCheck [.ref (ad b (o))] 578 (wM G b C S) (RV G b C S (fun v => (v = .null ∧ (C o 5 < 1 ∨ isBest (due C o) (urgP C o) (C o 3) (-5))) ∨ (∃ k : Int, 0 ≤ k ∧ v = .ref (ad b (4 * k + o + 4)) ∧ 1 ≤ C o 5 ∧ isBest (due C o) (urgP C o) (C o 3) k))) := by
  refine CtK_of (by decide) (Nat.le_of_ble_eq_true rfl) q243 ?_
  intro x hl hB hE _
  subst hl
  show YM x G b 0 0 C S 0 [(0, .ref (ad b (o)))] []
  obtain ⟨hd3, hd4, hd5, hd6, hs0, hs1, hs2, hs3, hs4, htr, hlv⟩ := id hD
  refine y_aload_n hB 0 dX0_mostUrgentToCheck_0 rfl rfl ?_
  refine gt_0_5 hB (ho).1 (t1 := C o 5) rfl dX0_mostUrgentToCheck_1 ?_
  refine y_iconst (v := 1) hB dX0_mostUrgentToCheck_4 rfl ?_
  refine y_icmp_ge hB 10 dX0_mostUrgentToCheck_5 (by decide) (by omega) (by omega) (fun c_5 => ?_) (fun c_5 => ?_)
  · refine y_null hB dX0_mostUrgentToCheck_10 ?_
    refine y_astore_nN (lv' := [(1, .null), (0, .ref (ad b (o)))]) hB dX0_mostUrgentToCheck_11 rfl (by decide) rfl ?_
    refine y_iconst (v := 0) hB dX0_mostUrgentToCheck_12 rfl ?_
    refine y_istore_n (lv' := [(2, .int (iI (0))), (1, .null), (0, .ref (ad b (o)))]) hB dX0_mostUrgentToCheck_13 rfl (by decide) rfl ?_
    refine y_iconst (v := 0) hB dX0_mostUrgentToCheck_14 rfl ?_
    refine y_istore_n (lv' := [(3, .int (iI (0))), (2, .int (iI (0))), (1, .null), (0, .ref (ad b (o)))]) hB dX0_mostUrgentToCheck_15 rfl (by decide) rfl ?_
    have LOOP_16 : ∀ (fu : Nat) (i gv kv : Int) (bv : Value), (0 ≤ i ∧ i ≤ C o 3) → (isBest (due C o) (urgP C o) i kv) → ((kv = -5 ∧ bv = .null) ∨ (0 ≤ kv ∧ bv = .ref (ad b (4 * kv + o + 4)) ∧ gv = urgP C o kv)) → C o 3 - i < (fu : Int) → YM x G b 0 0 C S 16 [(0, .ref (ad b (o))), (1, bv), (2, .int (iI (gv))), (3, .int (iI (i)))] [] := by
      intro fu
      induction fu with
      | zero => intro i gv kv bv hi hb hk hm_16; exfalso; omega
      | succ fu ih_16 =>
        intro i gv kv bv hi hb hk hm_16
        rcases hk with ⟨hk, rfl⟩ | ⟨hk, rfl, hg⟩
        · have hg : kv = -5 := hk
          refine y_iload_n hB 3 dX0_mostUrgentToCheck_16 rfl rfl ?_
          refine y_aload_n hB 0 dX0_mostUrgentToCheck_17 rfl rfl ?_
          refine gt_0_3 hB (ho).1 (t1 := C o 3) rfl dX0_mostUrgentToCheck_18 ?_
          refine y_icmp_ge hB 86 dX0_mostUrgentToCheck_21 (by decide) (by omega) (by omega) (fun c_21 => ?_) (fun c_21 => ?_)
          · refine y_aload_nN hB 1 dX0_mostUrgentToCheck_86 rfl rfl ?_
            exact m_rv hB hE dX0_mostUrgentToCheck_87 (Or.inl rfl) (Or.inl ⟨rfl, Or.inr (by rw [show C o 3 = i by omega, ← hk]; exact hb)⟩)
          · refine y_aload_n hB 0 dX0_mostUrgentToCheck_24 rfl rfl ?_
            refine y_iload_n hB 3 dX0_mostUrgentToCheck_25 rfl rfl ?_
            refine m_V hB msX0_lifeOf q214 (tX0_lifeOf _ G b C S o i (4 * i + o + 4) ho (by omega) (by omega) (by omega)) (t := 1) (ho).1 (by decide) rfl rfl rfl rfl rfl ⟨Nat.le_of_ble_eq_true rfl, Nat.le_of_ble_eq_true rfl⟩ (Nat.le_of_ble_eq_true rfl) ⟨rfl, rfl⟩ ⟨Nat.le_of_ble_eq_true rfl, Nat.le_of_ble_eq_true rfl⟩ dX0_mostUrgentToCheck_26 (k_RR ?_)
            have hq_26 : isLife (4 * i + o + 4) := life_at ho (i := i) (by omega) (by omega)
            have hl_26 := hlv (i) (by omega) (by omega)
            obtain ⟨ha_26, hb_26, hc_26, hd_26, he_26, hf_26, hg_26, hh_26, hi_26⟩ := id hl_26
            refine y_astore (lv' := [(4, .ref (ad b (4 * i + o + 4))), (0, .ref (ad b (o))), (1, .null), (2, .int (iI (gv))), (3, .int (iI (i)))]) hB dX0_mostUrgentToCheck_29 (by decide) rfl ?_
            refine y_aload hB 0 dX0_mostUrgentToCheck_31 rfl ?_
            refine y_ifnull hB dX0_mostUrgentToCheck_33 ?_
            refine y_aload hB 0 dX0_mostUrgentToCheck_36 rfl ?_
            refine y_iconst (v := 0) hB dX0_mostUrgentToCheck_38 rfl ?_
            refine m_V hB msX2_isIn q244 (tX2_isIn _ G b C S (4 * i + o + 4) 0 (hq_26).1 (by omega) (by omega)) (t := 5) (hq_26).1 (by decide) rfl rfl rfl rfl rfl ⟨Nat.le_of_ble_eq_true rfl, Nat.le_of_ble_eq_true rfl⟩ (Nat.le_of_ble_eq_true rfl) ⟨rfl, rfl⟩ ⟨Nat.le_of_ble_eq_true rfl, Nat.le_of_ble_eq_true rfl⟩ dX0_mostUrgentToCheck_39 (k_RI (fun v_39 h_39 => ?_))
            refine y_if_eq hB 80 dX0_mostUrgentToCheck_42 (by decide) (by omega) (fun c_42 => ?_) (fun c_42 => ?_)
            · have hnd : ¬ due C o i := fun z => by have := z.1; omega
              have hb2 := isBest_no hb hi.1 hnd
              refine y_iinc (v := i + 1) (lv' := [(3, .int (iI (i + 1))), (4, .ref (ad b (4 * i + o + 4))), (0, .ref (ad b (o))), (1, .null), (2, .int (iI (gv)))]) hB 4 dX0_mostUrgentToCheck_80 rfl (by omega) (by decide) rfl ?_
              refine y_goto hB 16 dX0_mostUrgentToCheck_83 (by decide) ?_
              refine y_sub (lv' := [(0, .ref (ad b (o))), (1, .null), (2, .int (iI (gv))), (3, .int (iI (i + 1)))]) [2, 3, 4, 0] rfl ?_
              exact ih_16 (i + 1) gv (-5) .null (by omega) (isBest_no (hk ▸ hb) hi.1 hnd) (Or.inl ⟨rfl, rfl⟩) (by omega)
            · refine y_aload_n hB 1 dX0_mostUrgentToCheck_45 rfl rfl ?_
              refine y_aload hB 0 dX0_mostUrgentToCheck_46 rfl ?_
              refine m_V hB msX0_firstToCheck q248 (tX0_firstToCheck _ G b C S o (4 * i + o + 4) N ho hq_26 hD hl_26 hN) (t := 1) (ho).1 (by decide) rfl rfl rfl rfl rfl ⟨Nat.le_of_ble_eq_true rfl, Nat.le_of_ble_eq_true rfl⟩ (Nat.le_of_ble_eq_true rfl) ⟨rfl, rfl⟩ ⟨Nat.le_of_ble_eq_true rfl, Nat.le_of_ble_eq_true rfl⟩ dX0_mostUrgentToCheck_48 (k_RI (fun v_48 h_48 => ?_))
              have hdu := due_iff h_48 (by omega)
              refine y_bipush (v := -5) hB dX0_mostUrgentToCheck_51 (by decide) ?_
              refine y_icmp_eq hB 80 dX0_mostUrgentToCheck_53 (by decide) (by rcases h_48 with h9 | h9 <;> omega) (by omega) (fun c_53 => ?_) (fun c_53 => ?_)
              · have hnd : ¬ due C o i := fun z => hdu.mp z (by omega)
                have hb2 := isBest_no hb hi.1 hnd
                refine y_iinc (v := i + 1) (lv' := [(3, .int (iI (i + 1))), (4, .ref (ad b (4 * i + o + 4))), (0, .ref (ad b (o))), (1, .null), (2, .int (iI (gv)))]) hB 4 dX0_mostUrgentToCheck_80 rfl (by omega) (by decide) rfl ?_
                refine y_goto hB 16 dX0_mostUrgentToCheck_83 (by decide) ?_
                refine y_sub (lv' := [(0, .ref (ad b (o))), (1, .null), (2, .int (iI (gv))), (3, .int (iI (i + 1)))]) [2, 3, 4, 0] rfl ?_
                exact ih_16 (i + 1) gv (-5) .null (by omega) (isBest_no (hk ▸ hb) hi.1 hnd) (Or.inl ⟨rfl, rfl⟩) (by omega)
              · have hdi : due C o i := hdu.mpr (by omega)
                refine y_aload_n hB 1 dX0_mostUrgentToCheck_56 rfl rfl ?_
                refine y_aload hB 0 dX0_mostUrgentToCheck_57 rfl ?_
                refine m_V hB msX0_urgencyOf q296 (tX0_urgencyOf _ G b C S o (4 * i + o + 4) N ho hq_26 hD hl_26 hN) (t := 1) (ho).1 (by decide) rfl rfl rfl rfl rfl ⟨Nat.le_of_ble_eq_true rfl, Nat.le_of_ble_eq_true rfl⟩ (Nat.le_of_ble_eq_true rfl) ⟨rfl, rfl⟩ ⟨Nat.le_of_ble_eq_true rfl, Nat.le_of_ble_eq_true rfl⟩ dX0_mostUrgentToCheck_59 (k_RI (fun v_59 h_59 => ?_))
                have hu_59 := urg_b (o := o) hl_26
                refine y_istore (lv' := [(5, .int (iI (v_59))), (4, .ref (ad b (4 * i + o + 4))), (0, .ref (ad b (o))), (1, .null), (2, .int (iI (gv))), (3, .int (iI (i)))]) hB dX0_mostUrgentToCheck_62 (by decide) rfl ?_
                refine y_aload_nN hB 3 dX0_mostUrgentToCheck_64 rfl rfl ?_
                have hb2 := isBest_new hb hi.1 hdi (Or.inl hk)
                refine y_ifnullN hB 74 dX0_mostUrgentToCheck_65 (by decide) ?_
                refine y_aload hB 1 dX0_mostUrgentToCheck_74 rfl ?_
                refine y_astore_n (lv' := [(1, .ref (ad b (4 * i + o + 4))), (5, .int (iI (v_59))), (4, .ref (ad b (4 * i + o + 4))), (0, .ref (ad b (o))), (2, .int (iI (gv))), (3, .int (iI (i)))]) hB dX0_mostUrgentToCheck_76 rfl (by decide) rfl ?_
                refine y_iload hB 1 dX0_mostUrgentToCheck_77 rfl ?_
                refine y_istore_n (lv' := [(2, .int (iI (v_59))), (1, .ref (ad b (4 * i + o + 4))), (5, .int (iI (v_59))), (4, .ref (ad b (4 * i + o + 4))), (0, .ref (ad b (o))), (3, .int (iI (i)))]) hB dX0_mostUrgentToCheck_79 rfl (by decide) rfl ?_
                refine y_iinc (v := i + 1) (lv' := [(3, .int (iI (i + 1))), (2, .int (iI (v_59))), (1, .ref (ad b (4 * i + o + 4))), (5, .int (iI (v_59))), (4, .ref (ad b (4 * i + o + 4))), (0, .ref (ad b (o)))]) hB 5 dX0_mostUrgentToCheck_80 rfl (by omega) (by decide) rfl ?_
                refine y_goto hB 16 dX0_mostUrgentToCheck_83 (by decide) ?_
                refine y_sub (lv' := [(0, .ref (ad b (o))), (1, .ref (ad b (4 * i + o + 4))), (2, .int (iI (v_59))), (3, .int (iI (i + 1)))]) [5, 2, 1, 0] rfl ?_
                exact ih_16 (i + 1) v_59 i _ (by omega) hb2 (Or.inr ⟨hi.1, rfl, h_59⟩) (by omega)
        · refine y_iload_n hB 3 dX0_mostUrgentToCheck_16 rfl rfl ?_
          refine y_aload_n hB 0 dX0_mostUrgentToCheck_17 rfl rfl ?_
          refine gt_0_3 hB (ho).1 (t1 := C o 3) rfl dX0_mostUrgentToCheck_18 ?_
          refine y_icmp_ge hB 86 dX0_mostUrgentToCheck_21 (by decide) (by omega) (by omega) (fun c_21 => ?_) (fun c_21 => ?_)
          · refine y_aload_n hB 1 dX0_mostUrgentToCheck_86 rfl rfl ?_
            exact m_rv hB hE dX0_mostUrgentToCheck_87 (Or.inr ⟨_, rfl⟩) (Or.inr ⟨kv, hk, rfl, by omega, by rw [show C o 3 = i by omega]; exact hb⟩)
          · refine y_aload_n hB 0 dX0_mostUrgentToCheck_24 rfl rfl ?_
            refine y_iload_n hB 3 dX0_mostUrgentToCheck_25 rfl rfl ?_
            refine m_V hB msX0_lifeOf q214 (tX0_lifeOf _ G b C S o i (4 * i + o + 4) ho (by omega) (by omega) (by omega)) (t := 1) (ho).1 (by decide) rfl rfl rfl rfl rfl ⟨Nat.le_of_ble_eq_true rfl, Nat.le_of_ble_eq_true rfl⟩ (Nat.le_of_ble_eq_true rfl) ⟨rfl, rfl⟩ ⟨Nat.le_of_ble_eq_true rfl, Nat.le_of_ble_eq_true rfl⟩ dX0_mostUrgentToCheck_26 (k_RR ?_)
            have hq_26 : isLife (4 * i + o + 4) := life_at ho (i := i) (by omega) (by omega)
            have hl_26 := hlv (i) (by omega) (by omega)
            obtain ⟨ha_26, hb_26, hc_26, hd_26, he_26, hf_26, hg_26, hh_26, hi_26⟩ := id hl_26
            refine y_astore (lv' := [(4, .ref (ad b (4 * i + o + 4))), (0, .ref (ad b (o))), (1, .ref (ad b (4 * kv + o + 4))), (2, .int (iI (gv))), (3, .int (iI (i)))]) hB dX0_mostUrgentToCheck_29 (by decide) rfl ?_
            refine y_aload hB 0 dX0_mostUrgentToCheck_31 rfl ?_
            refine y_ifnull hB dX0_mostUrgentToCheck_33 ?_
            refine y_aload hB 0 dX0_mostUrgentToCheck_36 rfl ?_
            refine y_iconst (v := 0) hB dX0_mostUrgentToCheck_38 rfl ?_
            refine m_V hB msX2_isIn q244 (tX2_isIn _ G b C S (4 * i + o + 4) 0 (hq_26).1 (by omega) (by omega)) (t := 5) (hq_26).1 (by decide) rfl rfl rfl rfl rfl ⟨Nat.le_of_ble_eq_true rfl, Nat.le_of_ble_eq_true rfl⟩ (Nat.le_of_ble_eq_true rfl) ⟨rfl, rfl⟩ ⟨Nat.le_of_ble_eq_true rfl, Nat.le_of_ble_eq_true rfl⟩ dX0_mostUrgentToCheck_39 (k_RI (fun v_39 h_39 => ?_))
            refine y_if_eq hB 80 dX0_mostUrgentToCheck_42 (by decide) (by omega) (fun c_42 => ?_) (fun c_42 => ?_)
            · have hnd : ¬ due C o i := fun z => by have := z.1; omega
              have hb2 := isBest_no hb hi.1 hnd
              refine y_iinc (v := i + 1) (lv' := [(3, .int (iI (i + 1))), (4, .ref (ad b (4 * i + o + 4))), (0, .ref (ad b (o))), (1, .ref (ad b (4 * kv + o + 4))), (2, .int (iI (gv)))]) hB 4 dX0_mostUrgentToCheck_80 rfl (by omega) (by decide) rfl ?_
              refine y_goto hB 16 dX0_mostUrgentToCheck_83 (by decide) ?_
              refine y_sub (lv' := [(0, .ref (ad b (o))), (1, .ref (ad b (4 * kv + o + 4))), (2, .int (iI (gv))), (3, .int (iI (i + 1)))]) [2, 3, 4, 0] rfl ?_
              exact ih_16 (i + 1) gv kv _ (by omega) hb2 (Or.inr ⟨hk, rfl, hg⟩) (by omega)
            · refine y_aload_n hB 1 dX0_mostUrgentToCheck_45 rfl rfl ?_
              refine y_aload hB 0 dX0_mostUrgentToCheck_46 rfl ?_
              refine m_V hB msX0_firstToCheck q248 (tX0_firstToCheck _ G b C S o (4 * i + o + 4) N ho hq_26 hD hl_26 hN) (t := 1) (ho).1 (by decide) rfl rfl rfl rfl rfl ⟨Nat.le_of_ble_eq_true rfl, Nat.le_of_ble_eq_true rfl⟩ (Nat.le_of_ble_eq_true rfl) ⟨rfl, rfl⟩ ⟨Nat.le_of_ble_eq_true rfl, Nat.le_of_ble_eq_true rfl⟩ dX0_mostUrgentToCheck_48 (k_RI (fun v_48 h_48 => ?_))
              have hdu := due_iff h_48 (by omega)
              refine y_bipush (v := -5) hB dX0_mostUrgentToCheck_51 (by decide) ?_
              refine y_icmp_eq hB 80 dX0_mostUrgentToCheck_53 (by decide) (by rcases h_48 with h9 | h9 <;> omega) (by omega) (fun c_53 => ?_) (fun c_53 => ?_)
              · have hnd : ¬ due C o i := fun z => hdu.mp z (by omega)
                have hb2 := isBest_no hb hi.1 hnd
                refine y_iinc (v := i + 1) (lv' := [(3, .int (iI (i + 1))), (4, .ref (ad b (4 * i + o + 4))), (0, .ref (ad b (o))), (1, .ref (ad b (4 * kv + o + 4))), (2, .int (iI (gv)))]) hB 4 dX0_mostUrgentToCheck_80 rfl (by omega) (by decide) rfl ?_
                refine y_goto hB 16 dX0_mostUrgentToCheck_83 (by decide) ?_
                refine y_sub (lv' := [(0, .ref (ad b (o))), (1, .ref (ad b (4 * kv + o + 4))), (2, .int (iI (gv))), (3, .int (iI (i + 1)))]) [2, 3, 4, 0] rfl ?_
                exact ih_16 (i + 1) gv kv _ (by omega) hb2 (Or.inr ⟨hk, rfl, hg⟩) (by omega)
              · have hdi : due C o i := hdu.mpr (by omega)
                refine y_aload_n hB 1 dX0_mostUrgentToCheck_56 rfl rfl ?_
                refine y_aload hB 0 dX0_mostUrgentToCheck_57 rfl ?_
                refine m_V hB msX0_urgencyOf q296 (tX0_urgencyOf _ G b C S o (4 * i + o + 4) N ho hq_26 hD hl_26 hN) (t := 1) (ho).1 (by decide) rfl rfl rfl rfl rfl ⟨Nat.le_of_ble_eq_true rfl, Nat.le_of_ble_eq_true rfl⟩ (Nat.le_of_ble_eq_true rfl) ⟨rfl, rfl⟩ ⟨Nat.le_of_ble_eq_true rfl, Nat.le_of_ble_eq_true rfl⟩ dX0_mostUrgentToCheck_59 (k_RI (fun v_59 h_59 => ?_))
                have hu_59 := urg_b (o := o) hl_26
                refine y_istore (lv' := [(5, .int (iI (v_59))), (4, .ref (ad b (4 * i + o + 4))), (0, .ref (ad b (o))), (1, .ref (ad b (4 * kv + o + 4))), (2, .int (iI (gv))), (3, .int (iI (i)))]) hB dX0_mostUrgentToCheck_62 (by decide) rfl ?_
                refine y_aload_n hB 3 dX0_mostUrgentToCheck_64 rfl rfl ?_
                refine y_ifnull hB dX0_mostUrgentToCheck_65 ?_
                refine y_iload hB 0 dX0_mostUrgentToCheck_68 rfl ?_
                refine y_iload_n hB 4 dX0_mostUrgentToCheck_70 rfl rfl ?_
                refine y_icmp_le hB 80 dX0_mostUrgentToCheck_71 (by decide) (by omega) (by have h9 := isBest_k hb hk; have h8 := urg_b (o := o) (hlv kv hk (by omega)); unfold urgP at hg; omega) (fun c_71 => ?_) (fun c_71 => ?_)
                · have hb2 := isBest_old hb hi.1 hk (by rw [← hg]; unfold urgP; omega)
                  refine y_iinc (v := i + 1) (lv' := [(3, .int (iI (i + 1))), (5, .int (iI (v_59))), (4, .ref (ad b (4 * i + o + 4))), (0, .ref (ad b (o))), (1, .ref (ad b (4 * kv + o + 4))), (2, .int (iI (gv)))]) hB 5 dX0_mostUrgentToCheck_80 rfl (by omega) (by decide) rfl ?_
                  refine y_goto hB 16 dX0_mostUrgentToCheck_83 (by decide) ?_
                  refine y_sub (lv' := [(0, .ref (ad b (o))), (1, .ref (ad b (4 * kv + o + 4))), (2, .int (iI (gv))), (3, .int (iI (i + 1)))]) [3, 4, 5, 0] rfl ?_
                  exact ih_16 (i + 1) gv kv _ (by omega) hb2 (Or.inr ⟨hk, rfl, hg⟩) (by omega)
                · have hb2 := isBest_new hb hi.1 hdi (Or.inr (by rw [← hg]; unfold urgP; omega))
                  refine y_aload hB 1 dX0_mostUrgentToCheck_74 rfl ?_
                  refine y_astore_n (lv' := [(1, .ref (ad b (4 * i + o + 4))), (5, .int (iI (v_59))), (4, .ref (ad b (4 * i + o + 4))), (0, .ref (ad b (o))), (2, .int (iI (gv))), (3, .int (iI (i)))]) hB dX0_mostUrgentToCheck_76 rfl (by decide) rfl ?_
                  refine y_iload hB 1 dX0_mostUrgentToCheck_77 rfl ?_
                  refine y_istore_n (lv' := [(2, .int (iI (v_59))), (1, .ref (ad b (4 * i + o + 4))), (5, .int (iI (v_59))), (4, .ref (ad b (4 * i + o + 4))), (0, .ref (ad b (o))), (3, .int (iI (i)))]) hB dX0_mostUrgentToCheck_79 rfl (by decide) rfl ?_
                  refine y_iinc (v := i + 1) (lv' := [(3, .int (iI (i + 1))), (2, .int (iI (v_59))), (1, .ref (ad b (4 * i + o + 4))), (5, .int (iI (v_59))), (4, .ref (ad b (4 * i + o + 4))), (0, .ref (ad b (o)))]) hB 5 dX0_mostUrgentToCheck_80 rfl (by omega) (by decide) rfl ?_
                  refine y_goto hB 16 dX0_mostUrgentToCheck_83 (by decide) ?_
                  refine y_sub (lv' := [(0, .ref (ad b (o))), (1, .ref (ad b (4 * i + o + 4))), (2, .int (iI (v_59))), (3, .int (iI (i + 1)))]) [5, 2, 1, 0] rfl ?_
                  exact ih_16 (i + 1) v_59 i _ (by omega) hb2 (Or.inr ⟨hi.1, rfl, h_59⟩) (by omega)
    refine y_sub (lv' := [(0, .ref (ad b (o))), (1, .null), (2, .int (iI (0))), (3, .int (iI (0)))]) [3, 2, 1, 0] rfl ?_
    exact LOOP_16 ((C o 3).toNat + 1) 0 0 (-5) .null (by omega) (isBest_0 _ _) (Or.inl ⟨rfl, rfl⟩) (by omega)
  · refine y_null hB dX0_mostUrgentToCheck_8 ?_
    exact m_rv hB hE dX0_mostUrgentToCheck_9 (Or.inl rfl) (Or.inl ⟨rfl, Or.inl (by omega)⟩)
