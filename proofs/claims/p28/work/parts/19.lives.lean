/-! the acts of the desk -/
theorem hst_up {D : gM} {q x y z : Int} (h : ∀ i : Int, 0 ≤ i → i < D 1 3 → 0 ≤ D (4 * i + 1 + 4) 2 ∧ D (4 * i + 1 + 4) 2 ≤ 3) (hx : 0 ≤ x ∧ x ≤ 3) (hq : q ≠ 1) : ∀ i : Int, 0 ≤ i → i < up2 (up2 (up2 D q 2 x) q 3 y) q 4 z 1 3 → 0 ≤ up2 (up2 (up2 D q 2 x) q 3 y) q 4 z (4 * i + 1 + 4) 2 ∧ up2 (up2 (up2 D q 2 x) q 3 y) q 4 z (4 * i + 1 + 4) 2 ≤ 3 := by
  intro i a1 a2
  rw [rd_k (by omega), rd_k (by omega), rd_k (by omega)] at a2
  rw [rd_i (by omega), rd_i (by omega)]
  by_cases hi : 4 * i + 1 + 4 = q
  · rw [rd_hit hi rfl]; exact hx
  · rw [rd_k hi]; exact h i a1 a2
theorem DkOk_st {C : gM} {o N : Int} (h : DkOk C o N) : ∀ i : Int, 0 ≤ i → i < C o 3 → 0 ≤ C (4 * i + o + 4) 2 ∧ C (4 * i + o + 4) 2 ≤ 3 := fun i a1 a2 => (h.2.2.2.2.2.2.2.2.2.2 i a1 a2).2.2.1
theorem y_astoreN {x : gX} {G : gG} {b cl sl nL : Nat} {own nm : String} {cc : ByteArray} {ret : Option FieldType} {rm : Room} {n : Int} {w : Int → va_E} {pc : Nat} {lv : List (Nat × Value)} {st : List Value} (hB : Bx x G b own cc nL ret rm nm) {i : Nat} {lv' : List (Nat × Value)} (d : decode cc pc = .ok (.astore i, 2)) (hn : i < nL) (hl : (i, Value.null) :: lv.filter (fun q => !(q.1 == i) && !(q.1 + 1 == i && q.2.category == 2)) = lv') (kk : Y x G b cl sl n w (pc + 2) lv' (st)) : Y x G b cl sl n w (pc) lv (.null :: st) := by
  obtain ⟨hx, hb, hml, hown, hts, hK, hbs, hlk, hrt, hR, hnm⟩ := hB
  intro H locs ls hRp hS hL
  exact lv_astoreN hx hb d hL (by rw [hml]; exact hn) hl (fun ls hL => kk H locs ls hRp hS hL)
set_option maxHeartbeats 4000000 in
theorem tX6_addPerson (l : Launch) (G : gG) (b : Nat) (C S : gM) (u t N : Int) (hu : -2147483648 ≤ u ∧ u ≤ 2147483647) (ht : -2147483648 ≤ t ∧ t ≤ 2147483647) (hD : DkOk C 1 N) (hN : N ≤ 512) (hhf : 0 ≤ C 169 1 ∧ C 169 1 < 4) (hhs : 0 ≤ C 169 2 ∧ C 169 2 ≤ 4) : Ct l G b yX6_addPerson cX6_addPerson 3 (some .int) rmX6_addPerson [.ref (ad b (0)), .int (iI (u)), .int (iI (t))] 578 (wM G b C S) (WI G b S (fun v C' => ((¬ (0 ≤ u ∧ u ≤ 110 ∧ 1 ≤ t ∧ t ≤ 9)) ∧ v = -2 ∧ C' = C) ∨ (((0 ≤ u ∧ u ≤ 110 ∧ 1 ≤ t ∧ t ≤ 9) ∧ 20 ≤ C 1 3) ∧ v = -3 ∧ C' = C) ∨ (((0 ≤ u ∧ u ≤ 110 ∧ 1 ≤ t ∧ t ≤ 9) ∧ C 1 3 < 20) ∧ v = remC C 1 3 ∧ C' = bgn (up2 (remC C) 1 3 (remC C 1 3 + 1)) (4 * remC C 1 3 + 5) u t))) := by
  refine CtK_of (by decide) (Nat.le_of_ble_eq_true rfl) q191 ?_
  intro x hl hB hE _
  subst hl
  show YM x G b 0 0 C S 0 [(0, .ref (ad b (0))), (1, .int (iI (u))), (2, .int (iI (t)))] []
  obtain ⟨hd3, hd4, hd5, hd6, hs0, hs1, hs2, hs3, hs4, htr, hlv⟩ := id hD
  refine y_iload_n hB 1 dX6_addPerson_0 rfl rfl ?_
  refine y_iconst (v := 0) hB dX6_addPerson_1 rfl ?_
  refine y_bipush (v := 110) hB dX6_addPerson_2 (by decide) ?_
  refine m_S hB msX6_isWithin q192 (tX6_isWithin _ G b C S u 0 110 (by omega) (by omega) (by omega)) rfl rfl ⟨Nat.le_of_ble_eq_true rfl, Nat.le_of_ble_eq_true rfl⟩ (Nat.le_of_ble_eq_true rfl) ⟨rfl, rfl⟩ ⟨Nat.le_of_ble_eq_true rfl, Nat.le_of_ble_eq_true rfl⟩ dX6_addPerson_4 (k_RI (fun v_4 h_4 => ?_))
  refine y_if_eq hB 20 dX6_addPerson_7 (by decide) (by omega) (fun c_7 => ?_) (fun c_7 => ?_)
  · refine y_bipush (v := -2) hB dX6_addPerson_20 (by decide) ?_
    exact m_wi hB hE dX6_addPerson_22 rfl (Or.inl (⟨by omega, rfl, rfl⟩))
  · refine y_iload_n hB 2 dX6_addPerson_10 rfl rfl ?_
    refine y_iconst (v := 1) hB dX6_addPerson_11 rfl ?_
    refine y_bipush (v := 9) hB dX6_addPerson_12 (by decide) ?_
    refine m_S hB msX6_isWithin q192 (tX6_isWithin _ G b C S t 1 9 (by omega) (by omega) (by omega)) rfl rfl ⟨Nat.le_of_ble_eq_true rfl, Nat.le_of_ble_eq_true rfl⟩ (Nat.le_of_ble_eq_true rfl) ⟨rfl, rfl⟩ ⟨Nat.le_of_ble_eq_true rfl, Nat.le_of_ble_eq_true rfl⟩ dX6_addPerson_14 (k_RI (fun v_14 h_14 => ?_))
    refine y_if_ne hB 23 dX6_addPerson_17 (by decide) (by omega) (fun c_17 => ?_) (fun c_17 => ?_)
    · refine y_aload_n hB 0 dX6_addPerson_23 rfl rfl ?_
      refine gt_6_0 hB (by decide) (t1 := 1) (by omega) dX6_addPerson_24 ?_
      refine m_V hB msX0_roomForPersons q195 (tX0_roomForPersons _ G b C S 1 (desk_1).1) (t := 1) (desk_1).1 (by decide) rfl rfl rfl rfl rfl ⟨Nat.le_of_ble_eq_true rfl, Nat.le_of_ble_eq_true rfl⟩ (Nat.le_of_ble_eq_true rfl) ⟨rfl, rfl⟩ ⟨Nat.le_of_ble_eq_true rfl, Nat.le_of_ble_eq_true rfl⟩ dX6_addPerson_27 (k_RI (fun v_27 h_27 => ?_))
      refine y_iconst (v := 1) hB dX6_addPerson_30 rfl ?_
      refine y_icmp_ge hB 37 dX6_addPerson_31 (by decide) (by omega) (by omega) (fun c_31 => ?_) (fun c_31 => ?_)
      · refine y_aload_n hB 0 dX6_addPerson_37 rfl rfl ?_
        refine gt_6_3 hB (by decide) (t1 := 169) (by omega) dX6_addPerson_38 ?_
        refine y_aload_n hB 0 dX6_addPerson_41 rfl rfl ?_
        refine gt_6_0 hB (by decide) (t1 := 1) (by omega) dX6_addPerson_42 ?_
        refine m_V hB msX1_remember q199 (tX1_remember _ G b C S hhf hhs hd3) (t := 7) (by decide) (by decide) rfl rfl rfl rfl rfl ⟨Nat.le_of_ble_eq_true rfl, Nat.le_of_ble_eq_true rfl⟩ (Nat.le_of_ble_eq_true rfl) ⟨rfl, rfl⟩ ⟨Nat.le_of_ble_eq_true rfl, Nat.le_of_ble_eq_true rfl⟩ dX6_addPerson_45 (k_WV (fun C_45 h_45 => ?_))
        obtain rfl := h_45
        have agR := remC_ag hd3
        have hDR := DkOk_ag agR hD
        have er := agR 1 (by omega) (by omega)
        have e3 : (remC C) 1 3 = C 1 3 := by rw [er]
        have e4 : (remC C) 1 4 = C 1 4 := by rw [er]
        have e5 : (remC C) 1 5 = C 1 5 := by rw [er]
        have e6 : (remC C) 1 6 = C 1 6 := by rw [er]
        refine y_aload_n hB 0 dX6_addPerson_48 rfl rfl ?_
        refine gt_6_0 hB (by decide) (t1 := 1) (by omega) dX6_addPerson_49 ?_
        refine y_iload_n hB 1 dX6_addPerson_52 rfl rfl ?_
        refine y_iload_n hB 2 dX6_addPerson_53 rfl rfl ?_
        refine m_V hB msX0_join q223 (tX0_join _ G b (remC C) S 1 u t ((remC C) 1 3) (4 * ((remC C) 1 3) + 5) desk_1 rfl (by omega) (by omega)) (t := 1) (desk_1).1 (by decide) rfl rfl rfl rfl rfl ⟨Nat.le_of_ble_eq_true rfl, Nat.le_of_ble_eq_true rfl⟩ (Nat.le_of_ble_eq_true rfl) ⟨rfl, rfl⟩ ⟨Nat.le_of_ble_eq_true rfl, Nat.le_of_ble_eq_true rfl⟩ dX6_addPerson_54 (k_WI (fun v_54 C_54 h_54 => ?_))
        obtain ⟨rfl, rfl⟩ := h_54
        exact m_wi hB hE dX6_addPerson_57 rfl (Or.inr (Or.inr (⟨by omega, rfl, rfl⟩)))
      · refine y_bipush (v := -3) hB dX6_addPerson_34 (by decide) ?_
        exact m_wi hB hE dX6_addPerson_36 rfl (Or.inr (Or.inl (⟨by omega, rfl, rfl⟩)))
    · refine y_bipush (v := -2) hB dX6_addPerson_20 (by decide) ?_
      exact m_wi hB hE dX6_addPerson_22 rfl (Or.inl (⟨by omega, rfl, rfl⟩))
set_option maxHeartbeats 4000000 in
theorem tX6_write (l : Launch) (G : gG) (b : Nat) (C S : gM) (u t z N : Int) (hu : -2147483648 ≤ u ∧ u ≤ 2147483647) (ht : -2147483648 ≤ t ∧ t ≤ 2147483647) (hz : -2147483648 ≤ z ∧ z ≤ 2147483647) (hD : DkOk C 1 N) (hN : N ≤ 512) (hhf : 0 ≤ C 169 1 ∧ C 169 1 < 4) (hhs : 0 ≤ C 169 2 ∧ C 169 2 ≤ 4) : Ct l G b yX6_write cX6_write 5 (some .int) rmX6_write [.ref (ad b (0)), .int (iI (u)), .int (iI (t)), .int (iI (z))] 578 (wM G b C S) (WI G b S (fun v C' => ((¬ (0 ≤ u ∧ u < C 1 3 ∧ 0 ≤ t ∧ t < 6)) ∧ v = -1 ∧ C' = C) ∨ (((0 ≤ u ∧ u < C 1 3 ∧ 0 ≤ t ∧ t < 6) ∧ ¬ (1 ≤ z ∧ z ≤ 9)) ∧ v = -2 ∧ C' = C) ∨ (((0 ≤ u ∧ u < C 1 3 ∧ 0 ≤ t ∧ t < 6) ∧ (1 ≤ z ∧ z ≤ 9) ∧ C (4 * u + 5) 2 = 3) ∧ v = -4 ∧ C' = C) ∨ (((0 ≤ u ∧ u < C 1 3 ∧ 0 ≤ t ∧ t < 6) ∧ (1 ≤ z ∧ z ≤ 9) ∧ ¬ C (4 * u + 5) 2 = 3 ∧ ¬ (C (4 * u + 5) 6 < 8 ∧ z ≤ C 1 5)) ∧ v = -3 ∧ C' = C) ∨ (((0 ≤ u ∧ u < C 1 3 ∧ 0 ≤ t ∧ t < 6) ∧ (1 ≤ z ∧ z ≤ 9) ∧ ¬ C (4 * u + 5) 2 = 3 ∧ (C (4 * u + 5) 6 < 8 ∧ z ≤ C 1 5)) ∧ v = remC C (4 * u + 5) 6 ∧ C' = up2 (up2 (up2 (up2 (up2 (remC C) 1 5 (remC C 1 5 - z)) (4 * u + 5 + 1) (remC C (4 * u + 5) 6) t) (4 * u + 5 + 2) (remC C (4 * u + 5) 6) z) (4 * u + 5 + 3) (remC C (4 * u + 5) 6) (remC C 1 4)) (4 * u + 5) 6 (remC C (4 * u + 5) 6 + 1)))) := by
  refine CtK_of (by decide) (Nat.le_of_ble_eq_true rfl) q595 ?_
  intro x hl hB hE _
  subst hl
  show YM x G b 0 0 C S 0 [(0, .ref (ad b (0))), (1, .int (iI (u))), (2, .int (iI (t))), (3, .int (iI (z)))] []
  obtain ⟨hd3, hd4, hd5, hd6, hs0, hs1, hs2, hs3, hs4, htr, hlv⟩ := id hD
  refine y_aload_n hB 0 dX6_write_0 rfl rfl ?_
  refine gt_6_0 hB (by decide) (t1 := 1) (by omega) dX6_write_1 ?_
  refine y_iload_n hB 1 dX6_write_4 rfl rfl ?_
  by_cases hpr : 0 ≤ u ∧ u < C 1 3
  · refine m_V hB msX0_lifeOf q368 (tX0_lifeOf _ G b C S 1 u (4 * u + 5) desk_1 (by omega) (by omega) (by omega)) (t := 1) (desk_1).1 (by decide) rfl rfl rfl rfl rfl ⟨Nat.le_of_ble_eq_true rfl, Nat.le_of_ble_eq_true rfl⟩ (Nat.le_of_ble_eq_true rfl) ⟨rfl, rfl⟩ ⟨Nat.le_of_ble_eq_true rfl, Nat.le_of_ble_eq_true rfl⟩ dX6_write_5 (k_RR ?_)
    have hq_5 : isLife (4 * u + 5) := life_at desk_1 (i := u) (by omega) (by omega)
    have hl_5 := hlv (u) (by omega) (by omega)
    rw [show 4 * (u) + 1 + 4 = 4 * u + 5 by omega] at hl_5
    obtain ⟨ha_5, hb_5, hc_5, hd_5, he_5, hf_5, hg_5, hh_5, hi_5⟩ := id hl_5
    refine y_astore (lv' := [(4, .ref (ad b (4 * u + 5))), (0, .ref (ad b (0))), (1, .int (iI (u))), (2, .int (iI (t))), (3, .int (iI (z)))]) hB dX6_write_8 (by decide) rfl ?_
    refine y_aload hB 0 dX6_write_10 rfl ?_
    refine y_ifnull hB dX6_write_12 ?_
    refine y_iload_n hB 3 dX6_write_15 rfl rfl ?_
    refine m_S hB msX6_isSource q520 (tX6_isSource _ G b C S t (by omega)) rfl rfl ⟨Nat.le_of_ble_eq_true rfl, Nat.le_of_ble_eq_true rfl⟩ (Nat.le_of_ble_eq_true rfl) ⟨rfl, rfl⟩ ⟨Nat.le_of_ble_eq_true rfl, Nat.le_of_ble_eq_true rfl⟩ dX6_write_16 (k_RI (fun v_16 h_16 => ?_))
    refine y_if_ne hB 24 dX6_write_19 (by decide) (by omega) (fun c_19 => ?_) (fun c_19 => ?_)
    · refine y_iload_n hB 4 dX6_write_24 rfl rfl ?_
      refine y_iconst (v := 1) hB dX6_write_25 rfl ?_
      refine y_bipush (v := 9) hB dX6_write_26 (by decide) ?_
      refine m_S hB msX6_isWithin q192 (tX6_isWithin _ G b C S z 1 9 (by omega) (by omega) (by omega)) rfl rfl ⟨Nat.le_of_ble_eq_true rfl, Nat.le_of_ble_eq_true rfl⟩ (Nat.le_of_ble_eq_true rfl) ⟨rfl, rfl⟩ ⟨Nat.le_of_ble_eq_true rfl, Nat.le_of_ble_eq_true rfl⟩ dX6_write_28 (k_RI (fun v_28 h_28 => ?_))
      refine y_if_ne hB 37 dX6_write_31 (by decide) (by omega) (fun c_31 => ?_) (fun c_31 => ?_)
      · refine y_aload hB 0 dX6_write_37 rfl ?_
        refine y_iconst (v := 3) hB dX6_write_39 rfl ?_
        refine m_V hB msX2_isIn q396 (tX2_isIn _ G b C S (4 * u + 5) 3 (hq_5).1 (by omega) (by omega)) (t := 5) (hq_5).1 (by decide) rfl rfl rfl rfl rfl ⟨Nat.le_of_ble_eq_true rfl, Nat.le_of_ble_eq_true rfl⟩ (Nat.le_of_ble_eq_true rfl) ⟨rfl, rfl⟩ ⟨Nat.le_of_ble_eq_true rfl, Nat.le_of_ble_eq_true rfl⟩ dX6_write_40 (k_RI (fun v_40 h_40 => ?_))
        refine y_if_eq hB 49 dX6_write_43 (by decide) (by omega) (fun c_43 => ?_) (fun c_43 => ?_)
        · refine y_aload hB 0 dX6_write_49 rfl ?_
          refine m_V hB msX2_size q375 (tX2_size _ G b C S (4 * u + 5) (hq_5).1) (t := 5) (hq_5).1 (by decide) rfl rfl rfl rfl rfl ⟨Nat.le_of_ble_eq_true rfl, Nat.le_of_ble_eq_true rfl⟩ (Nat.le_of_ble_eq_true rfl) ⟨rfl, rfl⟩ ⟨Nat.le_of_ble_eq_true rfl, Nat.le_of_ble_eq_true rfl⟩ dX6_write_51 (k_RI (fun v_51 h_51 => ?_))
          refine y_bipush (v := 8) hB dX6_write_54 (by decide) ?_
          refine y_icmp_ge hB 70 dX6_write_56 (by decide) (by omega) (by omega) (fun c_56 => ?_) (fun c_56 => ?_)
          · refine y_bipush (v := -3) hB dX6_write_70 (by decide) ?_
            exact m_wi hB hE dX6_write_72 rfl (Or.inr (Or.inr (Or.inr (Or.inl (⟨by omega, rfl, rfl⟩)))))
          · refine y_aload_n hB 1 dX6_write_59 rfl rfl ?_
            refine gt_6_0 hB (by decide) (t1 := 1) (by omega) dX6_write_60 ?_
            refine m_V hB msX0_hoursLeft q467 (tX0_hoursLeft _ G b C S 1 (desk_1).1) (t := 1) (desk_1).1 (by decide) rfl rfl rfl rfl rfl ⟨Nat.le_of_ble_eq_true rfl, Nat.le_of_ble_eq_true rfl⟩ (Nat.le_of_ble_eq_true rfl) ⟨rfl, rfl⟩ ⟨Nat.le_of_ble_eq_true rfl, Nat.le_of_ble_eq_true rfl⟩ dX6_write_63 (k_RI (fun v_63 h_63 => ?_))
            refine y_iload_n hB 4 dX6_write_66 rfl rfl ?_
            refine y_icmp_ge hB 73 dX6_write_67 (by decide) (by omega) (by omega) (fun c_67 => ?_) (fun c_67 => ?_)
            · refine y_aload_n hB 1 dX6_write_73 rfl rfl ?_
              refine gt_6_3 hB (by decide) (t1 := 169) (by omega) dX6_write_74 ?_
              refine y_aload_n hB 1 dX6_write_77 rfl rfl ?_
              refine gt_6_0 hB (by decide) (t1 := 1) (by omega) dX6_write_78 ?_
              refine m_V hB msX1_remember q199 (tX1_remember _ G b C S hhf hhs hd3) (t := 7) (by decide) (by decide) rfl rfl rfl rfl rfl ⟨Nat.le_of_ble_eq_true rfl, Nat.le_of_ble_eq_true rfl⟩ (Nat.le_of_ble_eq_true rfl) ⟨rfl, rfl⟩ ⟨Nat.le_of_ble_eq_true rfl, Nat.le_of_ble_eq_true rfl⟩ dX6_write_81 (k_WV (fun C_81 h_81 => ?_))
              obtain rfl := h_81
              have agR := remC_ag hd3
              have hDR := DkOk_ag agR hD
              have er := agR 1 (by omega) (by omega)
              have e3 : (remC C) 1 3 = C 1 3 := by rw [er]
              have e4 : (remC C) 1 4 = C 1 4 := by rw [er]
              have e5 : (remC C) 1 5 = C 1 5 := by rw [er]
              have e6 : (remC C) 1 6 = C 1 6 := by rw [er]
              have erq := agR (4 * u + 5) (by omega) (by omega)
              have eq6 : (remC C) (4 * u + 5) 6 = C (4 * u + 5) 6 := by rw [erq]
              have eq2 : (remC C) (4 * u + 5) 2 = C (4 * u + 5) 2 := by rw [erq]
              refine y_aload_n hB 1 dX6_write_84 rfl rfl ?_
              refine gt_6_0 hB (by decide) (t1 := 1) (by omega) dX6_write_85 ?_
              refine y_iload_n hB 4 dX6_write_88 rfl rfl ?_
              refine m_V hB msX0_spendHours q596 (tX0_spendHours _ G b (remC C) S 1 z ((remC C) 1 5 - z) (desk_1).1 (by have h9 : (remC C) 1 5 = (remC C) 1 5 := rfl; omega)) (t := 1) (desk_1).1 (by decide) rfl rfl rfl rfl rfl ⟨Nat.le_of_ble_eq_true rfl, Nat.le_of_ble_eq_true rfl⟩ (Nat.le_of_ble_eq_true rfl) ⟨rfl, rfl⟩ ⟨Nat.le_of_ble_eq_true rfl, Nat.le_of_ble_eq_true rfl⟩ dX6_write_89 (k_WV (fun C_89 h_89 => ?_))
              obtain rfl := h_89
              refine y_aload hB 0 dX6_write_92 rfl ?_
              refine y_iload_n hB 3 dX6_write_94 rfl rfl ?_
              refine y_iload_n hB 4 dX6_write_95 rfl rfl ?_
              refine y_aload_n hB 1 dX6_write_96 rfl rfl ?_
              refine gt_6_0 hB (by decide) (t1 := 1) (by omega) dX6_write_97 ?_
              refine m_V hB msX0_today q356 (tX0_today _ G b (up2 (remC C) 1 5 ((remC C) 1 5 - z)) S 1 (desk_1).1) (t := 1) (desk_1).1 (by decide) rfl rfl rfl rfl rfl ⟨Nat.le_of_ble_eq_true rfl, Nat.le_of_ble_eq_true rfl⟩ (Nat.le_of_ble_eq_true rfl) ⟨rfl, rfl⟩ ⟨Nat.le_of_ble_eq_true rfl, Nat.le_of_ble_eq_true rfl⟩ dX6_write_100 (k_RI (fun v_100 h_100 => ?_))
              rw [rd_i (by omega)] at h_100
              refine m_V hB msX2_addFact q597 (tX2_addFact _ G b (up2 (remC C) 1 5 ((remC C) 1 5 - z)) S (4 * u + 5) t z v_100 ((remC C) (4 * u + 5) 6) (((remC C) (4 * u + 5) 6) + 1) hq_5 (rd_k (by omega)) (by omega) (by omega)) (t := 5) (hq_5).1 (by decide) rfl rfl rfl rfl rfl ⟨Nat.le_of_ble_eq_true rfl, Nat.le_of_ble_eq_true rfl⟩ (Nat.le_of_ble_eq_true rfl) ⟨rfl, rfl⟩ ⟨Nat.le_of_ble_eq_true rfl, Nat.le_of_ble_eq_true rfl⟩ dX6_write_103 (k_WI (fun v_103 C_103 h_103 => ?_))
              obtain ⟨h_103, rfl⟩ := h_103
              exact m_wi hB hE dX6_write_106 rfl (Or.inr (Or.inr (Or.inr (Or.inr (⟨by omega, h_103, by rw [h_100]⟩)))))
            · refine y_bipush (v := -3) hB dX6_write_70 (by decide) ?_
              exact m_wi hB hE dX6_write_72 rfl (Or.inr (Or.inr (Or.inr (Or.inl (⟨by omega, rfl, rfl⟩)))))
        · refine y_bipush (v := -4) hB dX6_write_46 (by decide) ?_
          exact m_wi hB hE dX6_write_48 rfl (Or.inr (Or.inr (Or.inl (⟨by omega, rfl, rfl⟩))))
      · refine y_bipush (v := -2) hB dX6_write_34 (by decide) ?_
        exact m_wi hB hE dX6_write_36 rfl (Or.inr (Or.inl (⟨by omega, rfl, rfl⟩)))
    · refine y_iconst (v := -1) hB dX6_write_22 rfl ?_
      exact m_wi hB hE dX6_write_23 rfl (Or.inl (⟨by omega, rfl, rfl⟩))
  · refine m_V hB msX0_lifeOf q368 (tX0_lifeOfN _ G b C S 1 u desk_1 (by omega) (by omega) (by omega)) (t := 1) (desk_1).1 (by decide) rfl rfl rfl rfl rfl ⟨Nat.le_of_ble_eq_true rfl, Nat.le_of_ble_eq_true rfl⟩ (Nat.le_of_ble_eq_true rfl) ⟨rfl, rfl⟩ ⟨Nat.le_of_ble_eq_true rfl, Nat.le_of_ble_eq_true rfl⟩ dX6_write_5 (k_RR ?_)
    refine y_astoreN (lv' := [(4, .null), (0, .ref (ad b (0))), (1, .int (iI (u))), (2, .int (iI (t))), (3, .int (iI (z)))]) hB dX6_write_8 (by decide) rfl ?_
    refine y_aloadN hB 0 dX6_write_10 rfl ?_
    refine y_ifnullN hB 22 dX6_write_12 (by decide) ?_
    refine y_iconst (v := -1) hB dX6_write_22 rfl ?_
    exact m_wi hB hE dX6_write_23 rfl (Or.inl (⟨by omega, rfl, rfl⟩))
set_option maxHeartbeats 4000000 in
theorem tX6_check (l : Launch) (G : gG) (b : Nat) (C S : gM) (u t N : Int) (hu : -2147483648 ≤ u ∧ u ≤ 2147483647) (ht : -2147483648 ≤ t ∧ t ≤ 2147483647) (hD : DkOk C 1 N) (hN : N ≤ 512) (hhf : 0 ≤ C 169 1 ∧ C 169 1 < 4) (hhs : 0 ≤ C 169 2 ∧ C 169 2 ≤ 4) : Ct l G b yX6_check cX6_check 4 (some .int) rmX6_check [.ref (ad b (0)), .int (iI (u)), .int (iI (t))] 578 (wM G b C S) (WI G b S (fun v C' => ((¬ (0 ≤ u ∧ u < C 1 3 ∧ 0 ≤ t ∧ t < C (4 * u + 5) 6)) ∧ v = -1 ∧ C' = C) ∨ (((0 ≤ u ∧ u < C 1 3 ∧ 0 ≤ t ∧ t < C (4 * u + 5) 6) ∧ C (4 * u + 5) 2 = 3) ∧ v = -4 ∧ C' = C) ∨ (((0 ≤ u ∧ u < C 1 3 ∧ 0 ≤ t ∧ t < C (4 * u + 5) 6) ∧ ¬ C (4 * u + 5) 2 = 3 ∧ C 1 5 < 1) ∧ v = -3 ∧ C' = C) ∨ (((0 ≤ u ∧ u < C 1 3 ∧ 0 ≤ t ∧ t < C (4 * u + 5) 6) ∧ ¬ C (4 * u + 5) 2 = 3 ∧ 1 ≤ C 1 5 ∧ C (4 * u + 8) t = C 1 4) ∧ v = -5 ∧ C' = C) ∨ (((0 ≤ u ∧ u < C 1 3 ∧ 0 ≤ t ∧ t < C (4 * u + 5) 6) ∧ ¬ C (4 * u + 5) 2 = 3 ∧ 1 ≤ C 1 5 ∧ ¬ C (4 * u + 8) t = C 1 4) ∧ v = remC C 1 5 - 1 ∧ C' = up2 (up2 (remC C) (4 * u + 8) t (remC C 1 4)) 1 5 (remC C 1 5 - 1)))) := by
  refine CtK_of (by decide) (Nat.le_of_ble_eq_true rfl) q604 ?_
  intro x hl hB hE _
  subst hl
  show YM x G b 0 0 C S 0 [(0, .ref (ad b (0))), (1, .int (iI (u))), (2, .int (iI (t)))] []
  obtain ⟨hd3, hd4, hd5, hd6, hs0, hs1, hs2, hs3, hs4, htr, hlv⟩ := id hD
  refine y_aload_n hB 0 dX6_check_0 rfl rfl ?_
  refine gt_6_0 hB (by decide) (t1 := 1) (by omega) dX6_check_1 ?_
  refine y_iload_n hB 1 dX6_check_4 rfl rfl ?_
  by_cases hpr : 0 ≤ u ∧ u < C 1 3
  · refine m_V hB msX0_lifeOf q368 (tX0_lifeOf _ G b C S 1 u (4 * u + 5) desk_1 (by omega) (by omega) (by omega)) (t := 1) (desk_1).1 (by decide) rfl rfl rfl rfl rfl ⟨Nat.le_of_ble_eq_true rfl, Nat.le_of_ble_eq_true rfl⟩ (Nat.le_of_ble_eq_true rfl) ⟨rfl, rfl⟩ ⟨Nat.le_of_ble_eq_true rfl, Nat.le_of_ble_eq_true rfl⟩ dX6_check_5 (k_RR ?_)
    have hq_5 : isLife (4 * u + 5) := life_at desk_1 (i := u) (by omega) (by omega)
    have hl_5 := hlv (u) (by omega) (by omega)
    rw [show 4 * (u) + 1 + 4 = 4 * u + 5 by omega] at hl_5
    obtain ⟨ha_5, hb_5, hc_5, hd_5, he_5, hf_5, hg_5, hh_5, hi_5⟩ := id hl_5
    refine y_astore_n (lv' := [(3, .ref (ad b (4 * u + 5))), (0, .ref (ad b (0))), (1, .int (iI (u))), (2, .int (iI (t)))]) hB dX6_check_8 rfl (by decide) rfl ?_
    refine y_aload_n hB 0 dX6_check_9 rfl rfl ?_
    refine y_ifnull hB dX6_check_10 ?_
    refine y_aload_n hB 0 dX6_check_13 rfl rfl ?_
    refine y_iload_n hB 3 dX6_check_14 rfl rfl ?_
    refine m_V hB msX2_hasFact q506 (tX2_hasFact _ G b C S (4 * u + 5) t (hq_5).1 (by omega) (by omega)) (t := 5) (hq_5).1 (by decide) rfl rfl rfl rfl rfl ⟨Nat.le_of_ble_eq_true rfl, Nat.le_of_ble_eq_true rfl⟩ (Nat.le_of_ble_eq_true rfl) ⟨rfl, rfl⟩ ⟨Nat.le_of_ble_eq_true rfl, Nat.le_of_ble_eq_true rfl⟩ dX6_check_15 (k_RI (fun v_15 h_15 => ?_))
    refine y_if_ne hB 23 dX6_check_18 (by decide) (by omega) (fun c_18 => ?_) (fun c_18 => ?_)
    · refine y_aload_n hB 0 dX6_check_23 rfl rfl ?_
      refine y_iconst (v := 3) hB dX6_check_24 rfl ?_
      refine m_V hB msX2_isIn q396 (tX2_isIn _ G b C S (4 * u + 5) 3 (hq_5).1 (by omega) (by omega)) (t := 5) (hq_5).1 (by decide) rfl rfl rfl rfl rfl ⟨Nat.le_of_ble_eq_true rfl, Nat.le_of_ble_eq_true rfl⟩ (Nat.le_of_ble_eq_true rfl) ⟨rfl, rfl⟩ ⟨Nat.le_of_ble_eq_true rfl, Nat.le_of_ble_eq_true rfl⟩ dX6_check_25 (k_RI (fun v_25 h_25 => ?_))
      refine y_if_eq hB 34 dX6_check_28 (by decide) (by omega) (fun c_28 => ?_) (fun c_28 => ?_)
      · refine y_aload_n hB 1 dX6_check_34 rfl rfl ?_
        refine gt_6_0 hB (by decide) (t1 := 1) (by omega) dX6_check_35 ?_
        refine m_V hB msX0_hoursLeft q467 (tX0_hoursLeft _ G b C S 1 (desk_1).1) (t := 1) (desk_1).1 (by decide) rfl rfl rfl rfl rfl ⟨Nat.le_of_ble_eq_true rfl, Nat.le_of_ble_eq_true rfl⟩ (Nat.le_of_ble_eq_true rfl) ⟨rfl, rfl⟩ ⟨Nat.le_of_ble_eq_true rfl, Nat.le_of_ble_eq_true rfl⟩ dX6_check_38 (k_RI (fun v_38 h_38 => ?_))
        refine y_iconst (v := 1) hB dX6_check_41 rfl ?_
        refine y_icmp_ge hB 48 dX6_check_42 (by decide) (by omega) (by omega) (fun c_42 => ?_) (fun c_42 => ?_)
        · refine y_aload_n hB 0 dX6_check_48 rfl rfl ?_
          refine y_iload_n hB 3 dX6_check_49 rfl rfl ?_
          refine m_V hB msX2_dayOf q509 (tX2_dayOf _ G b C S (4 * u + 5) t hq_5 (by omega) (by omega)) (t := 5) (hq_5).1 (by decide) rfl rfl rfl rfl rfl ⟨Nat.le_of_ble_eq_true rfl, Nat.le_of_ble_eq_true rfl⟩ (Nat.le_of_ble_eq_true rfl) ⟨rfl, rfl⟩ ⟨Nat.le_of_ble_eq_true rfl, Nat.le_of_ble_eq_true rfl⟩ dX6_check_50 (k_RI (fun v_50 h_50 => ?_))
          rw [show 4 * u + 5 + 3 = 4 * u + 8 by omega] at h_50
          have hT_50 := (hi_5 t (by omega) (by omega)).2.2
          rw [show 4 * u + 5 + 3 = 4 * u + 8 by omega] at hT_50
          refine y_aload_n hB 1 dX6_check_53 rfl rfl ?_
          refine gt_6_0 hB (by decide) (t1 := 1) (by omega) dX6_check_54 ?_
          refine m_V hB msX0_today q356 (tX0_today _ G b C S 1 (desk_1).1) (t := 1) (desk_1).1 (by decide) rfl rfl rfl rfl rfl ⟨Nat.le_of_ble_eq_true rfl, Nat.le_of_ble_eq_true rfl⟩ (Nat.le_of_ble_eq_true rfl) ⟨rfl, rfl⟩ ⟨Nat.le_of_ble_eq_true rfl, Nat.le_of_ble_eq_true rfl⟩ dX6_check_57 (k_RI (fun v_57 h_57 => ?_))
          refine y_icmp_ne hB 66 dX6_check_60 (by decide) (by omega) (by omega) (fun c_60 => ?_) (fun c_60 => ?_)
          · refine y_aload_n hB 1 dX6_check_66 rfl rfl ?_
            refine gt_6_3 hB (by decide) (t1 := 169) (by omega) dX6_check_67 ?_
            refine y_aload_n hB 1 dX6_check_70 rfl rfl ?_
            refine gt_6_0 hB (by decide) (t1 := 1) (by omega) dX6_check_71 ?_
            refine m_V hB msX1_remember q199 (tX1_remember _ G b C S hhf hhs hd3) (t := 7) (by decide) (by decide) rfl rfl rfl rfl rfl ⟨Nat.le_of_ble_eq_true rfl, Nat.le_of_ble_eq_true rfl⟩ (Nat.le_of_ble_eq_true rfl) ⟨rfl, rfl⟩ ⟨Nat.le_of_ble_eq_true rfl, Nat.le_of_ble_eq_true rfl⟩ dX6_check_74 (k_WV (fun C_74 h_74 => ?_))
            obtain rfl := h_74
            have agR := remC_ag hd3
            have hDR := DkOk_ag agR hD
            have er := agR 1 (by omega) (by omega)
            have e3 : (remC C) 1 3 = C 1 3 := by rw [er]
            have e4 : (remC C) 1 4 = C 1 4 := by rw [er]
            have e5 : (remC C) 1 5 = C 1 5 := by rw [er]
            have e6 : (remC C) 1 6 = C 1 6 := by rw [er]
            have erq := agR (4 * u + 5) (by omega) (by omega)
            have eq6 : (remC C) (4 * u + 5) 6 = C (4 * u + 5) 6 := by rw [erq]
            have eq2 : (remC C) (4 * u + 5) 2 = C (4 * u + 5) 2 := by rw [erq]
            refine y_aload_n hB 1 dX6_check_77 rfl rfl ?_
            refine gt_6_0 hB (by decide) (t1 := 1) (by omega) dX6_check_78 ?_
            refine y_aload_n hB 0 dX6_check_81 rfl rfl ?_
            refine y_iload_n hB 3 dX6_check_82 rfl rfl ?_
            refine m_V hB msX0_checkToday q313 (tX0_checkToday _ G b (remC C) S 1 (4 * u + 5) t desk_1 hq_5 (by omega) (by omega) (by omega)) (t := 1) (desk_1).1 (by decide) rfl rfl rfl rfl rfl ⟨Nat.le_of_ble_eq_true rfl, Nat.le_of_ble_eq_true rfl⟩ (Nat.le_of_ble_eq_true rfl) ⟨rfl, rfl⟩ ⟨Nat.le_of_ble_eq_true rfl, Nat.le_of_ble_eq_true rfl⟩ dX6_check_83 (k_WV (fun C_83 h_83 => ?_))
            obtain rfl := h_83
            rw [show 4 * u + 5 + 3 = 4 * u + 8 by omega]
            refine y_aload_n hB 1 dX6_check_86 rfl rfl ?_
            refine gt_6_0 hB (by decide) (t1 := 1) (by omega) dX6_check_87 ?_
            refine m_V hB msX0_hoursLeft q467 (tX0_hoursLeft _ G b (up2 (up2 (remC C) (4 * u + 8) t ((remC C) 1 4)) 1 5 ((remC C) 1 5 - 1)) S 1 (desk_1).1) (t := 1) (desk_1).1 (by decide) rfl rfl rfl rfl rfl ⟨Nat.le_of_ble_eq_true rfl, Nat.le_of_ble_eq_true rfl⟩ (Nat.le_of_ble_eq_true rfl) ⟨rfl, rfl⟩ ⟨Nat.le_of_ble_eq_true rfl, Nat.le_of_ble_eq_true rfl⟩ dX6_check_90 (k_RI (fun v_90 h_90 => ?_))
            rw [rd_hit rfl rfl] at h_90
            exact m_wi hB hE dX6_check_93 rfl (Or.inr (Or.inr (Or.inr (Or.inr (⟨by omega, h_90, rfl⟩)))))
          · refine y_bipush (v := -5) hB dX6_check_63 (by decide) ?_
            exact m_wi hB hE dX6_check_65 rfl (Or.inr (Or.inr (Or.inr (Or.inl (⟨by omega, rfl, rfl⟩)))))
        · refine y_bipush (v := -3) hB dX6_check_45 (by decide) ?_
          exact m_wi hB hE dX6_check_47 rfl (Or.inr (Or.inr (Or.inl (⟨by omega, rfl, rfl⟩))))
      · refine y_bipush (v := -4) hB dX6_check_31 (by decide) ?_
        exact m_wi hB hE dX6_check_33 rfl (Or.inr (Or.inl (⟨by omega, rfl, rfl⟩)))
    · refine y_iconst (v := -1) hB dX6_check_21 rfl ?_
      exact m_wi hB hE dX6_check_22 rfl (Or.inl (⟨by omega, rfl, rfl⟩))
  · refine m_V hB msX0_lifeOf q368 (tX0_lifeOfN _ G b C S 1 u desk_1 (by omega) (by omega) (by omega)) (t := 1) (desk_1).1 (by decide) rfl rfl rfl rfl rfl ⟨Nat.le_of_ble_eq_true rfl, Nat.le_of_ble_eq_true rfl⟩ (Nat.le_of_ble_eq_true rfl) ⟨rfl, rfl⟩ ⟨Nat.le_of_ble_eq_true rfl, Nat.le_of_ble_eq_true rfl⟩ dX6_check_5 (k_RR ?_)
    refine y_astore_nN (lv' := [(3, .null), (0, .ref (ad b (0))), (1, .int (iI (u))), (2, .int (iI (t)))]) hB dX6_check_8 rfl (by decide) rfl ?_
    refine y_aload_nN hB 0 dX6_check_9 rfl rfl ?_
    refine y_ifnullN hB 21 dX6_check_10 (by decide) ?_
    refine y_iconst (v := -1) hB dX6_check_21 rfl ?_
    exact m_wi hB hE dX6_check_22 rfl (Or.inl (⟨by omega, rfl, rfl⟩))
set_option maxHeartbeats 4000000 in
theorem tX6_strike (l : Launch) (G : gG) (b : Nat) (C S : gM) (u t N : Int) (hu : -2147483648 ≤ u ∧ u ≤ 2147483647) (ht : -2147483648 ≤ t ∧ t ≤ 2147483647) (hD : DkOk C 1 N) (hN : N ≤ 512) (hhf : 0 ≤ C 169 1 ∧ C 169 1 < 4) (hhs : 0 ≤ C 169 2 ∧ C 169 2 ≤ 4) : Ct l G b yX6_strike cX6_strike 4 (some .int) rmX6_strike [.ref (ad b (0)), .int (iI (u)), .int (iI (t))] 578 (wM G b C S) (WI G b S (fun v C' => ((¬ (0 ≤ u ∧ u < C 1 3 ∧ 0 ≤ t ∧ t < C (4 * u + 5) 6)) ∧ v = -1 ∧ C' = C) ∨ (((0 ≤ u ∧ u < C 1 3 ∧ 0 ≤ t ∧ t < C (4 * u + 5) 6) ∧ C (4 * u + 5) 2 = 3) ∧ v = -4 ∧ C' = C) ∨ (((0 ≤ u ∧ u < C 1 3 ∧ 0 ≤ t ∧ t < C (4 * u + 5) 6) ∧ ¬ C (4 * u + 5) 2 = 3) ∧ v = remC C (4 * u + 5) 6 - 1 ∧ C' = up2 (shl3 (remC C) (4 * u + 5) t (remC C (4 * u + 5) 6 - 1)) (4 * u + 5) 6 (remC C (4 * u + 5) 6 - 1)))) := by
  refine CtK_of (by decide) (Nat.le_of_ble_eq_true rfl) q640 ?_
  intro x hl hB hE _
  subst hl
  show YM x G b 0 0 C S 0 [(0, .ref (ad b (0))), (1, .int (iI (u))), (2, .int (iI (t)))] []
  obtain ⟨hd3, hd4, hd5, hd6, hs0, hs1, hs2, hs3, hs4, htr, hlv⟩ := id hD
  refine y_aload_n hB 0 dX6_strike_0 rfl rfl ?_
  refine gt_6_0 hB (by decide) (t1 := 1) (by omega) dX6_strike_1 ?_
  refine y_iload_n hB 1 dX6_strike_4 rfl rfl ?_
  by_cases hpr : 0 ≤ u ∧ u < C 1 3
  · refine m_V hB msX0_lifeOf q368 (tX0_lifeOf _ G b C S 1 u (4 * u + 5) desk_1 (by omega) (by omega) (by omega)) (t := 1) (desk_1).1 (by decide) rfl rfl rfl rfl rfl ⟨Nat.le_of_ble_eq_true rfl, Nat.le_of_ble_eq_true rfl⟩ (Nat.le_of_ble_eq_true rfl) ⟨rfl, rfl⟩ ⟨Nat.le_of_ble_eq_true rfl, Nat.le_of_ble_eq_true rfl⟩ dX6_strike_5 (k_RR ?_)
    have hq_5 : isLife (4 * u + 5) := life_at desk_1 (i := u) (by omega) (by omega)
    have hl_5 := hlv (u) (by omega) (by omega)
    rw [show 4 * (u) + 1 + 4 = 4 * u + 5 by omega] at hl_5
    obtain ⟨ha_5, hb_5, hc_5, hd_5, he_5, hf_5, hg_5, hh_5, hi_5⟩ := id hl_5
    refine y_astore_n (lv' := [(3, .ref (ad b (4 * u + 5))), (0, .ref (ad b (0))), (1, .int (iI (u))), (2, .int (iI (t)))]) hB dX6_strike_8 rfl (by decide) rfl ?_
    refine y_aload_n hB 0 dX6_strike_9 rfl rfl ?_
    refine y_ifnull hB dX6_strike_10 ?_
    refine y_aload_n hB 0 dX6_strike_13 rfl rfl ?_
    refine y_iload_n hB 3 dX6_strike_14 rfl rfl ?_
    refine m_V hB msX2_hasFact q506 (tX2_hasFact _ G b C S (4 * u + 5) t (hq_5).1 (by omega) (by omega)) (t := 5) (hq_5).1 (by decide) rfl rfl rfl rfl rfl ⟨Nat.le_of_ble_eq_true rfl, Nat.le_of_ble_eq_true rfl⟩ (Nat.le_of_ble_eq_true rfl) ⟨rfl, rfl⟩ ⟨Nat.le_of_ble_eq_true rfl, Nat.le_of_ble_eq_true rfl⟩ dX6_strike_15 (k_RI (fun v_15 h_15 => ?_))
    refine y_if_ne hB 23 dX6_strike_18 (by decide) (by omega) (fun c_18 => ?_) (fun c_18 => ?_)
    · refine y_aload_n hB 0 dX6_strike_23 rfl rfl ?_
      refine y_iconst (v := 3) hB dX6_strike_24 rfl ?_
      refine m_V hB msX2_isIn q396 (tX2_isIn _ G b C S (4 * u + 5) 3 (hq_5).1 (by omega) (by omega)) (t := 5) (hq_5).1 (by decide) rfl rfl rfl rfl rfl ⟨Nat.le_of_ble_eq_true rfl, Nat.le_of_ble_eq_true rfl⟩ (Nat.le_of_ble_eq_true rfl) ⟨rfl, rfl⟩ ⟨Nat.le_of_ble_eq_true rfl, Nat.le_of_ble_eq_true rfl⟩ dX6_strike_25 (k_RI (fun v_25 h_25 => ?_))
      refine y_if_eq hB 34 dX6_strike_28 (by decide) (by omega) (fun c_28 => ?_) (fun c_28 => ?_)
      · refine y_aload_n hB 1 dX6_strike_34 rfl rfl ?_
        refine gt_6_3 hB (by decide) (t1 := 169) (by omega) dX6_strike_35 ?_
        refine y_aload_n hB 1 dX6_strike_38 rfl rfl ?_
        refine gt_6_0 hB (by decide) (t1 := 1) (by omega) dX6_strike_39 ?_
        refine m_V hB msX1_remember q199 (tX1_remember _ G b C S hhf hhs hd3) (t := 7) (by decide) (by decide) rfl rfl rfl rfl rfl ⟨Nat.le_of_ble_eq_true rfl, Nat.le_of_ble_eq_true rfl⟩ (Nat.le_of_ble_eq_true rfl) ⟨rfl, rfl⟩ ⟨Nat.le_of_ble_eq_true rfl, Nat.le_of_ble_eq_true rfl⟩ dX6_strike_42 (k_WV (fun C_42 h_42 => ?_))
        obtain rfl := h_42
        have agR := remC_ag hd3
        have hDR := DkOk_ag agR hD
        have er := agR 1 (by omega) (by omega)
        have e3 : (remC C) 1 3 = C 1 3 := by rw [er]
        have e4 : (remC C) 1 4 = C 1 4 := by rw [er]
        have e5 : (remC C) 1 5 = C 1 5 := by rw [er]
        have e6 : (remC C) 1 6 = C 1 6 := by rw [er]
        have erq := agR (4 * u + 5) (by omega) (by omega)
        have eq6 : (remC C) (4 * u + 5) 6 = C (4 * u + 5) 6 := by rw [erq]
        have eq2 : (remC C) (4 * u + 5) 2 = C (4 * u + 5) 2 := by rw [erq]
        refine y_aload_n hB 0 dX6_strike_45 rfl rfl ?_
        refine y_iload_n hB 3 dX6_strike_46 rfl rfl ?_
        refine m_V hB msX2_removeFact q641 (tX2_removeFact _ G b (remC C) S (4 * u + 5) t hq_5 (by omega) (by omega)) (t := 5) (hq_5).1 (by decide) rfl rfl rfl rfl rfl ⟨Nat.le_of_ble_eq_true rfl, Nat.le_of_ble_eq_true rfl⟩ (Nat.le_of_ble_eq_true rfl) ⟨rfl, rfl⟩ ⟨Nat.le_of_ble_eq_true rfl, Nat.le_of_ble_eq_true rfl⟩ dX6_strike_47 (k_WV (fun C_47 h_47 => ?_))
        refine y_aload_n hB 0 dX6_strike_50 rfl rfl ?_
        refine m_V hB msX2_size q375 (tX2_size _ G b C_47 S (4 * u + 5) (hq_5).1) (t := 5) (hq_5).1 (by decide) rfl rfl rfl rfl rfl ⟨Nat.le_of_ble_eq_true rfl, Nat.le_of_ble_eq_true rfl⟩ (Nat.le_of_ble_eq_true rfl) ⟨rfl, rfl⟩ ⟨Nat.le_of_ble_eq_true rfl, Nat.le_of_ble_eq_true rfl⟩ dX6_strike_51 (k_RI (fun v_51 h_51 => ?_))
        rw [h_47, rd_hit rfl rfl] at h_51
        exact m_wi hB hE dX6_strike_54 rfl (Or.inr (Or.inr (⟨by omega, h_51, h_47⟩)))
      · refine y_bipush (v := -4) hB dX6_strike_31 (by decide) ?_
        exact m_wi hB hE dX6_strike_33 rfl (Or.inr (Or.inl (⟨by omega, rfl, rfl⟩)))
    · refine y_iconst (v := -1) hB dX6_strike_21 rfl ?_
      exact m_wi hB hE dX6_strike_22 rfl (Or.inl (⟨by omega, rfl, rfl⟩))
  · refine m_V hB msX0_lifeOf q368 (tX0_lifeOfN _ G b C S 1 u desk_1 (by omega) (by omega) (by omega)) (t := 1) (desk_1).1 (by decide) rfl rfl rfl rfl rfl ⟨Nat.le_of_ble_eq_true rfl, Nat.le_of_ble_eq_true rfl⟩ (Nat.le_of_ble_eq_true rfl) ⟨rfl, rfl⟩ ⟨Nat.le_of_ble_eq_true rfl, Nat.le_of_ble_eq_true rfl⟩ dX6_strike_5 (k_RR ?_)
    refine y_astore_nN (lv' := [(3, .null), (0, .ref (ad b (0))), (1, .int (iI (u))), (2, .int (iI (t)))]) hB dX6_strike_8 rfl (by decide) rfl ?_
    refine y_aload_nN hB 0 dX6_strike_9 rfl rfl ?_
    refine y_ifnullN hB 21 dX6_strike_10 (by decide) ?_
    refine y_iconst (v := -1) hB dX6_strike_21 rfl ?_
    exact m_wi hB hE dX6_strike_22 rfl (Or.inl (⟨by omega, rfl, rfl⟩))
set_option maxHeartbeats 4000000 in
theorem tX6_trust (l : Launch) (G : gG) (b : Nat) (C S : gM) (u t N : Int) (hu : -2147483648 ≤ u ∧ u ≤ 2147483647) (ht : -2147483648 ≤ t ∧ t ≤ 2147483647) (hD : DkOk C 1 N) (hN : N ≤ 512) (hhf : 0 ≤ C 169 1 ∧ C 169 1 < 4) (hhs : 0 ≤ C 169 2 ∧ C 169 2 ≤ 4) : Ct l G b yX6_trust cX6_trust 4 (some .int) rmX6_trust [.ref (ad b (0)), .int (iI (u)), .int (iI (t))] 578 (wM G b C S) (WI G b S (fun v C' => ((¬ (0 ≤ u ∧ u < 6)) ∧ v = -1 ∧ C' = C) ∨ (((0 ≤ u ∧ u < 6) ∧ ¬ (0 ≤ t ∧ t ≤ 100)) ∧ v = -2 ∧ C' = C) ∨ (((0 ≤ u ∧ u < 6) ∧ (0 ≤ t ∧ t ≤ 100) ∧ C 3 u = t) ∧ v = -5 ∧ C' = C) ∨ (((0 ≤ u ∧ u < 6) ∧ (0 ≤ t ∧ t ≤ 100) ∧ ¬ C 3 u = t) ∧ v = C 3 u ∧ C' = up2 (remC C) 3 u t))) := by
  refine CtK_of (by decide) (Nat.le_of_ble_eq_true rfl) q632 ?_
  intro x hl hB hE _
  subst hl
  show YM x G b 0 0 C S 0 [(0, .ref (ad b (0))), (1, .int (iI (u))), (2, .int (iI (t)))] []
  obtain ⟨hd3, hd4, hd5, hd6, hs0, hs1, hs2, hs3, hs4, htr, hlv⟩ := id hD
  refine y_iload_n hB 1 dX6_trust_0 rfl rfl ?_
  refine m_S hB msX6_isSource q520 (tX6_isSource _ G b C S u (by omega)) rfl rfl ⟨Nat.le_of_ble_eq_true rfl, Nat.le_of_ble_eq_true rfl⟩ (Nat.le_of_ble_eq_true rfl) ⟨rfl, rfl⟩ ⟨Nat.le_of_ble_eq_true rfl, Nat.le_of_ble_eq_true rfl⟩ dX6_trust_1 (k_RI (fun v_1 h_1 => ?_))
  refine y_if_ne hB 9 dX6_trust_4 (by decide) (by omega) (fun c_4 => ?_) (fun c_4 => ?_)
  · refine y_iload_n hB 2 dX6_trust_9 rfl rfl ?_
    refine y_iconst (v := 0) hB dX6_trust_10 rfl ?_
    refine y_bipush (v := 100) hB dX6_trust_11 (by decide) ?_
    refine m_S hB msX6_isWithin q192 (tX6_isWithin _ G b C S t 0 100 (by omega) (by omega) (by omega)) rfl rfl ⟨Nat.le_of_ble_eq_true rfl, Nat.le_of_ble_eq_true rfl⟩ (Nat.le_of_ble_eq_true rfl) ⟨rfl, rfl⟩ ⟨Nat.le_of_ble_eq_true rfl, Nat.le_of_ble_eq_true rfl⟩ dX6_trust_13 (k_RI (fun v_13 h_13 => ?_))
    refine y_if_ne hB 22 dX6_trust_16 (by decide) (by omega) (fun c_16 => ?_) (fun c_16 => ?_)
    · refine y_aload_n hB 0 dX6_trust_22 rfl rfl ?_
      refine gt_6_0 hB (by decide) (t1 := 1) (by omega) dX6_trust_23 ?_
      refine y_iload_n hB 1 dX6_trust_26 rfl rfl ?_
      refine m_V hB msX0_trustOf q521 (tX0_trustOf _ G b C S 1 u desk_1 (by omega)) (t := 1) (desk_1).1 (by decide) rfl rfl rfl rfl rfl ⟨Nat.le_of_ble_eq_true rfl, Nat.le_of_ble_eq_true rfl⟩ (Nat.le_of_ble_eq_true rfl) ⟨rfl, rfl⟩ ⟨Nat.le_of_ble_eq_true rfl, Nat.le_of_ble_eq_true rfl⟩ dX6_trust_27 (k_RI (fun v_27 h_27 => ?_))
      rw [show (1 : Int) + 2 = 3 by omega] at h_27
      have hT_27 := htr u (by omega)
      rw [show (1 : Int) + 2 = 3 by omega] at hT_27
      refine y_istore_n (lv' := [(3, .int (iI (v_27))), (0, .ref (ad b (0))), (1, .int (iI (u))), (2, .int (iI (t)))]) hB dX6_trust_30 rfl (by decide) rfl ?_
      refine y_iload_n hB 0 dX6_trust_31 rfl rfl ?_
      refine y_iload_n hB 3 dX6_trust_32 rfl rfl ?_
      refine y_icmp_ne hB 39 dX6_trust_33 (by decide) (by omega) (by omega) (fun c_33 => ?_) (fun c_33 => ?_)
      · refine y_aload_n hB 1 dX6_trust_39 rfl rfl ?_
        refine gt_6_3 hB (by decide) (t1 := 169) (by omega) dX6_trust_40 ?_
        refine y_aload_n hB 1 dX6_trust_43 rfl rfl ?_
        refine gt_6_0 hB (by decide) (t1 := 1) (by omega) dX6_trust_44 ?_
        refine m_V hB msX1_remember q199 (tX1_remember _ G b C S hhf hhs hd3) (t := 7) (by decide) (by decide) rfl rfl rfl rfl rfl ⟨Nat.le_of_ble_eq_true rfl, Nat.le_of_ble_eq_true rfl⟩ (Nat.le_of_ble_eq_true rfl) ⟨rfl, rfl⟩ ⟨Nat.le_of_ble_eq_true rfl, Nat.le_of_ble_eq_true rfl⟩ dX6_trust_47 (k_WV (fun C_47 h_47 => ?_))
        obtain rfl := h_47
        have agR := remC_ag hd3
        have hDR := DkOk_ag agR hD
        have er := agR 1 (by omega) (by omega)
        have e3 : (remC C) 1 3 = C 1 3 := by rw [er]
        have e4 : (remC C) 1 4 = C 1 4 := by rw [er]
        have e5 : (remC C) 1 5 = C 1 5 := by rw [er]
        have e6 : (remC C) 1 6 = C 1 6 := by rw [er]
        refine y_aload_n hB 1 dX6_trust_50 rfl rfl ?_
        refine gt_6_0 hB (by decide) (t1 := 1) (by omega) dX6_trust_51 ?_
        refine y_iload_n hB 2 dX6_trust_54 rfl rfl ?_
        refine y_iload_n hB 3 dX6_trust_55 rfl rfl ?_
        refine m_V hB msX0_changeTrust q633 (tX0_changeTrust _ G b (remC C) S 1 u t desk_1 (by omega)) (t := 1) (desk_1).1 (by decide) rfl rfl rfl rfl rfl ⟨Nat.le_of_ble_eq_true rfl, Nat.le_of_ble_eq_true rfl⟩ (Nat.le_of_ble_eq_true rfl) ⟨rfl, rfl⟩ ⟨Nat.le_of_ble_eq_true rfl, Nat.le_of_ble_eq_true rfl⟩ dX6_trust_56 (k_WV (fun C_56 h_56 => ?_))
        obtain rfl := h_56
        refine y_iload_n hB 0 dX6_trust_59 rfl rfl ?_
        exact m_wi hB hE dX6_trust_60 rfl (Or.inr (Or.inr (Or.inr (⟨by omega, h_27, rfl⟩))))
      · refine y_bipush (v := -5) hB dX6_trust_36 (by decide) ?_
        exact m_wi hB hE dX6_trust_38 rfl (Or.inr (Or.inr (Or.inl (⟨by omega, rfl, rfl⟩))))
    · refine y_bipush (v := -2) hB dX6_trust_19 (by decide) ?_
      exact m_wi hB hE dX6_trust_21 rfl (Or.inr (Or.inl (⟨by omega, rfl, rfl⟩)))
  · refine y_iconst (v := -1) hB dX6_trust_7 rfl ?_
    exact m_wi hB hE dX6_trust_8 rfl (Or.inl (⟨by omega, rfl, rfl⟩))
set_option maxHeartbeats 4000000 in
theorem tX6_tellDeath (l : Launch) (G : gG) (b : Nat) (C S : gM) (u t N : Int) (hu : -2147483648 ≤ u ∧ u ≤ 2147483647) (ht : -2147483648 ≤ t ∧ t ≤ 2147483647) (hD : DkOk C 1 N) (hN : N ≤ 512) (hhf : 0 ≤ C 169 1 ∧ C 169 1 < 4) (hhs : 0 ≤ C 169 2 ∧ C 169 2 ≤ 4) : Ct l G b yX6_tellDeath cX6_tellDeath 5 (some .int) rmX6_tellDeath [.ref (ad b (0)), .int (iI (u)), .int (iI (t))] 578 (wM G b C S) (WI G b S (fun v C' => ((¬ (0 ≤ u ∧ u < C 1 3 ∧ 0 ≤ t ∧ t < 6)) ∧ v = -1 ∧ C' = C) ∨ (((0 ≤ u ∧ u < C 1 3 ∧ 0 ≤ t ∧ t < 6) ∧ 2 ≤ C (4 * u + 5) 2) ∧ v = -4 ∧ C' = C) ∨ (((0 ≤ u ∧ u < C 1 3 ∧ 0 ≤ t ∧ t < 6) ∧ C (4 * u + 5) 2 = 1 ∧ C (4 * u + 5) 3 = t) ∧ v = -5 ∧ C' = C) ∨ (((0 ≤ u ∧ u < C 1 3 ∧ 0 ≤ t ∧ t < 6) ∧ C (4 * u + 5) 2 = 1 ∧ ¬ C (4 * u + 5) 3 = t) ∧ v = 1 ∧ C' = up2 (up2 (up2 (remC C) (4 * u + 5) 2 2) (4 * u + 5) 3 (-5)) (4 * u + 5) 4 (remC C 1 4)) ∨ (((0 ≤ u ∧ u < C 1 3 ∧ 0 ≤ t ∧ t < 6) ∧ C (4 * u + 5) 2 = 0) ∧ v = 0 ∧ C' = up2 (up2 (up2 (remC C) (4 * u + 5) 2 1) (4 * u + 5) 3 t) (4 * u + 5) 4 (remC C 1 4)))) := by
  refine CtK_of (by decide) (Nat.le_of_ble_eq_true rfl) q611 ?_
  intro x hl hB hE _
  subst hl
  show YM x G b 0 0 C S 0 [(0, .ref (ad b (0))), (1, .int (iI (u))), (2, .int (iI (t)))] []
  obtain ⟨hd3, hd4, hd5, hd6, hs0, hs1, hs2, hs3, hs4, htr, hlv⟩ := id hD
  refine y_aload_n hB 0 dX6_tellDeath_0 rfl rfl ?_
  refine gt_6_0 hB (by decide) (t1 := 1) (by omega) dX6_tellDeath_1 ?_
  refine y_iload_n hB 1 dX6_tellDeath_4 rfl rfl ?_
  by_cases hpr : 0 ≤ u ∧ u < C 1 3
  · refine m_V hB msX0_lifeOf q368 (tX0_lifeOf _ G b C S 1 u (4 * u + 5) desk_1 (by omega) (by omega) (by omega)) (t := 1) (desk_1).1 (by decide) rfl rfl rfl rfl rfl ⟨Nat.le_of_ble_eq_true rfl, Nat.le_of_ble_eq_true rfl⟩ (Nat.le_of_ble_eq_true rfl) ⟨rfl, rfl⟩ ⟨Nat.le_of_ble_eq_true rfl, Nat.le_of_ble_eq_true rfl⟩ dX6_tellDeath_5 (k_RR ?_)
    have hq_5 : isLife (4 * u + 5) := life_at desk_1 (i := u) (by omega) (by omega)
    have hl_5 := hlv (u) (by omega) (by omega)
    rw [show 4 * (u) + 1 + 4 = 4 * u + 5 by omega] at hl_5
    obtain ⟨ha_5, hb_5, hc_5, hd_5, he_5, hf_5, hg_5, hh_5, hi_5⟩ := id hl_5
    refine y_astore_n (lv' := [(3, .ref (ad b (4 * u + 5))), (0, .ref (ad b (0))), (1, .int (iI (u))), (2, .int (iI (t)))]) hB dX6_tellDeath_8 rfl (by decide) rfl ?_
    refine y_aload_n hB 0 dX6_tellDeath_9 rfl rfl ?_
    refine y_ifnull hB dX6_tellDeath_10 ?_
    refine y_iload_n hB 3 dX6_tellDeath_13 rfl rfl ?_
    refine m_S hB msX6_isSource q520 (tX6_isSource _ G b C S t (by omega)) rfl rfl ⟨Nat.le_of_ble_eq_true rfl, Nat.le_of_ble_eq_true rfl⟩ (Nat.le_of_ble_eq_true rfl) ⟨rfl, rfl⟩ ⟨Nat.le_of_ble_eq_true rfl, Nat.le_of_ble_eq_true rfl⟩ dX6_tellDeath_14 (k_RI (fun v_14 h_14 => ?_))
    refine y_if_ne hB 22 dX6_tellDeath_17 (by decide) (by omega) (fun c_17 => ?_) (fun c_17 => ?_)
    · refine y_aload_n hB 0 dX6_tellDeath_22 rfl rfl ?_
      refine y_iconst (v := 2) hB dX6_tellDeath_23 rfl ?_
      refine m_V hB msX2_isIn q396 (tX2_isIn _ G b C S (4 * u + 5) 2 (hq_5).1 (by omega) (by omega)) (t := 5) (hq_5).1 (by decide) rfl rfl rfl rfl rfl ⟨Nat.le_of_ble_eq_true rfl, Nat.le_of_ble_eq_true rfl⟩ (Nat.le_of_ble_eq_true rfl) ⟨rfl, rfl⟩ ⟨Nat.le_of_ble_eq_true rfl, Nat.le_of_ble_eq_true rfl⟩ dX6_tellDeath_24 (k_RI (fun v_24 h_24 => ?_))
      refine y_if_ne hB 38 dX6_tellDeath_27 (by decide) (by omega) (fun c_27 => ?_) (fun c_27 => ?_)
      · refine y_bipush (v := -4) hB dX6_tellDeath_38 (by decide) ?_
        exact m_wi hB hE dX6_tellDeath_40 rfl (Or.inr (Or.inl (⟨by omega, rfl, rfl⟩)))
      · refine y_aload_n hB 0 dX6_tellDeath_30 rfl rfl ?_
        refine y_iconst (v := 3) hB dX6_tellDeath_31 rfl ?_
        refine m_V hB msX2_isIn q396 (tX2_isIn _ G b C S (4 * u + 5) 3 (hq_5).1 (by omega) (by omega)) (t := 5) (hq_5).1 (by decide) rfl rfl rfl rfl rfl ⟨Nat.le_of_ble_eq_true rfl, Nat.le_of_ble_eq_true rfl⟩ (Nat.le_of_ble_eq_true rfl) ⟨rfl, rfl⟩ ⟨Nat.le_of_ble_eq_true rfl, Nat.le_of_ble_eq_true rfl⟩ dX6_tellDeath_32 (k_RI (fun v_32 h_32 => ?_))
        refine y_if_eq hB 41 dX6_tellDeath_35 (by decide) (by omega) (fun c_35 => ?_) (fun c_35 => ?_)
        · refine y_aload_n hB 0 dX6_tellDeath_41 rfl rfl ?_
          refine y_iconst (v := 1) hB dX6_tellDeath_42 rfl ?_
          refine m_V hB msX2_isIn q396 (tX2_isIn _ G b C S (4 * u + 5) 1 (hq_5).1 (by omega) (by omega)) (t := 5) (hq_5).1 (by decide) rfl rfl rfl rfl rfl ⟨Nat.le_of_ble_eq_true rfl, Nat.le_of_ble_eq_true rfl⟩ (Nat.le_of_ble_eq_true rfl) ⟨rfl, rfl⟩ ⟨Nat.le_of_ble_eq_true rfl, Nat.le_of_ble_eq_true rfl⟩ dX6_tellDeath_43 (k_RI (fun v_43 h_43 => ?_))
          refine y_istore (lv' := [(4, .int (iI (v_43))), (3, .ref (ad b (4 * u + 5))), (0, .ref (ad b (0))), (1, .int (iI (u))), (2, .int (iI (t)))]) hB dX6_tellDeath_46 (by decide) rfl ?_
          refine y_iload hB 0 dX6_tellDeath_48 rfl ?_
          refine y_if_eq hB 64 dX6_tellDeath_50 (by decide) (by omega) (fun c_50 => ?_) (fun c_50 => ?_)
          · refine y_aload_n hB 2 dX6_tellDeath_64 rfl rfl ?_
            refine gt_6_3 hB (by decide) (t1 := 169) (by omega) dX6_tellDeath_65 ?_
            refine y_aload_n hB 2 dX6_tellDeath_68 rfl rfl ?_
            refine gt_6_0 hB (by decide) (t1 := 1) (by omega) dX6_tellDeath_69 ?_
            refine m_V hB msX1_remember q199 (tX1_remember _ G b C S hhf hhs hd3) (t := 7) (by decide) (by decide) rfl rfl rfl rfl rfl ⟨Nat.le_of_ble_eq_true rfl, Nat.le_of_ble_eq_true rfl⟩ (Nat.le_of_ble_eq_true rfl) ⟨rfl, rfl⟩ ⟨Nat.le_of_ble_eq_true rfl, Nat.le_of_ble_eq_true rfl⟩ dX6_tellDeath_72 (k_WV (fun C_72 h_72 => ?_))
            obtain rfl := h_72
            have agR := remC_ag hd3
            have hDR := DkOk_ag agR hD
            have er := agR 1 (by omega) (by omega)
            have e3 : (remC C) 1 3 = C 1 3 := by rw [er]
            have e4 : (remC C) 1 4 = C 1 4 := by rw [er]
            have e5 : (remC C) 1 5 = C 1 5 := by rw [er]
            have e6 : (remC C) 1 6 = C 1 6 := by rw [er]
            have erq := agR (4 * u + 5) (by omega) (by omega)
            have eq6 : (remC C) (4 * u + 5) 6 = C (4 * u + 5) 6 := by rw [erq]
            have eq2 : (remC C) (4 * u + 5) 2 = C (4 * u + 5) 2 := by rw [erq]
            refine y_iload hB 0 dX6_tellDeath_75 rfl ?_
            refine y_if_eq hB 93 dX6_tellDeath_77 (by decide) (by omega) (fun c_77 => ?_) (fun c_77 => ?_)
            · refine y_aload_n hB 1 dX6_tellDeath_93 rfl rfl ?_
              refine y_iload_n hB 4 dX6_tellDeath_94 rfl rfl ?_
              refine y_aload_n hB 2 dX6_tellDeath_95 rfl rfl ?_
              refine gt_6_0 hB (by decide) (t1 := 1) (by omega) dX6_tellDeath_96 ?_
              refine m_V hB msX0_today q356 (tX0_today _ G b (remC C) S 1 (desk_1).1) (t := 1) (desk_1).1 (by decide) rfl rfl rfl rfl rfl ⟨Nat.le_of_ble_eq_true rfl, Nat.le_of_ble_eq_true rfl⟩ (Nat.le_of_ble_eq_true rfl) ⟨rfl, rfl⟩ ⟨Nat.le_of_ble_eq_true rfl, Nat.le_of_ble_eq_true rfl⟩ dX6_tellDeath_99 (k_RI (fun v_99 h_99 => ?_))
              refine m_V hB msX2_tellDead q620 (tX2_tellDead _ G b (remC C) S (4 * u + 5) t v_99 (hq_5).1) (t := 5) (hq_5).1 (by decide) rfl rfl rfl rfl rfl ⟨Nat.le_of_ble_eq_true rfl, Nat.le_of_ble_eq_true rfl⟩ (Nat.le_of_ble_eq_true rfl) ⟨rfl, rfl⟩ ⟨Nat.le_of_ble_eq_true rfl, Nat.le_of_ble_eq_true rfl⟩ dX6_tellDeath_102 (k_WV (fun C_102 h_102 => ?_))
              obtain rfl := h_102
              refine y_iconst (v := 0) hB dX6_tellDeath_105 rfl ?_
              exact m_wi hB hE dX6_tellDeath_106 rfl (Or.inr (Or.inr (Or.inr (Or.inr (⟨by omega, rfl, by rw [← h_99]⟩)))))
            · refine y_aload_n hB 1 dX6_tellDeath_80 rfl rfl ?_
              refine y_aload_n hB 2 dX6_tellDeath_81 rfl rfl ?_
              refine gt_6_0 hB (by decide) (t1 := 1) (by omega) dX6_tellDeath_82 ?_
              refine m_V hB msX0_today q356 (tX0_today _ G b (remC C) S 1 (desk_1).1) (t := 1) (desk_1).1 (by decide) rfl rfl rfl rfl rfl ⟨Nat.le_of_ble_eq_true rfl, Nat.le_of_ble_eq_true rfl⟩ (Nat.le_of_ble_eq_true rfl) ⟨rfl, rfl⟩ ⟨Nat.le_of_ble_eq_true rfl, Nat.le_of_ble_eq_true rfl⟩ dX6_tellDeath_85 (k_RI (fun v_85 h_85 => ?_))
              refine m_V hB msX2_confirmDeath q616 (tX2_confirmDeath _ G b (remC C) S (4 * u + 5) v_85 (hq_5).1) (t := 5) (hq_5).1 (by decide) rfl rfl rfl rfl rfl ⟨Nat.le_of_ble_eq_true rfl, Nat.le_of_ble_eq_true rfl⟩ (Nat.le_of_ble_eq_true rfl) ⟨rfl, rfl⟩ ⟨Nat.le_of_ble_eq_true rfl, Nat.le_of_ble_eq_true rfl⟩ dX6_tellDeath_88 (k_WV (fun C_88 h_88 => ?_))
              obtain rfl := h_88
              refine y_iconst (v := 1) hB dX6_tellDeath_91 rfl ?_
              exact m_wi hB hE dX6_tellDeath_92 rfl (Or.inr (Or.inr (Or.inr (Or.inl (⟨by omega, rfl, by rw [← h_85]⟩)))))
          · refine y_aload_n hB 1 dX6_tellDeath_53 rfl rfl ?_
            refine m_V hB msX2_teller q612 (tX2_teller _ G b C S (4 * u + 5) (hq_5).1) (t := 5) (hq_5).1 (by decide) rfl rfl rfl rfl rfl ⟨Nat.le_of_ble_eq_true rfl, Nat.le_of_ble_eq_true rfl⟩ (Nat.le_of_ble_eq_true rfl) ⟨rfl, rfl⟩ ⟨Nat.le_of_ble_eq_true rfl, Nat.le_of_ble_eq_true rfl⟩ dX6_tellDeath_54 (k_RI (fun v_54 h_54 => ?_))
            refine y_iload_n hB 4 dX6_tellDeath_57 rfl rfl ?_
            refine y_icmp_ne hB 64 dX6_tellDeath_58 (by decide) (by omega) (by omega) (fun c_58 => ?_) (fun c_58 => ?_)
            · refine y_aload_n hB 2 dX6_tellDeath_64 rfl rfl ?_
              refine gt_6_3 hB (by decide) (t1 := 169) (by omega) dX6_tellDeath_65 ?_
              refine y_aload_n hB 2 dX6_tellDeath_68 rfl rfl ?_
              refine gt_6_0 hB (by decide) (t1 := 1) (by omega) dX6_tellDeath_69 ?_
              refine m_V hB msX1_remember q199 (tX1_remember _ G b C S hhf hhs hd3) (t := 7) (by decide) (by decide) rfl rfl rfl rfl rfl ⟨Nat.le_of_ble_eq_true rfl, Nat.le_of_ble_eq_true rfl⟩ (Nat.le_of_ble_eq_true rfl) ⟨rfl, rfl⟩ ⟨Nat.le_of_ble_eq_true rfl, Nat.le_of_ble_eq_true rfl⟩ dX6_tellDeath_72 (k_WV (fun C_72 h_72 => ?_))
              obtain rfl := h_72
              have agR := remC_ag hd3
              have hDR := DkOk_ag agR hD
              have er := agR 1 (by omega) (by omega)
              have e3 : (remC C) 1 3 = C 1 3 := by rw [er]
              have e4 : (remC C) 1 4 = C 1 4 := by rw [er]
              have e5 : (remC C) 1 5 = C 1 5 := by rw [er]
              have e6 : (remC C) 1 6 = C 1 6 := by rw [er]
              have erq := agR (4 * u + 5) (by omega) (by omega)
              have eq6 : (remC C) (4 * u + 5) 6 = C (4 * u + 5) 6 := by rw [erq]
              have eq2 : (remC C) (4 * u + 5) 2 = C (4 * u + 5) 2 := by rw [erq]
              refine y_iload hB 0 dX6_tellDeath_75 rfl ?_
              refine y_if_eq hB 93 dX6_tellDeath_77 (by decide) (by omega) (fun c_77 => ?_) (fun c_77 => ?_)
              · refine y_aload_n hB 1 dX6_tellDeath_93 rfl rfl ?_
                refine y_iload_n hB 4 dX6_tellDeath_94 rfl rfl ?_
                refine y_aload_n hB 2 dX6_tellDeath_95 rfl rfl ?_
                refine gt_6_0 hB (by decide) (t1 := 1) (by omega) dX6_tellDeath_96 ?_
                refine m_V hB msX0_today q356 (tX0_today _ G b (remC C) S 1 (desk_1).1) (t := 1) (desk_1).1 (by decide) rfl rfl rfl rfl rfl ⟨Nat.le_of_ble_eq_true rfl, Nat.le_of_ble_eq_true rfl⟩ (Nat.le_of_ble_eq_true rfl) ⟨rfl, rfl⟩ ⟨Nat.le_of_ble_eq_true rfl, Nat.le_of_ble_eq_true rfl⟩ dX6_tellDeath_99 (k_RI (fun v_99 h_99 => ?_))
                refine m_V hB msX2_tellDead q620 (tX2_tellDead _ G b (remC C) S (4 * u + 5) t v_99 (hq_5).1) (t := 5) (hq_5).1 (by decide) rfl rfl rfl rfl rfl ⟨Nat.le_of_ble_eq_true rfl, Nat.le_of_ble_eq_true rfl⟩ (Nat.le_of_ble_eq_true rfl) ⟨rfl, rfl⟩ ⟨Nat.le_of_ble_eq_true rfl, Nat.le_of_ble_eq_true rfl⟩ dX6_tellDeath_102 (k_WV (fun C_102 h_102 => ?_))
                obtain rfl := h_102
                refine y_iconst (v := 0) hB dX6_tellDeath_105 rfl ?_
                exact m_wi hB hE dX6_tellDeath_106 rfl (Or.inr (Or.inr (Or.inr (Or.inr (⟨by omega, rfl, by rw [← h_99]⟩)))))
              · refine y_aload_n hB 1 dX6_tellDeath_80 rfl rfl ?_
                refine y_aload_n hB 2 dX6_tellDeath_81 rfl rfl ?_
                refine gt_6_0 hB (by decide) (t1 := 1) (by omega) dX6_tellDeath_82 ?_
                refine m_V hB msX0_today q356 (tX0_today _ G b (remC C) S 1 (desk_1).1) (t := 1) (desk_1).1 (by decide) rfl rfl rfl rfl rfl ⟨Nat.le_of_ble_eq_true rfl, Nat.le_of_ble_eq_true rfl⟩ (Nat.le_of_ble_eq_true rfl) ⟨rfl, rfl⟩ ⟨Nat.le_of_ble_eq_true rfl, Nat.le_of_ble_eq_true rfl⟩ dX6_tellDeath_85 (k_RI (fun v_85 h_85 => ?_))
                refine m_V hB msX2_confirmDeath q616 (tX2_confirmDeath _ G b (remC C) S (4 * u + 5) v_85 (hq_5).1) (t := 5) (hq_5).1 (by decide) rfl rfl rfl rfl rfl ⟨Nat.le_of_ble_eq_true rfl, Nat.le_of_ble_eq_true rfl⟩ (Nat.le_of_ble_eq_true rfl) ⟨rfl, rfl⟩ ⟨Nat.le_of_ble_eq_true rfl, Nat.le_of_ble_eq_true rfl⟩ dX6_tellDeath_88 (k_WV (fun C_88 h_88 => ?_))
                obtain rfl := h_88
                refine y_iconst (v := 1) hB dX6_tellDeath_91 rfl ?_
                exact m_wi hB hE dX6_tellDeath_92 rfl (Or.inr (Or.inr (Or.inr (Or.inl (⟨by omega, rfl, by rw [← h_85]⟩)))))
            · refine y_bipush (v := -5) hB dX6_tellDeath_61 (by decide) ?_
              exact m_wi hB hE dX6_tellDeath_63 rfl (Or.inr (Or.inr (Or.inl (⟨by omega, rfl, rfl⟩))))
        · refine y_bipush (v := -4) hB dX6_tellDeath_38 (by decide) ?_
          exact m_wi hB hE dX6_tellDeath_40 rfl (Or.inr (Or.inl (⟨by omega, rfl, rfl⟩)))
    · refine y_iconst (v := -1) hB dX6_tellDeath_20 rfl ?_
      exact m_wi hB hE dX6_tellDeath_21 rfl (Or.inl (⟨by omega, rfl, rfl⟩))
  · refine m_V hB msX0_lifeOf q368 (tX0_lifeOfN _ G b C S 1 u desk_1 (by omega) (by omega) (by omega)) (t := 1) (desk_1).1 (by decide) rfl rfl rfl rfl rfl ⟨Nat.le_of_ble_eq_true rfl, Nat.le_of_ble_eq_true rfl⟩ (Nat.le_of_ble_eq_true rfl) ⟨rfl, rfl⟩ ⟨Nat.le_of_ble_eq_true rfl, Nat.le_of_ble_eq_true rfl⟩ dX6_tellDeath_5 (k_RR ?_)
    refine y_astore_nN (lv' := [(3, .null), (0, .ref (ad b (0))), (1, .int (iI (u))), (2, .int (iI (t)))]) hB dX6_tellDeath_8 rfl (by decide) rfl ?_
    refine y_aload_nN hB 0 dX6_tellDeath_9 rfl rfl ?_
    refine y_ifnullN hB 20 dX6_tellDeath_10 (by decide) ?_
    refine y_iconst (v := -1) hB dX6_tellDeath_20 rfl ?_
    exact m_wi hB hE dX6_tellDeath_21 rfl (Or.inl (⟨by omega, rfl, rfl⟩))
set_option maxHeartbeats 4000000 in
theorem tX6_decide (l : Launch) (G : gG) (b : Nat) (C S : gM) (u t N : Int) (hu : -2147483648 ≤ u ∧ u ≤ 2147483647) (ht : t = 0 ∨ t = 1) (hD : DkOk C 1 N) (hN : N ≤ 512) (hhf : 0 ≤ C 169 1 ∧ C 169 1 < 4) (hhs : 0 ≤ C 169 2 ∧ C 169 2 ≤ 4) : Ct l G b yX6_decide cX6_decide 4 (some .int) rmX6_decide [.ref (ad b (0)), .int (iI (u)), .int (iI (t))] 578 (wM G b C S) (WI G b S (fun v C' => ((¬ (0 ≤ u ∧ u < C 1 3)) ∧ v = -1 ∧ C' = C) ∨ (((0 ≤ u ∧ u < C 1 3) ∧ ¬ C (4 * u + 5) 2 = 1) ∧ v = -4 ∧ C' = C) ∨ (((0 ≤ u ∧ u < C 1 3) ∧ C (4 * u + 5) 2 = 1 ∧ t = 1) ∧ v = smI (fun i => if (up2 (up2 (up2 (remC C) (4 * u + 5) 2 2) (4 * u + 5) 3 (-5)) (4 * u + 5) 4 (remC C 1 4)) (4 * i + 1 + 4) 2 = 1 then 1 else 0) ((up2 (up2 (up2 (remC C) (4 * u + 5) 2 2) (4 * u + 5) 3 (-5)) (4 * u + 5) 4 (remC C 1 4)) 1 3) ∧ C' = up2 (up2 (up2 (remC C) (4 * u + 5) 2 2) (4 * u + 5) 3 (-5)) (4 * u + 5) 4 (remC C 1 4)) ∨ (((0 ≤ u ∧ u < C 1 3) ∧ C (4 * u + 5) 2 = 1 ∧ t = 0) ∧ v = smI (fun i => if (up2 (up2 (up2 (remC C) (4 * u + 5) 2 0) (4 * u + 5) 3 (-5)) (4 * u + 5) 4 (-5)) (4 * i + 1 + 4) 2 = 1 then 1 else 0) ((up2 (up2 (up2 (remC C) (4 * u + 5) 2 0) (4 * u + 5) 3 (-5)) (4 * u + 5) 4 (-5)) 1 3) ∧ C' = up2 (up2 (up2 (remC C) (4 * u + 5) 2 0) (4 * u + 5) 3 (-5)) (4 * u + 5) 4 (-5)))) := by
  refine CtK_of (by decide) (Nat.le_of_ble_eq_true rfl) q627 ?_
  intro x hl hB hE _
  subst hl
  show YM x G b 0 0 C S 0 [(0, .ref (ad b (0))), (1, .int (iI (u))), (2, .int (iI (t)))] []
  obtain ⟨hd3, hd4, hd5, hd6, hs0, hs1, hs2, hs3, hs4, htr, hlv⟩ := id hD
  refine y_aload_n hB 0 dX6_decide_0 rfl rfl ?_
  refine gt_6_0 hB (by decide) (t1 := 1) (by omega) dX6_decide_1 ?_
  refine y_iload_n hB 1 dX6_decide_4 rfl rfl ?_
  by_cases hpr : 0 ≤ u ∧ u < C 1 3
  · refine m_V hB msX0_lifeOf q368 (tX0_lifeOf _ G b C S 1 u (4 * u + 5) desk_1 (by omega) (by omega) (by omega)) (t := 1) (desk_1).1 (by decide) rfl rfl rfl rfl rfl ⟨Nat.le_of_ble_eq_true rfl, Nat.le_of_ble_eq_true rfl⟩ (Nat.le_of_ble_eq_true rfl) ⟨rfl, rfl⟩ ⟨Nat.le_of_ble_eq_true rfl, Nat.le_of_ble_eq_true rfl⟩ dX6_decide_5 (k_RR ?_)
    have hq_5 : isLife (4 * u + 5) := life_at desk_1 (i := u) (by omega) (by omega)
    have hl_5 := hlv (u) (by omega) (by omega)
    rw [show 4 * (u) + 1 + 4 = 4 * u + 5 by omega] at hl_5
    obtain ⟨ha_5, hb_5, hc_5, hd_5, he_5, hf_5, hg_5, hh_5, hi_5⟩ := id hl_5
    refine y_astore_n (lv' := [(3, .ref (ad b (4 * u + 5))), (0, .ref (ad b (0))), (1, .int (iI (u))), (2, .int (iI (t)))]) hB dX6_decide_8 rfl (by decide) rfl ?_
    refine y_aload_n hB 0 dX6_decide_9 rfl rfl ?_
    refine y_ifnonnull hB 15 dX6_decide_10 (by decide) ?_
    refine y_aload_n hB 0 dX6_decide_15 rfl rfl ?_
    refine y_iconst (v := 1) hB dX6_decide_16 rfl ?_
    refine m_V hB msX2_isIn q396 (tX2_isIn _ G b C S (4 * u + 5) 1 (hq_5).1 (by omega) (by omega)) (t := 5) (hq_5).1 (by decide) rfl rfl rfl rfl rfl ⟨Nat.le_of_ble_eq_true rfl, Nat.le_of_ble_eq_true rfl⟩ (Nat.le_of_ble_eq_true rfl) ⟨rfl, rfl⟩ ⟨Nat.le_of_ble_eq_true rfl, Nat.le_of_ble_eq_true rfl⟩ dX6_decide_17 (k_RI (fun v_17 h_17 => ?_))
    refine y_if_ne hB 26 dX6_decide_20 (by decide) (by omega) (fun c_20 => ?_) (fun c_20 => ?_)
    · refine y_aload_n hB 1 dX6_decide_26 rfl rfl ?_
      refine gt_6_3 hB (by decide) (t1 := 169) (by omega) dX6_decide_27 ?_
      refine y_aload_n hB 1 dX6_decide_30 rfl rfl ?_
      refine gt_6_0 hB (by decide) (t1 := 1) (by omega) dX6_decide_31 ?_
      refine m_V hB msX1_remember q199 (tX1_remember _ G b C S hhf hhs hd3) (t := 7) (by decide) (by decide) rfl rfl rfl rfl rfl ⟨Nat.le_of_ble_eq_true rfl, Nat.le_of_ble_eq_true rfl⟩ (Nat.le_of_ble_eq_true rfl) ⟨rfl, rfl⟩ ⟨Nat.le_of_ble_eq_true rfl, Nat.le_of_ble_eq_true rfl⟩ dX6_decide_34 (k_WV (fun C_34 h_34 => ?_))
      obtain rfl := h_34
      have agR := remC_ag hd3
      have hDR := DkOk_ag agR hD
      have er := agR 1 (by omega) (by omega)
      have e3 : (remC C) 1 3 = C 1 3 := by rw [er]
      have e4 : (remC C) 1 4 = C 1 4 := by rw [er]
      have e5 : (remC C) 1 5 = C 1 5 := by rw [er]
      have e6 : (remC C) 1 6 = C 1 6 := by rw [er]
      have erq := agR (4 * u + 5) (by omega) (by omega)
      have eq6 : (remC C) (4 * u + 5) 6 = C (4 * u + 5) 6 := by rw [erq]
      have eq2 : (remC C) (4 * u + 5) 2 = C (4 * u + 5) 2 := by rw [erq]
      refine y_iload_n hB 3 dX6_decide_37 rfl rfl ?_
      refine y_if_eq hB 55 dX6_decide_38 (by decide) (by omega) (fun c_38 => ?_) (fun c_38 => ?_)
      · refine y_aload_n hB 0 dX6_decide_55 rfl rfl ?_
        refine m_V hB msX2_takeBackDeath q628 (tX2_takeBackDeath _ G b (remC C) S (4 * u + 5) (hq_5).1) (t := 5) (hq_5).1 (by decide) rfl rfl rfl rfl rfl ⟨Nat.le_of_ble_eq_true rfl, Nat.le_of_ble_eq_true rfl⟩ (Nat.le_of_ble_eq_true rfl) ⟨rfl, rfl⟩ ⟨Nat.le_of_ble_eq_true rfl, Nat.le_of_ble_eq_true rfl⟩ dX6_decide_56 (k_WV (fun C_56 h_56 => ?_))
        obtain rfl := h_56
        have hst9 := hst_up (q := 4 * u + 5) (x := 0) (y := -5) (z := -5) (DkOk_st hDR) (by omega) (by omega)
        have e39 : (up2 (up2 (up2 (remC C) (4 * u + 5) 2 0) (4 * u + 5) 3 (-5)) (4 * u + 5) 4 (-5)) 1 3 = C 1 3 := by rw [rd_k (by omega), rd_k (by omega), rd_k (by omega)]; exact e3
        refine y_aload_n hB 1 dX6_decide_59 rfl rfl ?_
        refine gt_6_0 hB (by decide) (t1 := 1) (by omega) dX6_decide_60 ?_
        refine y_iconst (v := 1) hB dX6_decide_63 rfl ?_
        refine m_V hB msX0_personsIn q471 (tX0_personsIn _ G b (up2 (up2 (up2 (remC C) (4 * u + 5) 2 0) (4 * u + 5) 3 (-5)) (4 * u + 5) 4 (-5)) S 1 1 desk_1 (by omega) (by omega) hst9) (t := 1) (desk_1).1 (by decide) rfl rfl rfl rfl rfl ⟨Nat.le_of_ble_eq_true rfl, Nat.le_of_ble_eq_true rfl⟩ (Nat.le_of_ble_eq_true rfl) ⟨rfl, rfl⟩ ⟨Nat.le_of_ble_eq_true rfl, Nat.le_of_ble_eq_true rfl⟩ dX6_decide_64 (k_RI (fun v_64 h_64 => ?_))
        exact m_wi hB hE dX6_decide_67 rfl (Or.inr (Or.inr (Or.inr (⟨by omega, h_64, rfl⟩))))
      · refine y_aload_n hB 0 dX6_decide_41 rfl rfl ?_
        refine y_aload_n hB 1 dX6_decide_42 rfl rfl ?_
        refine gt_6_0 hB (by decide) (t1 := 1) (by omega) dX6_decide_43 ?_
        refine m_V hB msX0_today q356 (tX0_today _ G b (remC C) S 1 (desk_1).1) (t := 1) (desk_1).1 (by decide) rfl rfl rfl rfl rfl ⟨Nat.le_of_ble_eq_true rfl, Nat.le_of_ble_eq_true rfl⟩ (Nat.le_of_ble_eq_true rfl) ⟨rfl, rfl⟩ ⟨Nat.le_of_ble_eq_true rfl, Nat.le_of_ble_eq_true rfl⟩ dX6_decide_46 (k_RI (fun v_46 h_46 => ?_))
        refine m_V hB msX2_confirmDeath q616 (tX2_confirmDeath _ G b (remC C) S (4 * u + 5) v_46 (hq_5).1) (t := 5) (hq_5).1 (by decide) rfl rfl rfl rfl rfl ⟨Nat.le_of_ble_eq_true rfl, Nat.le_of_ble_eq_true rfl⟩ (Nat.le_of_ble_eq_true rfl) ⟨rfl, rfl⟩ ⟨Nat.le_of_ble_eq_true rfl, Nat.le_of_ble_eq_true rfl⟩ dX6_decide_49 (k_WV (fun C_49 h_49 => ?_))
        obtain rfl := h_49
        refine y_goto hB 59 dX6_decide_52 (by decide) ?_
        have hst9 := hst_up (q := 4 * u + 5) (x := 2) (y := -5) (z := v_46) (DkOk_st hDR) (by omega) (by omega)
        have e39 : (up2 (up2 (up2 (remC C) (4 * u + 5) 2 2) (4 * u + 5) 3 (-5)) (4 * u + 5) 4 v_46) 1 3 = C 1 3 := by rw [rd_k (by omega), rd_k (by omega), rd_k (by omega)]; exact e3
        refine y_aload_n hB 1 dX6_decide_59 rfl rfl ?_
        refine gt_6_0 hB (by decide) (t1 := 1) (by omega) dX6_decide_60 ?_
        refine y_iconst (v := 1) hB dX6_decide_63 rfl ?_
        refine m_V hB msX0_personsIn q471 (tX0_personsIn _ G b (up2 (up2 (up2 (remC C) (4 * u + 5) 2 2) (4 * u + 5) 3 (-5)) (4 * u + 5) 4 v_46) S 1 1 desk_1 (by omega) (by omega) hst9) (t := 1) (desk_1).1 (by decide) rfl rfl rfl rfl rfl ⟨Nat.le_of_ble_eq_true rfl, Nat.le_of_ble_eq_true rfl⟩ (Nat.le_of_ble_eq_true rfl) ⟨rfl, rfl⟩ ⟨Nat.le_of_ble_eq_true rfl, Nat.le_of_ble_eq_true rfl⟩ dX6_decide_64 (k_RI (fun v_64 h_64 => ?_))
        exact m_wi hB hE dX6_decide_67 rfl (Or.inr (Or.inr (Or.inl (⟨by omega, by rw [h_64, h_46], by rw [h_46]⟩))))
    · refine y_bipush (v := -4) hB dX6_decide_23 (by decide) ?_
      exact m_wi hB hE dX6_decide_25 rfl (Or.inr (Or.inl (⟨by omega, rfl, rfl⟩)))
  · refine m_V hB msX0_lifeOf q368 (tX0_lifeOfN _ G b C S 1 u desk_1 (by omega) (by omega) (by omega)) (t := 1) (desk_1).1 (by decide) rfl rfl rfl rfl rfl ⟨Nat.le_of_ble_eq_true rfl, Nat.le_of_ble_eq_true rfl⟩ (Nat.le_of_ble_eq_true rfl) ⟨rfl, rfl⟩ ⟨Nat.le_of_ble_eq_true rfl, Nat.le_of_ble_eq_true rfl⟩ dX6_decide_5 (k_RR ?_)
    refine y_astore_nN (lv' := [(3, .null), (0, .ref (ad b (0))), (1, .int (iI (u))), (2, .int (iI (t)))]) hB dX6_decide_8 rfl (by decide) rfl ?_
    refine y_aload_nN hB 0 dX6_decide_9 rfl rfl ?_
    refine y_ifnonnullN hB dX6_decide_10 ?_
    refine y_iconst (v := -1) hB dX6_decide_13 rfl ?_
    exact m_wi hB hE dX6_decide_14 rfl (Or.inl (⟨by omega, rfl, rfl⟩))
