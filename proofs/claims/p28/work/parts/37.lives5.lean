set_option maxHeartbeats 4000000 in
theorem tX6_fact (l : Launch) (G : gG) (b : Nat) (C S : gM) (u t z N : Int) (hu : -2147483648 ≤ u ∧ u ≤ 2147483647) (ht : -2147483648 ≤ t ∧ t ≤ 2147483647) (hz : -2147483648 ≤ z ∧ z ≤ 2147483647) (hD : DkOk C 1 N) (hN : N ≤ 512) (hhf : 0 ≤ C 169 1 ∧ C 169 1 < 4) (hhs : 0 ≤ C 169 2 ∧ C 169 2 ≤ 4) : Ct l G b yX6_fact cX6_fact 5 (some .int) rmX6_fact [.ref (ad b (0)), .int (iI (u)), .int (iI (t)), .int (iI (z))] 578 (wM G b C S) (RI G b C S (fun v => ((¬ (0 ≤ u ∧ u < C 1 3 ∧ 0 ≤ t ∧ t < C (4 * u + 5) 6)) ∧ v = -1) ∨ (((0 ≤ u ∧ u < C 1 3 ∧ 0 ≤ t ∧ t < C (4 * u + 5) 6) ∧ (z < 0 ∨ 4 < z)) ∧ v = -2) ∨ (((0 ≤ u ∧ u < C 1 3 ∧ 0 ≤ t ∧ t < C (4 * u + 5) 6) ∧ z = 0) ∧ v = C (4 * u + 5 + 1) t) ∨ (((0 ≤ u ∧ u < C 1 3 ∧ 0 ≤ t ∧ t < C (4 * u + 5) 6) ∧ z = 1) ∧ v = C (4 * u + 5 + 2) t) ∨ (((0 ≤ u ∧ u < C 1 3 ∧ 0 ≤ t ∧ t < C (4 * u + 5) 6) ∧ z = 2) ∧ v = C (4 * u + 5 + 3) t) ∨ (((0 ≤ u ∧ u < C 1 3 ∧ 0 ≤ t ∧ t < C (4 * u + 5) 6) ∧ z = 3) ∧ v = fst C 1 (4 * u + 5) (C 1 4) t) ∨ (((0 ≤ u ∧ u < C 1 3 ∧ 0 ≤ t ∧ t < C (4 * u + 5) 6) ∧ z = 4) ∧ v = bI (WF (C (1 + 2) (C (4 * u + 5 + 1) t)) (C 1 4 - C (4 * u + 5 + 3) t))))) := by
  refine CtK_of (by decide) (Nat.le_of_ble_eq_true rfl) q505 ?_
  intro x hl hB hE _
  subst hl
  show YM x G b 0 0 C S 0 [(0, .ref (ad b (0))), (1, .int (iI (u))), (2, .int (iI (t))), (3, .int (iI (z)))] []
  obtain ⟨hd3, hd4, hd5, hd6, hs0, hs1, hs2, hs3, hs4, htr, hlv⟩ := id hD
  refine y_aload_n hB 0 dX6_fact_0 rfl rfl ?_
  refine gt_6_0 hB (by decide) (t1 := 1) (by omega) dX6_fact_1 ?_
  refine y_iload_n hB 1 dX6_fact_4 rfl rfl ?_
  by_cases hpr : 0 ≤ u ∧ u < C 1 3
  · refine m_V hB msX0_lifeOf q368 (tX0_lifeOf _ G b C S 1 u (4 * u + 5) desk_1 (by omega) (by omega) (by omega)) (t := 1) (desk_1).1 (by decide) rfl rfl rfl rfl rfl ⟨Nat.le_of_ble_eq_true rfl, Nat.le_of_ble_eq_true rfl⟩ (Nat.le_of_ble_eq_true rfl) ⟨rfl, rfl⟩ ⟨Nat.le_of_ble_eq_true rfl, Nat.le_of_ble_eq_true rfl⟩ dX6_fact_5 (k_RR ?_)
    have hq_5 : isLife (4 * u + 5) := life_at desk_1 (i := u) (by omega) (by omega)
    have hl_5 := hlv (u) (by omega) (by omega)
    rw [show 4 * (u) + 1 + 4 = 4 * u + 5 by omega] at hl_5
    obtain ⟨ha_5, hb_5, hc_5, hd_5, he_5, hf_5, hg_5, hh_5, hi_5⟩ := id hl_5
    refine y_astore (lv' := [(4, .ref (ad b (4 * u + 5))), (0, .ref (ad b (0))), (1, .int (iI (u))), (2, .int (iI (t))), (3, .int (iI (z)))]) hB dX6_fact_8 (by decide) rfl ?_
    refine y_aload hB 0 dX6_fact_10 rfl ?_
    refine y_ifnull hB dX6_fact_12 ?_
    refine y_aload hB 0 dX6_fact_15 rfl ?_
    refine y_iload_n hB 3 dX6_fact_17 rfl rfl ?_
    refine m_V hB msX2_hasFact q506 (tX2_hasFact _ G b C S (4 * u + 5) t (hq_5).1 (by omega) (by omega)) (t := 5) (hq_5).1 (by decide) rfl rfl rfl rfl rfl ⟨Nat.le_of_ble_eq_true rfl, Nat.le_of_ble_eq_true rfl⟩ (Nat.le_of_ble_eq_true rfl) ⟨rfl, rfl⟩ ⟨Nat.le_of_ble_eq_true rfl, Nat.le_of_ble_eq_true rfl⟩ dX6_fact_18 (k_RI (fun v_18 h_18 => ?_))
    refine y_if_ne hB 26 dX6_fact_21 (by decide) (by omega) (fun c_21 => ?_) (fun c_21 => ?_)
    · have hff := hi_5 t (by omega) (by omega)
      have hTt := htr (C (4 * u + 5 + 1) t) (by omega)
      refine y_iload_n hB 4 dX6_fact_26 rfl rfl ?_
      rcases (show z = 0 ∨ z = 1 ∨ z = 2 ∨ z = 3 ∨ z = 4 ∨ (z < 0 ∨ 4 < z) by omega) with hsw_27 | hsw_27 | hsw_27 | hsw_27 | hsw_27 | hsw_27
      · refine y_tableIn hB 60 dX6_fact_27 (by omega) (by omega) (by rw [hsw_27]; rfl) (by decide) ?_
        refine y_aload hB 0 dX6_fact_60 rfl ?_
        refine y_iload_n hB 3 dX6_fact_62 rfl rfl ?_
        refine m_V hB msX2_sourceOf q507 (tX2_sourceOf _ G b C S (4 * u + 5) t hq_5 (by omega) (by omega)) (t := 5) (hq_5).1 (by decide) rfl rfl rfl rfl rfl ⟨Nat.le_of_ble_eq_true rfl, Nat.le_of_ble_eq_true rfl⟩ (Nat.le_of_ble_eq_true rfl) ⟨rfl, rfl⟩ ⟨Nat.le_of_ble_eq_true rfl, Nat.le_of_ble_eq_true rfl⟩ dX6_fact_63 (k_RI (fun v_63 h_63 => ?_))
        exact m_ri hB hE dX6_fact_66 rfl (Or.inr (Or.inr (Or.inl (⟨by omega, h_63⟩))))
      · refine y_tableIn hB 67 dX6_fact_27 (by omega) (by omega) (by rw [hsw_27]; rfl) (by decide) ?_
        refine y_aload hB 0 dX6_fact_67 rfl ?_
        refine y_iload_n hB 3 dX6_fact_69 rfl rfl ?_
        refine m_V hB msX2_linesOf q508 (tX2_linesOf _ G b C S (4 * u + 5) t hq_5 (by omega) (by omega)) (t := 5) (hq_5).1 (by decide) rfl rfl rfl rfl rfl ⟨Nat.le_of_ble_eq_true rfl, Nat.le_of_ble_eq_true rfl⟩ (Nat.le_of_ble_eq_true rfl) ⟨rfl, rfl⟩ ⟨Nat.le_of_ble_eq_true rfl, Nat.le_of_ble_eq_true rfl⟩ dX6_fact_70 (k_RI (fun v_70 h_70 => ?_))
        exact m_ri hB hE dX6_fact_73 rfl (Or.inr (Or.inr (Or.inr (Or.inl (⟨by omega, h_70⟩)))))
      · refine y_tableIn hB 74 dX6_fact_27 (by omega) (by omega) (by rw [hsw_27]; rfl) (by decide) ?_
        refine y_aload hB 0 dX6_fact_74 rfl ?_
        refine y_iload_n hB 3 dX6_fact_76 rfl rfl ?_
        refine m_V hB msX2_dayOf q509 (tX2_dayOf _ G b C S (4 * u + 5) t hq_5 (by omega) (by omega)) (t := 5) (hq_5).1 (by decide) rfl rfl rfl rfl rfl ⟨Nat.le_of_ble_eq_true rfl, Nat.le_of_ble_eq_true rfl⟩ (Nat.le_of_ble_eq_true rfl) ⟨rfl, rfl⟩ ⟨Nat.le_of_ble_eq_true rfl, Nat.le_of_ble_eq_true rfl⟩ dX6_fact_77 (k_RI (fun v_77 h_77 => ?_))
        exact m_ri hB hE dX6_fact_80 rfl (Or.inr (Or.inr (Or.inr (Or.inr (Or.inl (⟨by omega, h_77⟩))))))
      · refine y_tableIn hB 81 dX6_fact_27 (by omega) (by omega) (by rw [hsw_27]; rfl) (by decide) ?_
        refine y_aload_n hB 1 dX6_fact_81 rfl rfl ?_
        refine gt_6_0 hB (by decide) (t1 := 1) (by omega) dX6_fact_82 ?_
        refine y_aload hB 0 dX6_fact_85 rfl ?_
        refine y_iload_n hB 3 dX6_fact_87 rfl rfl ?_
        refine m_V hB msX0_isStale q510 (tX0_isStale _ G b C S 1 (4 * u + 5) t N desk_1 hq_5 hD hl_5 hN (by omega)) (t := 1) (desk_1).1 (by decide) rfl rfl rfl rfl rfl ⟨Nat.le_of_ble_eq_true rfl, Nat.le_of_ble_eq_true rfl⟩ (Nat.le_of_ble_eq_true rfl) ⟨rfl, rfl⟩ ⟨Nat.le_of_ble_eq_true rfl, Nat.le_of_ble_eq_true rfl⟩ dX6_fact_88 (k_RI (fun v_88 h_88 => ?_))
        have hb_88 := fst_b C 1 (4 * u + 5) (C 1 4) t
        refine y_if_eq hB 98 dX6_fact_91 (by decide) (by omega) (fun c_91 => ?_) (fun c_91 => ?_)
        · refine y_iconst (v := 0) hB dX6_fact_98 rfl ?_
          exact m_ri hB hE dX6_fact_99 rfl (Or.inr (Or.inr (Or.inr (Or.inr (Or.inr (Or.inl (⟨by omega, by omega⟩)))))))
        · refine y_iconst (v := 1) hB dX6_fact_94 rfl ?_
          refine y_goto hB 99 dX6_fact_95 (by decide) ?_
          exact m_ri hB hE dX6_fact_99 rfl (Or.inr (Or.inr (Or.inr (Or.inr (Or.inr (Or.inl (⟨by omega, by omega⟩)))))))
      · refine y_tableIn hB 100 dX6_fact_27 (by omega) (by omega) (by rw [hsw_27]; rfl) (by decide) ?_
        refine y_aload_n hB 1 dX6_fact_100 rfl rfl ?_
        refine gt_6_0 hB (by decide) (t1 := 1) (by omega) dX6_fact_101 ?_
        refine y_aload hB 0 dX6_fact_104 rfl ?_
        refine y_iload_n hB 3 dX6_fact_106 rfl rfl ?_
        refine y_aload_n hB 1 dX6_fact_107 rfl rfl ?_
        refine gt_6_0 hB (by decide) (t1 := 1) (by omega) dX6_fact_108 ?_
        refine m_V hB msX0_today q356 (tX0_today _ G b C S 1 (desk_1).1) (t := 1) (desk_1).1 (by decide) rfl rfl rfl rfl rfl ⟨Nat.le_of_ble_eq_true rfl, Nat.le_of_ble_eq_true rfl⟩ (Nat.le_of_ble_eq_true rfl) ⟨rfl, rfl⟩ ⟨Nat.le_of_ble_eq_true rfl, Nat.le_of_ble_eq_true rfl⟩ dX6_fact_111 (k_RI (fun v_111 h_111 => ?_))
        rw [h_111]
        refine m_V hB msX0_worthOf q511 (tX0_worthOf _ G b C S 1 (4 * u + 5) t (C 1 4) N desk_1 hq_5 hD hl_5 hN (by omega) (by omega)) (t := 1) (desk_1).1 (by decide) rfl rfl rfl rfl rfl ⟨Nat.le_of_ble_eq_true rfl, Nat.le_of_ble_eq_true rfl⟩ (Nat.le_of_ble_eq_true rfl) ⟨rfl, rfl⟩ ⟨Nat.le_of_ble_eq_true rfl, Nat.le_of_ble_eq_true rfl⟩ dX6_fact_114 (k_RF (fun v_114 h_114 => ?_))
        refine m_S hB msX6_bitsOf q512 (tX6_bitsOf _ G b C S v_114 v_114 (by rw [h_114]; exact bOk_WF hTt (by omega))) rfl rfl ⟨Nat.le_of_ble_eq_true rfl, Nat.le_of_ble_eq_true rfl⟩ (Nat.le_of_ble_eq_true rfl) ⟨rfl, rfl⟩ ⟨Nat.le_of_ble_eq_true rfl, Nat.le_of_ble_eq_true rfl⟩ dX6_fact_117 (k_RI (fun v_117 h_117 => ?_))
        exact m_ri hB hE dX6_fact_120 rfl (Or.inr (Or.inr (Or.inr (Or.inr (Or.inr (Or.inr (⟨by omega, by rw [h_117, h_114]⟩)))))))
      · refine y_tableOut hB 121 dX6_fact_27 (by omega) hsw_27 (by decide) ?_
        refine y_bipush (v := -2) hB dX6_fact_121 (by decide) ?_
        exact m_ri hB hE dX6_fact_123 rfl (Or.inr (Or.inl (⟨by omega, rfl⟩)))
    · refine y_iconst (v := -1) hB dX6_fact_24 rfl ?_
      exact m_ri hB hE dX6_fact_25 rfl (Or.inl (⟨by omega, rfl⟩))
  · refine m_V hB msX0_lifeOf q368 (tX0_lifeOfN _ G b C S 1 u desk_1 (by omega) (by omega) (by omega)) (t := 1) (desk_1).1 (by decide) rfl rfl rfl rfl rfl ⟨Nat.le_of_ble_eq_true rfl, Nat.le_of_ble_eq_true rfl⟩ (Nat.le_of_ble_eq_true rfl) ⟨rfl, rfl⟩ ⟨Nat.le_of_ble_eq_true rfl, Nat.le_of_ble_eq_true rfl⟩ dX6_fact_5 (k_RR ?_)
    refine y_astoreN (lv' := [(4, .null), (0, .ref (ad b (0))), (1, .int (iI (u))), (2, .int (iI (t))), (3, .int (iI (z)))]) hB dX6_fact_8 (by decide) rfl ?_
    refine y_aloadN hB 0 dX6_fact_10 rfl ?_
    refine y_ifnullN hB 24 dX6_fact_12 (by decide) ?_
    refine y_iconst (v := -1) hB dX6_fact_24 rfl ?_
    exact m_ri hB hE dX6_fact_25 rfl (Or.inl (⟨by omega, rfl⟩))
