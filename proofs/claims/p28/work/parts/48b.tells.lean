set_option maxHeartbeats 4000000 in
theorem tL_tells (l : Launch) (G : gG) (b : Nat) (C S : gM) (u t N : Int) (hI : Iv C N) (hN : N ≤ 500) (hu : 0 ≤ u ∧ u < C 1 3) (ht : 0 ≤ t ∧ t < 6) : Ct l G b yL_tells cL_tells 5 (some .boolean) rmL_tells [.ref (ad b (0)), .int (iI (u)), .int (iI (t))] 578 (wM G b C S) (WI G b S (fun v C' => v = 1 ∧ Iv C' N ∧ C' 1 3 = C 1 3)) := by
  refine CtK_of (by decide) (Nat.le_of_ble_eq_true rfl) q607 ?_
  intro x hl hB hE _
  subst hl
  show YM x G b 0 0 C S 0 [(0, .ref (ad b (0))), (1, .int (iI (u))), (2, .int (iI (t)))] []
  have hb3 := bc_1 hI
  refine y_aload_n hB 0 dL_tells_0 rfl rfl ?_
  refine y_iload_n hB 1 dL_tells_1 rfl rfl ?_
  refine y_iconst (v := 2) hB dL_tells_2 rfl ?_
  refine m_V hB msX6_person q364 (sp_2 _ G b C C S u N (Sc.rf C) hI (by omega) (by omega)) (t := 0) (by decide) (by decide) rfl rfl rfl rfl rfl ⟨Nat.le_of_ble_eq_true rfl, Nat.le_of_ble_eq_true rfl⟩ (Nat.le_of_ble_eq_true rfl) ⟨rfl, rfl⟩ ⟨Nat.le_of_ble_eq_true rfl, Nat.le_of_ble_eq_true rfl⟩ dL_tells_3 (k_RI (fun v_3 h_3 => ?_))
  have hb_3 := bp_2 hI (u := u) (by omega)
  refine y_istore_n (lv' := [(3, .int (iI (v_3))), (0, .ref (ad b (0))), (1, .int (iI (u))), (2, .int (iI (t)))]) hB dL_tells_6 rfl (by decide) rfl ?_
  refine y_aload_n hB 1 dL_tells_7 rfl rfl ?_
  refine y_iload_n hB 2 dL_tells_8 rfl rfl ?_
  refine y_iload_n hB 3 dL_tells_9 rfl rfl ?_
  refine m_V hB msX6_tellDeath q608 (s_tell _ G b C S u t N hI (by omega) (by omega) (by omega)) (t := 0) (by decide) (by decide) rfl rfl rfl rfl rfl ⟨Nat.le_of_ble_eq_true rfl, Nat.le_of_ble_eq_true rfl⟩ (Nat.le_of_ble_eq_true rfl) ⟨rfl, rfl⟩ ⟨Nat.le_of_ble_eq_true rfl, Nat.le_of_ble_eq_true rfl⟩ dL_tells_10 (k_WI (fun v_10 C_10 h_10 => ?_))
  obtain ⟨⟨hI_10, h3_10, h4_10⟩, hcs_10⟩ := id h_10
  have hk_10 : v_10 = -5 → C_10 (4 * u + 5) 2 = C (4 * u + 5) 2 := fun z => by
    rcases hcs_10 with g | g | g | g
    · omega
    · rw [g.2.2.2]
    · omega
    · omega
  refine y_istore (lv' := [(4, .int (iI (v_10))), (3, .int (iI (v_3))), (0, .ref (ad b (0))), (1, .int (iI (u))), (2, .int (iI (t)))]) hB dL_tells_13 (by decide) rfl ?_
  refine y_iload_n hB 1 dL_tells_15 rfl rfl ?_
  refine y_iconst (v := 1) hB dL_tells_16 rfl ?_
  refine y_icmp_le hB 35 dL_tells_17 (by decide) (by omega) (by omega) (fun c_17 => ?_) (fun c_17 => ?_)
  · refine y_iload_n hB 1 dL_tells_35 rfl rfl ?_
    refine y_if_ne hB 88 dL_tells_36 (by decide) (by omega) (fun c_36 => ?_) (fun c_36 => ?_)
    · refine y_iload hB 0 dL_tells_88 rfl ?_
      refine y_bipush (v := -5) hB dL_tells_90 (by decide) ?_
      refine y_icmp_ne hB 113 dL_tells_92 (by decide) (by omega) (by omega) (fun c_92 => ?_) (fun c_92 => ?_)
      · refine y_iload hB 0 dL_tells_113 rfl ?_
        refine y_iconst (v := 1) hB dL_tells_115 rfl ?_
        refine y_icmp_ne hB 148 dL_tells_116 (by decide) (by omega) (by omega) (fun c_116 => ?_) (fun c_116 => ?_)
        · refine y_iconst (v := 0) hB dL_tells_148 rfl ?_
          exact m_wi hB hE dL_tells_149 rfl (⟨by omega, hI_10, by omega⟩)
        · refine y_aload_n hB 2 dL_tells_119 rfl rfl ?_
          refine y_iload_n hB 3 dL_tells_120 rfl rfl ?_
          refine y_iconst (v := 2) hB dL_tells_121 rfl ?_
          refine m_V hB msX6_person q364 (sp_2 _ G b C_10 C_10 S u N (Sc.rf C_10) hI_10 (by omega) (by omega)) (t := 0) (by decide) (by decide) rfl rfl rfl rfl rfl ⟨Nat.le_of_ble_eq_true rfl, Nat.le_of_ble_eq_true rfl⟩ (Nat.le_of_ble_eq_true rfl) ⟨rfl, rfl⟩ ⟨Nat.le_of_ble_eq_true rfl, Nat.le_of_ble_eq_true rfl⟩ dL_tells_122 (k_RI (fun v_122 h_122 => ?_))
          have hb_122 := bp_2 hI_10 (u := u) (by omega)
          refine y_iconst (v := 2) hB dL_tells_125 rfl ?_
          refine y_icmp_ne hB 148 dL_tells_126 (by decide) (by omega) (by omega) (fun c_126 => ?_) (fun c_126 => ?_)
          · refine y_iconst (v := 0) hB dL_tells_148 rfl ?_
            exact m_wi hB hE dL_tells_149 rfl (⟨by omega, hI_10, by omega⟩)
          · refine y_aload_n hB 2 dL_tells_129 rfl rfl ?_
            refine y_iload_n hB 3 dL_tells_130 rfl rfl ?_
            refine y_bipush (v := 8) hB dL_tells_131 (by decide) ?_
            refine m_V hB msX6_person q364 (sp_8 _ G b C_10 C_10 S u N (Sc.rf C_10) hI_10 (by omega) (by omega)) (t := 0) (by decide) (by decide) rfl rfl rfl rfl rfl ⟨Nat.le_of_ble_eq_true rfl, Nat.le_of_ble_eq_true rfl⟩ (Nat.le_of_ble_eq_true rfl) ⟨rfl, rfl⟩ ⟨Nat.le_of_ble_eq_true rfl, Nat.le_of_ble_eq_true rfl⟩ dL_tells_133 (k_RI (fun v_133 h_133 => ?_))
            have hb_133 := bp_8 hI_10 (u := u) (by omega)
            refine y_aload_n hB 2 dL_tells_136 rfl rfl ?_
            refine y_iconst (v := 0) hB dL_tells_137 rfl ?_
            refine m_V hB msX6_count q462 (sc_0 _ G b C_10 C_10 S N (Sc.rf C_10) hI_10 (by omega)) (t := 0) (by decide) (by decide) rfl rfl rfl rfl rfl ⟨Nat.le_of_ble_eq_true rfl, Nat.le_of_ble_eq_true rfl⟩ (Nat.le_of_ble_eq_true rfl) ⟨rfl, rfl⟩ ⟨Nat.le_of_ble_eq_true rfl, Nat.le_of_ble_eq_true rfl⟩ dL_tells_138 (k_RI (fun v_138 h_138 => ?_))
            have hb_138 := bc_0 hI_10
            refine y_icmp_ne hB 148 dL_tells_141 (by decide) (by omega) (by omega) (fun c_141 => ?_) (fun c_141 => ?_)
            · refine y_iconst (v := 0) hB dL_tells_148 rfl ?_
              exact m_wi hB hE dL_tells_149 rfl (⟨by omega, hI_10, by omega⟩)
            · refine y_iconst (v := 1) hB dL_tells_144 rfl ?_
              refine y_goto hB 149 dL_tells_145 (by decide) ?_
              exact m_wi hB hE dL_tells_149 rfl (⟨by omega, hI_10, by omega⟩)
      · refine y_aload_n hB 2 dL_tells_95 rfl rfl ?_
        refine y_iload_n hB 3 dL_tells_96 rfl rfl ?_
        refine y_iconst (v := 2) hB dL_tells_97 rfl ?_
        refine m_V hB msX6_person q364 (sp_2 _ G b C_10 C_10 S u N (Sc.rf C_10) hI_10 (by omega) (by omega)) (t := 0) (by decide) (by decide) rfl rfl rfl rfl rfl ⟨Nat.le_of_ble_eq_true rfl, Nat.le_of_ble_eq_true rfl⟩ (Nat.le_of_ble_eq_true rfl) ⟨rfl, rfl⟩ ⟨Nat.le_of_ble_eq_true rfl, Nat.le_of_ble_eq_true rfl⟩ dL_tells_98 (k_RI (fun v_98 h_98 => ?_))
        have hb_98 := bp_2 hI_10 (u := u) (by omega)
        refine y_iconst (v := 1) hB dL_tells_101 rfl ?_
        refine y_icmp_ne hB 109 dL_tells_102 (by decide) (by omega) (by omega) (fun c_102 => ?_) (fun c_102 => ?_)
        · refine y_iconst (v := 0) hB dL_tells_109 rfl ?_
          refine y_goto hB 149 dL_tells_110 (by decide) ?_
          exact m_wi hB hE dL_tells_149 rfl (⟨by omega, hI_10, by omega⟩)
        · refine y_iconst (v := 1) hB dL_tells_105 rfl ?_
          refine y_goto hB 149 dL_tells_106 (by decide) ?_
          exact m_wi hB hE dL_tells_149 rfl (⟨by omega, hI_10, by omega⟩)
    · refine y_iload hB 0 dL_tells_39 rfl ?_
      refine y_if_ne hB 84 dL_tells_41 (by decide) (by omega) (fun c_41 => ?_) (fun c_41 => ?_)
      · refine y_iconst (v := 0) hB dL_tells_84 rfl ?_
        refine y_goto hB 149 dL_tells_85 (by decide) ?_
        exact m_wi hB hE dL_tells_149 rfl (⟨by omega, hI_10, by omega⟩)
      · refine y_aload_n hB 2 dL_tells_44 rfl rfl ?_
        refine y_iload_n hB 3 dL_tells_45 rfl rfl ?_
        refine y_iconst (v := 2) hB dL_tells_46 rfl ?_
        refine m_V hB msX6_person q364 (sp_2 _ G b C_10 C_10 S u N (Sc.rf C_10) hI_10 (by omega) (by omega)) (t := 0) (by decide) (by decide) rfl rfl rfl rfl rfl ⟨Nat.le_of_ble_eq_true rfl, Nat.le_of_ble_eq_true rfl⟩ (Nat.le_of_ble_eq_true rfl) ⟨rfl, rfl⟩ ⟨Nat.le_of_ble_eq_true rfl, Nat.le_of_ble_eq_true rfl⟩ dL_tells_47 (k_RI (fun v_47 h_47 => ?_))
        have hb_47 := bp_2 hI_10 (u := u) (by omega)
        refine y_iconst (v := 1) hB dL_tells_50 rfl ?_
        refine y_icmp_ne hB 84 dL_tells_51 (by decide) (by omega) (by omega) (fun c_51 => ?_) (fun c_51 => ?_)
        · refine y_iconst (v := 0) hB dL_tells_84 rfl ?_
          refine y_goto hB 149 dL_tells_85 (by decide) ?_
          exact m_wi hB hE dL_tells_149 rfl (⟨by omega, hI_10, by omega⟩)
        · refine y_aload_n hB 2 dL_tells_54 rfl rfl ?_
          refine y_iload_n hB 3 dL_tells_55 rfl rfl ?_
          refine y_iload_n hB 4 dL_tells_56 rfl rfl ?_
          refine m_V hB msX6_tellDeath q608 (s_tell _ G b C_10 S u t N hI_10 (by omega) (by omega) (by omega)) (t := 0) (by decide) (by decide) rfl rfl rfl rfl rfl ⟨Nat.le_of_ble_eq_true rfl, Nat.le_of_ble_eq_true rfl⟩ (Nat.le_of_ble_eq_true rfl) ⟨rfl, rfl⟩ ⟨Nat.le_of_ble_eq_true rfl, Nat.le_of_ble_eq_true rfl⟩ dL_tells_57 (k_WI (fun v_57 C_57 h_57 => ?_))
          obtain ⟨⟨hI_57, h3_57, h4_57⟩, hcs_57⟩ := id h_57
          have hCC : C_57 = C_10 := by
            rcases hcs_57 with g | g | g | g
            · omega
            · exact g.2.2.2
            · omega
            · omega
          subst hCC
          have hI_57 := hI_10
          refine y_bipush (v := -5) hB dL_tells_60 (by decide) ?_
          refine y_icmp_ne hB 84 dL_tells_62 (by decide) (by omega) (by omega) (fun c_62 => ?_) (fun c_62 => ?_)
          · refine y_iconst (v := 0) hB dL_tells_84 rfl ?_
            refine y_goto hB 149 dL_tells_85 (by decide) ?_
            exact m_wi hB hE dL_tells_149 rfl (⟨by omega, hI_57, by omega⟩)
          · refine y_aload_n hB 2 dL_tells_65 rfl rfl ?_
            refine y_iload_n hB 3 dL_tells_66 rfl rfl ?_
            refine y_bipush (v := 8) hB dL_tells_67 (by decide) ?_
            refine m_V hB msX6_person q364 (sp_8 _ G b C_57 C_57 S u N (Sc.rf C_57) hI_57 (by omega) (by omega)) (t := 0) (by decide) (by decide) rfl rfl rfl rfl rfl ⟨Nat.le_of_ble_eq_true rfl, Nat.le_of_ble_eq_true rfl⟩ (Nat.le_of_ble_eq_true rfl) ⟨rfl, rfl⟩ ⟨Nat.le_of_ble_eq_true rfl, Nat.le_of_ble_eq_true rfl⟩ dL_tells_69 (k_RI (fun v_69 h_69 => ?_))
            have hb_69 := bp_8 hI_57 (u := u) (by omega)
            refine y_aload_n hB 2 dL_tells_72 rfl rfl ?_
            refine y_iconst (v := 0) hB dL_tells_73 rfl ?_
            refine m_V hB msX6_count q462 (sc_0 _ G b C_57 C_57 S N (Sc.rf C_57) hI_57 (by omega)) (t := 0) (by decide) (by decide) rfl rfl rfl rfl rfl ⟨Nat.le_of_ble_eq_true rfl, Nat.le_of_ble_eq_true rfl⟩ (Nat.le_of_ble_eq_true rfl) ⟨rfl, rfl⟩ ⟨Nat.le_of_ble_eq_true rfl, Nat.le_of_ble_eq_true rfl⟩ dL_tells_74 (k_RI (fun v_74 h_74 => ?_))
            have hb_74 := bc_0 hI_57
            refine y_icmp_ne hB 84 dL_tells_77 (by decide) (by omega) (by omega) (fun c_77 => ?_) (fun c_77 => ?_)
            · refine y_iconst (v := 0) hB dL_tells_84 rfl ?_
              refine y_goto hB 149 dL_tells_85 (by decide) ?_
              exact m_wi hB hE dL_tells_149 rfl (⟨by omega, hI_57, by omega⟩)
            · refine y_iconst (v := 1) hB dL_tells_80 rfl ?_
              refine y_goto hB 149 dL_tells_81 (by decide) ?_
              exact m_wi hB hE dL_tells_149 rfl (⟨by omega, hI_57, by omega⟩)
  · refine y_iload hB 0 dL_tells_20 rfl ?_
    refine y_bipush (v := -4) hB dL_tells_22 (by decide) ?_
    refine y_icmp_ne hB 31 dL_tells_24 (by decide) (by omega) (by omega) (fun c_24 => ?_) (fun c_24 => ?_)
    · refine y_iconst (v := 0) hB dL_tells_31 rfl ?_
      refine y_goto hB 149 dL_tells_32 (by decide) ?_
      exact m_wi hB hE dL_tells_149 rfl (⟨by omega, hI_10, by omega⟩)
    · refine y_iconst (v := 1) hB dL_tells_27 rfl ?_
      refine y_goto hB 149 dL_tells_28 (by decide) ?_
      exact m_wi hB hE dL_tells_149 rfl (⟨by omega, hI_10, by omega⟩)
