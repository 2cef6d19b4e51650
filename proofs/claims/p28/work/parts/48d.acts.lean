set_option maxHeartbeats 4000000 in
theorem tL_acts (l : Launch) (G : gG) (b : Nat) (C S : gM) (c N : Int) (hI : Iv C N) (hN : N ≤ 490) (hP : 1 ≤ C 1 3) (hc : 0 ≤ c ∧ c ≤ 2147483647) : Ct l G b yL_acts cL_acts 19 (some .boolean) rmL_acts [.ref (ad b (0)), .int (iI (c))] 578 (wM G b C S) (WI G b S (fun v C' => v = 1 ∧ Iv C' (N + 8) ∧ C' 1 3 = C 1 3)) := by
  refine CtK_of (by decide) (Nat.le_of_ble_eq_true rfl) q591 ?_
  intro x hl hB hE _
  subst hl
  show YM x G b 0 0 C S 0 [(0, .ref (ad b (0))), (1, .int (iI (c)))] []
  have hb3 := bc_1 hI
  have hb24 := bc_2 hI
  refine y_iload_n hB 1 dL_acts_0 rfl rfl ?_
  refine y_iconst (v := 4) hB dL_acts_1 rfl ?_
  refine y_ishrR hB dL_acts_2 ?_
  rw [show (iI (c)) >>> ((iI (4)) &&& 31) = iI (c / 16) from shr_4 hc]
  refine y_aload_n hB 0 dL_acts_3 rfl rfl ?_
  refine y_iconst (v := 1) hB dL_acts_4 rfl ?_
  refine m_V hB msX6_count q462 (sc_1 _ G b C C S N (Sc.rf C) hI (by omega)) (t := 0) (by decide) (by decide) rfl rfl rfl rfl rfl ⟨Nat.le_of_ble_eq_true rfl, Nat.le_of_ble_eq_true rfl⟩ (Nat.le_of_ble_eq_true rfl) ⟨rfl, rfl⟩ ⟨Nat.le_of_ble_eq_true rfl, Nat.le_of_ble_eq_true rfl⟩ dL_acts_5 (k_RI (fun v_5 h_5 => ?_))
  have hb_5 := bc_1 hI
  refine y_irem hB dL_acts_8 (by omega) (by omega) ?_
  obtain ⟨u, hu_e⟩ : ∃ u : Int, (c / 16) % v_5 = u := ⟨_, rfl⟩
  have hu : 0 ≤ u ∧ u < C 1 3 := (by have h9 := mod_b (c / 16) (m := v_5) (by omega); rw [hu_e, h_5] at h9; exact h9)
  rw [hu_e]
  refine y_istore_n (lv' := [(2, .int (iI (u))), (0, .ref (ad b (0))), (1, .int (iI (c)))]) hB dL_acts_9 rfl (by decide) rfl ?_
  refine y_iload_n hB 2 dL_acts_10 rfl rfl ?_
  refine y_bipush (v := 9) hB dL_acts_11 (by decide) ?_
  refine y_ishrR hB dL_acts_13 ?_
  rw [show (iI (c)) >>> ((iI (9)) &&& 31) = iI (c / 512) from shr_9 hc]
  refine y_bipush (v := 6) hB dL_acts_14 (by decide) ?_
  refine y_irem hB dL_acts_16 (by omega) (by omega) ?_
  obtain ⟨t, ht_e⟩ : ∃ t : Int, (c / 512) % 6 = t := ⟨_, rfl⟩
  have ht : 0 ≤ t ∧ t < 6 := (by omega)
  rw [ht_e]
  refine y_istore_n (lv' := [(3, .int (iI (t))), (2, .int (iI (u))), (0, .ref (ad b (0))), (1, .int (iI (c)))]) hB dL_acts_17 rfl (by decide) rfl ?_
  refine y_aload_n hB 2 dL_acts_18 rfl rfl ?_
  refine y_iload_n hB 1 dL_acts_19 rfl rfl ?_
  refine y_iconst (v := 2) hB dL_acts_20 rfl ?_
  refine m_V hB msX6_person q364 (sp_2 _ G b C C S u N (Sc.rf C) hI (by omega) (by omega)) (t := 0) (by decide) (by decide) rfl rfl rfl rfl rfl ⟨Nat.le_of_ble_eq_true rfl, Nat.le_of_ble_eq_true rfl⟩ (Nat.le_of_ble_eq_true rfl) ⟨rfl, rfl⟩ ⟨Nat.le_of_ble_eq_true rfl, Nat.le_of_ble_eq_true rfl⟩ dL_acts_21 (k_RI (fun v_21 h_21 => ?_))
  have hb_21 := bp_2 hI (u := u) (by omega)
  refine y_istore (lv' := [(4, .int (iI (v_21))), (3, .int (iI (t))), (2, .int (iI (u))), (0, .ref (ad b (0))), (1, .int (iI (c)))]) hB dL_acts_24 (by decide) rfl ?_
  refine y_aload_n hB 3 dL_acts_26 rfl rfl ?_
  refine y_iload_n hB 2 dL_acts_27 rfl rfl ?_
  refine y_iconst (v := 3) hB dL_acts_28 rfl ?_
  refine m_V hB msX6_person q364 (sp_3 _ G b C C S u N (Sc.rf C) hI (by omega) (by omega)) (t := 0) (by decide) (by decide) rfl rfl rfl rfl rfl ⟨Nat.le_of_ble_eq_true rfl, Nat.le_of_ble_eq_true rfl⟩ (Nat.le_of_ble_eq_true rfl) ⟨rfl, rfl⟩ ⟨Nat.le_of_ble_eq_true rfl, Nat.le_of_ble_eq_true rfl⟩ dL_acts_29 (k_RI (fun v_29 h_29 => ?_))
  have hb_29 := bp_3 hI (u := u) (by omega)
  refine y_istore (lv' := [(5, .int (iI (v_29))), (4, .int (iI (v_21))), (3, .int (iI (t))), (2, .int (iI (u))), (0, .ref (ad b (0))), (1, .int (iI (c)))]) hB dL_acts_32 (by decide) rfl ?_
  refine y_aload_n hB 4 dL_acts_34 rfl rfl ?_
  refine y_iconst (v := 2) hB dL_acts_35 rfl ?_
  refine m_V hB msX6_count q462 (sc_2 _ G b C C S N (Sc.rf C) hI (by omega)) (t := 0) (by decide) (by decide) rfl rfl rfl rfl rfl ⟨Nat.le_of_ble_eq_true rfl, Nat.le_of_ble_eq_true rfl⟩ (Nat.le_of_ble_eq_true rfl) ⟨rfl, rfl⟩ ⟨Nat.le_of_ble_eq_true rfl, Nat.le_of_ble_eq_true rfl⟩ dL_acts_36 (k_RI (fun v_36 h_36 => ?_))
  have hb_36 := bc_2 hI
  refine y_istore (lv' := [(6, .int (iI (v_36))), (5, .int (iI (v_29))), (4, .int (iI (v_21))), (3, .int (iI (t))), (2, .int (iI (u))), (0, .ref (ad b (0))), (1, .int (iI (c)))]) hB dL_acts_39 (by decide) rfl ?_
  refine y_iload_n hB 6 dL_acts_41 rfl rfl ?_
  refine y_bipush (v := 8) hB dL_acts_42 (by decide) ?_
  refine y_irem hB dL_acts_44 (by omega) (by omega) ?_
  rcases (show c % 8 = 0 ∨ c % 8 = 1 ∨ c % 8 = 2 ∨ c % 8 = 3 ∨ c % 8 = 4 ∨ c % 8 = 5 ∨ c % 8 = 6 ∨ (c % 8 < 0 ∨ 6 < c % 8) by omega) with hsw_45 | hsw_45 | hsw_45 | hsw_45 | hsw_45 | hsw_45 | hsw_45 | hsw_45
  · refine y_tableIn hB 88 dL_acts_45 (by omega) (by omega) (by rw [hsw_45]; rfl) (by decide) ?_
    refine y_iconst (v := 1) hB dL_acts_88 rfl ?_
    refine y_iload_n hB 6 dL_acts_89 rfl rfl ?_
    refine y_bipush (v := 12) hB dL_acts_90 (by decide) ?_
    refine y_ishrR hB dL_acts_92 ?_
    rw [show (iI (c)) >>> ((iI (12)) &&& 31) = iI (c / 4096) from shr_12 hc]
    refine y_iconst (v := 5) hB dL_acts_93 rfl ?_
    refine y_irem hB dL_acts_94 (by omega) (by omega) ?_
    refine y_iadd (t := (c / 4096) % 5 + 1) hB dL_acts_95 (by omega) ?_
    obtain ⟨z, hz_e⟩ : ∃ z : Int, (c / 4096) % 5 + 1 = z := ⟨_, rfl⟩
    have hz : 1 ≤ z ∧ z ≤ 5 := (by omega)
    rw [hz_e]
    refine y_istore (lv' := [(7, .int (iI (z))), (6, .int (iI (v_36))), (5, .int (iI (v_29))), (4, .int (iI (v_21))), (3, .int (iI (t))), (2, .int (iI (u))), (0, .ref (ad b (0))), (1, .int (iI (c)))]) hB dL_acts_96 (by decide) rfl ?_
    refine y_aload_n hB 6 dL_acts_98 rfl rfl ?_
    refine y_iload_n hB 5 dL_acts_99 rfl rfl ?_
    refine y_iload_n hB 4 dL_acts_100 rfl rfl ?_
    refine y_iload hB 0 dL_acts_101 rfl ?_
    refine m_V hB msX6_write q592 (s_write _ G b C S u t z N hI (by omega) (by omega) (by omega) (by omega)) (t := 0) (by decide) (by decide) rfl rfl rfl rfl rfl ⟨Nat.le_of_ble_eq_true rfl, Nat.le_of_ble_eq_true rfl⟩ (Nat.le_of_ble_eq_true rfl) ⟨rfl, rfl⟩ ⟨Nat.le_of_ble_eq_true rfl, Nat.le_of_ble_eq_true rfl⟩ dL_acts_103 (k_WI (fun v_103 C_103 h_103 => ?_))
    obtain ⟨⟨hI_103, h3_103, h4_103⟩, hcs_103⟩ := id h_103
    refine y_istore (lv' := [(8, .int (iI (v_103))), (7, .int (iI (z))), (6, .int (iI (v_36))), (5, .int (iI (v_29))), (4, .int (iI (v_21))), (3, .int (iI (t))), (2, .int (iI (u))), (0, .ref (ad b (0))), (1, .int (iI (c)))]) hB dL_acts_106 (by decide) rfl ?_
    refine y_iload hB 4 dL_acts_108 rfl ?_
    refine y_iconst (v := 3) hB dL_acts_110 rfl ?_
    refine y_icmp_ne hB 129 dL_acts_111 (by decide) (by omega) (by omega) (fun c_111 => ?_) (fun c_111 => ?_)
    · refine y_iload hB 3 dL_acts_129 rfl ?_
      refine y_bipush (v := 8) hB dL_acts_131 (by decide) ?_
      refine y_icmp_eq hB 143 dL_acts_133 (by decide) (by omega) (by omega) (fun c_133 => ?_) (fun c_133 => ?_)
      · refine y_iload hB 0 dL_acts_143 rfl ?_
        refine y_bipush (v := -3) hB dL_acts_145 (by decide) ?_
        refine y_icmp_ne hB 154 dL_acts_147 (by decide) (by omega) (by omega) (fun c_147 => ?_) (fun c_147 => ?_)
        · refine y_iconst (v := 0) hB dL_acts_154 rfl ?_
          refine y_goto hB 199 dL_acts_155 (by decide) ?_
          exact m_wi hB hE dL_acts_199 rfl (⟨by omega, hI_103.up (by omega), by omega⟩)
        · refine y_iconst (v := 1) hB dL_acts_150 rfl ?_
          refine y_goto hB 199 dL_acts_151 (by decide) ?_
          exact m_wi hB hE dL_acts_199 rfl (⟨by omega, hI_103.up (by omega), by omega⟩)
      · refine y_iload hB 1 dL_acts_136 rfl ?_
        refine y_iload hB 2 dL_acts_138 rfl ?_
        refine y_icmp_le hB 158 dL_acts_140 (by decide) (by omega) (by omega) (fun c_140 => ?_) (fun c_140 => ?_)
        · refine y_iload hB 0 dL_acts_158 rfl ?_
          refine y_iload hB 3 dL_acts_160 rfl ?_
          refine y_icmp_ne hB 198 dL_acts_162 (by decide) (by omega) (by omega) (fun c_162 => ?_) (fun c_162 => ?_)
          · refine y_iconst (v := 0) hB dL_acts_198 rfl ?_
            exact m_wi hB hE dL_acts_199 rfl (⟨by omega, hI_103.up (by omega), by omega⟩)
          · refine y_aload_n hB 7 dL_acts_165 rfl rfl ?_
            refine y_iconst (v := 2) hB dL_acts_166 rfl ?_
            refine m_V hB msX6_count q462 (sc_2 _ G b C_103 C_103 S N (Sc.rf C_103) hI_103 (by omega)) (t := 0) (by decide) (by decide) rfl rfl rfl rfl rfl ⟨Nat.le_of_ble_eq_true rfl, Nat.le_of_ble_eq_true rfl⟩ (Nat.le_of_ble_eq_true rfl) ⟨rfl, rfl⟩ ⟨Nat.le_of_ble_eq_true rfl, Nat.le_of_ble_eq_true rfl⟩ dL_acts_167 (k_RI (fun v_167 h_167 => ?_))
            have hb_167 := bc_2 hI_103
            refine y_iload hB 2 dL_acts_170 rfl ?_
            refine y_iload hB 1 dL_acts_172 rfl ?_
            refine y_isub (t := v_36 - z) hB dL_acts_174 (by omega) ?_
            refine y_icmp_ne hB 198 dL_acts_175 (by decide) (by omega) (by omega) (fun c_175 => ?_) (fun c_175 => ?_)
            · refine y_iconst (v := 0) hB dL_acts_198 rfl ?_
              exact m_wi hB hE dL_acts_199 rfl (⟨by omega, hI_103.up (by omega), by omega⟩)
            · refine y_aload_n hB 7 dL_acts_178 rfl rfl ?_
              refine y_iload_n hB 6 dL_acts_179 rfl rfl ?_
              refine y_iload hB 3 dL_acts_180 rfl ?_
              refine y_iconst (v := 2) hB dL_acts_182 rfl ?_
              refine m_V hB msX6_fact q502 (sf_2 _ G b C_103 C_103 S u v_29 N (Sc.rf C_103) hI_103 (by omega) (by omega) (by omega)) (t := 0) (by decide) (by decide) rfl rfl rfl rfl rfl ⟨Nat.le_of_ble_eq_true rfl, Nat.le_of_ble_eq_true rfl⟩ (Nat.le_of_ble_eq_true rfl) ⟨rfl, rfl⟩ ⟨Nat.le_of_ble_eq_true rfl, Nat.le_of_ble_eq_true rfl⟩ dL_acts_183 (k_RI (fun v_183 h_183 => ?_))
              have hb_183 := bf_2 hI_103 (u := u) (t := v_29) (by omega) (by omega)
              rw [h_29] at h_183
              refine y_aload_n hB 7 dL_acts_186 rfl rfl ?_
              refine y_iconst (v := 0) hB dL_acts_187 rfl ?_
              refine m_V hB msX6_count q462 (sc_0 _ G b C_103 C_103 S N (Sc.rf C_103) hI_103 (by omega)) (t := 0) (by decide) (by decide) rfl rfl rfl rfl rfl ⟨Nat.le_of_ble_eq_true rfl, Nat.le_of_ble_eq_true rfl⟩ (Nat.le_of_ble_eq_true rfl) ⟨rfl, rfl⟩ ⟨Nat.le_of_ble_eq_true rfl, Nat.le_of_ble_eq_true rfl⟩ dL_acts_188 (k_RI (fun v_188 h_188 => ?_))
              have hb_188 := bc_0 hI_103
              refine y_icmp_ne hB 198 dL_acts_191 (by decide) (by omega) (by omega) (fun c_191 => ?_) (fun c_191 => ?_)
              · refine y_iconst (v := 0) hB dL_acts_198 rfl ?_
                exact m_wi hB hE dL_acts_199 rfl (⟨by omega, hI_103.up (by omega), by omega⟩)
              · refine y_iconst (v := 1) hB dL_acts_194 rfl ?_
                refine y_goto hB 199 dL_acts_195 (by decide) ?_
                exact m_wi hB hE dL_acts_199 rfl (⟨by omega, hI_103.up (by omega), by omega⟩)
        · refine y_iload hB 0 dL_acts_143 rfl ?_
          refine y_bipush (v := -3) hB dL_acts_145 (by decide) ?_
          refine y_icmp_ne hB 154 dL_acts_147 (by decide) (by omega) (by omega) (fun c_147 => ?_) (fun c_147 => ?_)
          · refine y_iconst (v := 0) hB dL_acts_154 rfl ?_
            refine y_goto hB 199 dL_acts_155 (by decide) ?_
            exact m_wi hB hE dL_acts_199 rfl (⟨by omega, hI_103.up (by omega), by omega⟩)
          · refine y_iconst (v := 1) hB dL_acts_150 rfl ?_
            refine y_goto hB 199 dL_acts_151 (by decide) ?_
            exact m_wi hB hE dL_acts_199 rfl (⟨by omega, hI_103.up (by omega), by omega⟩)
    · refine y_iload hB 0 dL_acts_114 rfl ?_
      refine y_bipush (v := -4) hB dL_acts_116 (by decide) ?_
      refine y_icmp_ne hB 125 dL_acts_118 (by decide) (by omega) (by omega) (fun c_118 => ?_) (fun c_118 => ?_)
      · refine y_iconst (v := 0) hB dL_acts_125 rfl ?_
        refine y_goto hB 199 dL_acts_126 (by decide) ?_
        exact m_wi hB hE dL_acts_199 rfl (⟨by omega, hI_103.up (by omega), by omega⟩)
      · refine y_iconst (v := 1) hB dL_acts_121 rfl ?_
        refine y_goto hB 199 dL_acts_122 (by decide) ?_
        exact m_wi hB hE dL_acts_199 rfl (⟨by omega, hI_103.up (by omega), by omega⟩)
  · refine y_tableIn hB 88 dL_acts_45 (by omega) (by omega) (by rw [hsw_45]; rfl) (by decide) ?_
    refine y_iconst (v := 1) hB dL_acts_88 rfl ?_
    refine y_iload_n hB 6 dL_acts_89 rfl rfl ?_
    refine y_bipush (v := 12) hB dL_acts_90 (by decide) ?_
    refine y_ishrR hB dL_acts_92 ?_
    rw [show (iI (c)) >>> ((iI (12)) &&& 31) = iI (c / 4096) from shr_12 hc]
    refine y_iconst (v := 5) hB dL_acts_93 rfl ?_
    refine y_irem hB dL_acts_94 (by omega) (by omega) ?_
    refine y_iadd (t := (c / 4096) % 5 + 1) hB dL_acts_95 (by omega) ?_
    obtain ⟨z, hz_e⟩ : ∃ z : Int, (c / 4096) % 5 + 1 = z := ⟨_, rfl⟩
    have hz : 1 ≤ z ∧ z ≤ 5 := (by omega)
    rw [hz_e]
    refine y_istore (lv' := [(7, .int (iI (z))), (6, .int (iI (v_36))), (5, .int (iI (v_29))), (4, .int (iI (v_21))), (3, .int (iI (t))), (2, .int (iI (u))), (0, .ref (ad b (0))), (1, .int (iI (c)))]) hB dL_acts_96 (by decide) rfl ?_
    refine y_aload_n hB 6 dL_acts_98 rfl rfl ?_
    refine y_iload_n hB 5 dL_acts_99 rfl rfl ?_
    refine y_iload_n hB 4 dL_acts_100 rfl rfl ?_
    refine y_iload hB 0 dL_acts_101 rfl ?_
    refine m_V hB msX6_write q592 (s_write _ G b C S u t z N hI (by omega) (by omega) (by omega) (by omega)) (t := 0) (by decide) (by decide) rfl rfl rfl rfl rfl ⟨Nat.le_of_ble_eq_true rfl, Nat.le_of_ble_eq_true rfl⟩ (Nat.le_of_ble_eq_true rfl) ⟨rfl, rfl⟩ ⟨Nat.le_of_ble_eq_true rfl, Nat.le_of_ble_eq_true rfl⟩ dL_acts_103 (k_WI (fun v_103 C_103 h_103 => ?_))
    obtain ⟨⟨hI_103, h3_103, h4_103⟩, hcs_103⟩ := id h_103
    refine y_istore (lv' := [(8, .int (iI (v_103))), (7, .int (iI (z))), (6, .int (iI (v_36))), (5, .int (iI (v_29))), (4, .int (iI (v_21))), (3, .int (iI (t))), (2, .int (iI (u))), (0, .ref (ad b (0))), (1, .int (iI (c)))]) hB dL_acts_106 (by decide) rfl ?_
    refine y_iload hB 4 dL_acts_108 rfl ?_
    refine y_iconst (v := 3) hB dL_acts_110 rfl ?_
    refine y_icmp_ne hB 129 dL_acts_111 (by decide) (by omega) (by omega) (fun c_111 => ?_) (fun c_111 => ?_)
    · refine y_iload hB 3 dL_acts_129 rfl ?_
      refine y_bipush (v := 8) hB dL_acts_131 (by decide) ?_
      refine y_icmp_eq hB 143 dL_acts_133 (by decide) (by omega) (by omega) (fun c_133 => ?_) (fun c_133 => ?_)
      · refine y_iload hB 0 dL_acts_143 rfl ?_
        refine y_bipush (v := -3) hB dL_acts_145 (by decide) ?_
        refine y_icmp_ne hB 154 dL_acts_147 (by decide) (by omega) (by omega) (fun c_147 => ?_) (fun c_147 => ?_)
        · refine y_iconst (v := 0) hB dL_acts_154 rfl ?_
          refine y_goto hB 199 dL_acts_155 (by decide) ?_
          exact m_wi hB hE dL_acts_199 rfl (⟨by omega, hI_103.up (by omega), by omega⟩)
        · refine y_iconst (v := 1) hB dL_acts_150 rfl ?_
          refine y_goto hB 199 dL_acts_151 (by decide) ?_
          exact m_wi hB hE dL_acts_199 rfl (⟨by omega, hI_103.up (by omega), by omega⟩)
      · refine y_iload hB 1 dL_acts_136 rfl ?_
        refine y_iload hB 2 dL_acts_138 rfl ?_
        refine y_icmp_le hB 158 dL_acts_140 (by decide) (by omega) (by omega) (fun c_140 => ?_) (fun c_140 => ?_)
        · refine y_iload hB 0 dL_acts_158 rfl ?_
          refine y_iload hB 3 dL_acts_160 rfl ?_
          refine y_icmp_ne hB 198 dL_acts_162 (by decide) (by omega) (by omega) (fun c_162 => ?_) (fun c_162 => ?_)
          · refine y_iconst (v := 0) hB dL_acts_198 rfl ?_
            exact m_wi hB hE dL_acts_199 rfl (⟨by omega, hI_103.up (by omega), by omega⟩)
          · refine y_aload_n hB 7 dL_acts_165 rfl rfl ?_
            refine y_iconst (v := 2) hB dL_acts_166 rfl ?_
            refine m_V hB msX6_count q462 (sc_2 _ G b C_103 C_103 S N (Sc.rf C_103) hI_103 (by omega)) (t := 0) (by decide) (by decide) rfl rfl rfl rfl rfl ⟨Nat.le_of_ble_eq_true rfl, Nat.le_of_ble_eq_true rfl⟩ (Nat.le_of_ble_eq_true rfl) ⟨rfl, rfl⟩ ⟨Nat.le_of_ble_eq_true rfl, Nat.le_of_ble_eq_true rfl⟩ dL_acts_167 (k_RI (fun v_167 h_167 => ?_))
            have hb_167 := bc_2 hI_103
            refine y_iload hB 2 dL_acts_170 rfl ?_
            refine y_iload hB 1 dL_acts_172 rfl ?_
            refine y_isub (t := v_36 - z) hB dL_acts_174 (by omega) ?_
            refine y_icmp_ne hB 198 dL_acts_175 (by decide) (by omega) (by omega) (fun c_175 => ?_) (fun c_175 => ?_)
            · refine y_iconst (v := 0) hB dL_acts_198 rfl ?_
              exact m_wi hB hE dL_acts_199 rfl (⟨by omega, hI_103.up (by omega), by omega⟩)
            · refine y_aload_n hB 7 dL_acts_178 rfl rfl ?_
              refine y_iload_n hB 6 dL_acts_179 rfl rfl ?_
              refine y_iload hB 3 dL_acts_180 rfl ?_
              refine y_iconst (v := 2) hB dL_acts_182 rfl ?_
              refine m_V hB msX6_fact q502 (sf_2 _ G b C_103 C_103 S u v_29 N (Sc.rf C_103) hI_103 (by omega) (by omega) (by omega)) (t := 0) (by decide) (by decide) rfl rfl rfl rfl rfl ⟨Nat.le_of_ble_eq_true rfl, Nat.le_of_ble_eq_true rfl⟩ (Nat.le_of_ble_eq_true rfl) ⟨rfl, rfl⟩ ⟨Nat.le_of_ble_eq_true rfl, Nat.le_of_ble_eq_true rfl⟩ dL_acts_183 (k_RI (fun v_183 h_183 => ?_))
              have hb_183 := bf_2 hI_103 (u := u) (t := v_29) (by omega) (by omega)
              rw [h_29] at h_183
              refine y_aload_n hB 7 dL_acts_186 rfl rfl ?_
              refine y_iconst (v := 0) hB dL_acts_187 rfl ?_
              refine m_V hB msX6_count q462 (sc_0 _ G b C_103 C_103 S N (Sc.rf C_103) hI_103 (by omega)) (t := 0) (by decide) (by decide) rfl rfl rfl rfl rfl ⟨Nat.le_of_ble_eq_true rfl, Nat.le_of_ble_eq_true rfl⟩ (Nat.le_of_ble_eq_true rfl) ⟨rfl, rfl⟩ ⟨Nat.le_of_ble_eq_true rfl, Nat.le_of_ble_eq_true rfl⟩ dL_acts_188 (k_RI (fun v_188 h_188 => ?_))
              have hb_188 := bc_0 hI_103
              refine y_icmp_ne hB 198 dL_acts_191 (by decide) (by omega) (by omega) (fun c_191 => ?_) (fun c_191 => ?_)
              · refine y_iconst (v := 0) hB dL_acts_198 rfl ?_
                exact m_wi hB hE dL_acts_199 rfl (⟨by omega, hI_103.up (by omega), by omega⟩)
              · refine y_iconst (v := 1) hB dL_acts_194 rfl ?_
                refine y_goto hB 199 dL_acts_195 (by decide) ?_
                exact m_wi hB hE dL_acts_199 rfl (⟨by omega, hI_103.up (by omega), by omega⟩)
        · refine y_iload hB 0 dL_acts_143 rfl ?_
          refine y_bipush (v := -3) hB dL_acts_145 (by decide) ?_
          refine y_icmp_ne hB 154 dL_acts_147 (by decide) (by omega) (by omega) (fun c_147 => ?_) (fun c_147 => ?_)
          · refine y_iconst (v := 0) hB dL_acts_154 rfl ?_
            refine y_goto hB 199 dL_acts_155 (by decide) ?_
            exact m_wi hB hE dL_acts_199 rfl (⟨by omega, hI_103.up (by omega), by omega⟩)
          · refine y_iconst (v := 1) hB dL_acts_150 rfl ?_
            refine y_goto hB 199 dL_acts_151 (by decide) ?_
            exact m_wi hB hE dL_acts_199 rfl (⟨by omega, hI_103.up (by omega), by omega⟩)
    · refine y_iload hB 0 dL_acts_114 rfl ?_
      refine y_bipush (v := -4) hB dL_acts_116 (by decide) ?_
      refine y_icmp_ne hB 125 dL_acts_118 (by decide) (by omega) (by omega) (fun c_118 => ?_) (fun c_118 => ?_)
      · refine y_iconst (v := 0) hB dL_acts_125 rfl ?_
        refine y_goto hB 199 dL_acts_126 (by decide) ?_
        exact m_wi hB hE dL_acts_199 rfl (⟨by omega, hI_103.up (by omega), by omega⟩)
      · refine y_iconst (v := 1) hB dL_acts_121 rfl ?_
        refine y_goto hB 199 dL_acts_122 (by decide) ?_
        exact m_wi hB hE dL_acts_199 rfl (⟨by omega, hI_103.up (by omega), by omega⟩)
  · refine y_tableIn hB 200 dL_acts_45 (by omega) (by omega) (by rw [hsw_45]; rfl) (by decide) ?_
    refine y_iload hB 1 dL_acts_200 rfl ?_
    refine y_if_ne hB 209 dL_acts_202 (by decide) (by omega) (fun c_202 => ?_) (fun c_202 => ?_)
    · refine y_iload_n hB 6 dL_acts_209 rfl rfl ?_
      refine y_bipush (v := 12) hB dL_acts_210 (by decide) ?_
      refine y_ishrR hB dL_acts_212 ?_
      rw [show (iI (c)) >>> ((iI (12)) &&& 31) = iI (c / 4096) from shr_12 hc]
      refine y_iload hB 1 dL_acts_213 rfl ?_
      refine y_irem hB dL_acts_215 (by omega) (by omega) ?_
      obtain ⟨f, hf_e⟩ : ∃ f : Int, (c / 4096) % v_29 = f := ⟨_, rfl⟩
      have hf : 0 ≤ f ∧ f < v_29 := (by have h9 := mod_b (c / 4096) (m := v_29) (by omega); rw [hf_e] at h9; exact h9)
      rw [hf_e]
      refine y_istore (lv' := [(9, .int (iI (f))), (6, .int (iI (v_36))), (5, .int (iI (v_29))), (4, .int (iI (v_21))), (3, .int (iI (t))), (2, .int (iI (u))), (0, .ref (ad b (0))), (1, .int (iI (c)))]) hB dL_acts_216 (by decide) rfl ?_
      refine y_aload_n hB 6 dL_acts_218 rfl rfl ?_
      refine y_iload_n hB 5 dL_acts_219 rfl rfl ?_
      refine y_iload hB 0 dL_acts_220 rfl ?_
      refine y_iconst (v := 2) hB dL_acts_222 rfl ?_
      refine m_V hB msX6_fact q502 (sf_2 _ G b C C S u f N (Sc.rf C) hI (by omega) (by omega) (by omega)) (t := 0) (by decide) (by decide) rfl rfl rfl rfl rfl ⟨Nat.le_of_ble_eq_true rfl, Nat.le_of_ble_eq_true rfl⟩ (Nat.le_of_ble_eq_true rfl) ⟨rfl, rfl⟩ ⟨Nat.le_of_ble_eq_true rfl, Nat.le_of_ble_eq_true rfl⟩ dL_acts_223 (k_RI (fun v_223 h_223 => ?_))
      have hb_223 := bf_2 hI (u := u) (t := f) (by omega) (by omega)
      refine y_istore (lv' := [(10, .int (iI (v_223))), (9, .int (iI (f))), (6, .int (iI (v_36))), (5, .int (iI (v_29))), (4, .int (iI (v_21))), (3, .int (iI (t))), (2, .int (iI (u))), (0, .ref (ad b (0))), (1, .int (iI (c)))]) hB dL_acts_226 (by decide) rfl ?_
      refine y_aload_n hB 7 dL_acts_228 rfl rfl ?_
      refine y_iload_n hB 6 dL_acts_229 rfl rfl ?_
      refine y_iload hB 1 dL_acts_230 rfl ?_
      refine m_V hB msX6_check q601 (s_check _ G b C S u f N hI (by omega) (by omega) (by omega)) (t := 0) (by decide) (by decide) rfl rfl rfl rfl rfl ⟨Nat.le_of_ble_eq_true rfl, Nat.le_of_ble_eq_true rfl⟩ (Nat.le_of_ble_eq_true rfl) ⟨rfl, rfl⟩ ⟨Nat.le_of_ble_eq_true rfl, Nat.le_of_ble_eq_true rfl⟩ dL_acts_232 (k_WI (fun v_232 C_232 h_232 => ?_))
      obtain ⟨⟨hI_232, h3_232, h4_232⟩, hcs_232⟩ := id h_232
      refine y_istore (lv' := [(11, .int (iI (v_232))), (10, .int (iI (v_223))), (9, .int (iI (f))), (6, .int (iI (v_36))), (5, .int (iI (v_29))), (4, .int (iI (v_21))), (3, .int (iI (t))), (2, .int (iI (u))), (0, .ref (ad b (0))), (1, .int (iI (c)))]) hB dL_acts_235 (by decide) rfl ?_
      refine y_iload hB 4 dL_acts_237 rfl ?_
      refine y_if_ne hB 256 dL_acts_239 (by decide) (by omega) (fun c_239 => ?_) (fun c_239 => ?_)
      · refine y_iload hB 5 dL_acts_256 rfl ?_
        refine y_iconst (v := 3) hB dL_acts_258 rfl ?_
        refine y_icmp_ne hB 277 dL_acts_259 (by decide) (by omega) (by omega) (fun c_259 => ?_) (fun c_259 => ?_)
        · refine y_iload hB 3 dL_acts_277 rfl ?_
          refine y_if_ne hB 297 dL_acts_279 (by decide) (by omega) (fun c_279 => ?_) (fun c_279 => ?_)
          · refine y_iload hB 1 dL_acts_297 rfl ?_
            refine y_aload_n hB 8 dL_acts_299 rfl rfl ?_
            refine y_iconst (v := 0) hB dL_acts_300 rfl ?_
            refine m_V hB msX6_count q462 (sc_0 _ G b C_232 C_232 S N (Sc.rf C_232) hI_232 (by omega)) (t := 0) (by decide) (by decide) rfl rfl rfl rfl rfl ⟨Nat.le_of_ble_eq_true rfl, Nat.le_of_ble_eq_true rfl⟩ (Nat.le_of_ble_eq_true rfl) ⟨rfl, rfl⟩ ⟨Nat.le_of_ble_eq_true rfl, Nat.le_of_ble_eq_true rfl⟩ dL_acts_301 (k_RI (fun v_301 h_301 => ?_))
            have hb_301 := bc_0 hI_232
            refine y_icmp_ne hB 322 dL_acts_304 (by decide) (by omega) (by omega) (fun c_304 => ?_) (fun c_304 => ?_)
            · refine y_iload hB 0 dL_acts_322 rfl ?_
              refine y_iload hB 3 dL_acts_324 rfl ?_
              refine y_iconst (v := 1) hB dL_acts_326 rfl ?_
              refine y_isub (t := v_36 - 1) hB dL_acts_327 (by omega) ?_
              refine y_icmp_ne hB 351 dL_acts_328 (by decide) (by omega) (by omega) (fun c_328 => ?_) (fun c_328 => ?_)
              · refine y_iconst (v := 0) hB dL_acts_351 rfl ?_
                exact m_wi hB hE dL_acts_352 rfl (⟨by omega, hI_232.up (by omega), by omega⟩)
              · refine y_aload_n hB 8 dL_acts_331 rfl rfl ?_
                refine y_iload_n hB 7 dL_acts_332 rfl rfl ?_
                refine y_iload hB 2 dL_acts_333 rfl ?_
                refine y_iconst (v := 2) hB dL_acts_335 rfl ?_
                refine m_V hB msX6_fact q502 (sf_2 _ G b C_232 C_232 S u f N (Sc.rf C_232) hI_232 (by omega) (by omega) (by omega)) (t := 0) (by decide) (by decide) rfl rfl rfl rfl rfl ⟨Nat.le_of_ble_eq_true rfl, Nat.le_of_ble_eq_true rfl⟩ (Nat.le_of_ble_eq_true rfl) ⟨rfl, rfl⟩ ⟨Nat.le_of_ble_eq_true rfl, Nat.le_of_ble_eq_true rfl⟩ dL_acts_336 (k_RI (fun v_336 h_336 => ?_))
                have hb_336 := bf_2 hI_232 (u := u) (t := f) (by omega) (by omega)
                refine y_aload_n hB 8 dL_acts_339 rfl rfl ?_
                refine y_iconst (v := 0) hB dL_acts_340 rfl ?_
                refine m_V hB msX6_count q462 (sc_0 _ G b C_232 C_232 S N (Sc.rf C_232) hI_232 (by omega)) (t := 0) (by decide) (by decide) rfl rfl rfl rfl rfl ⟨Nat.le_of_ble_eq_true rfl, Nat.le_of_ble_eq_true rfl⟩ (Nat.le_of_ble_eq_true rfl) ⟨rfl, rfl⟩ ⟨Nat.le_of_ble_eq_true rfl, Nat.le_of_ble_eq_true rfl⟩ dL_acts_341 (k_RI (fun v_341 h_341 => ?_))
                have hb_341 := bc_0 hI_232
                refine y_icmp_ne hB 351 dL_acts_344 (by decide) (by omega) (by omega) (fun c_344 => ?_) (fun c_344 => ?_)
                · refine y_iconst (v := 0) hB dL_acts_351 rfl ?_
                  exact m_wi hB hE dL_acts_352 rfl (⟨by omega, hI_232.up (by omega), by omega⟩)
                · refine y_iconst (v := 1) hB dL_acts_347 rfl ?_
                  refine y_goto hB 352 dL_acts_348 (by decide) ?_
                  exact m_wi hB hE dL_acts_352 rfl (⟨by omega, hI_232.up (by omega), by omega⟩)
            · refine y_iload hB 0 dL_acts_307 rfl ?_
              refine y_bipush (v := -5) hB dL_acts_309 (by decide) ?_
              refine y_icmp_ne hB 318 dL_acts_311 (by decide) (by omega) (by omega) (fun c_311 => ?_) (fun c_311 => ?_)
              · refine y_iconst (v := 0) hB dL_acts_318 rfl ?_
                refine y_goto hB 352 dL_acts_319 (by decide) ?_
                exact m_wi hB hE dL_acts_352 rfl (⟨by omega, hI_232.up (by omega), by omega⟩)
              · refine y_iconst (v := 1) hB dL_acts_314 rfl ?_
                refine y_goto hB 352 dL_acts_315 (by decide) ?_
                exact m_wi hB hE dL_acts_352 rfl (⟨by omega, hI_232.up (by omega), by omega⟩)
          · refine y_iload hB 0 dL_acts_282 rfl ?_
            refine y_bipush (v := -3) hB dL_acts_284 (by decide) ?_
            refine y_icmp_ne hB 293 dL_acts_286 (by decide) (by omega) (by omega) (fun c_286 => ?_) (fun c_286 => ?_)
            · refine y_iconst (v := 0) hB dL_acts_293 rfl ?_
              refine y_goto hB 352 dL_acts_294 (by decide) ?_
              exact m_wi hB hE dL_acts_352 rfl (⟨by omega, hI_232.up (by omega), by omega⟩)
            · refine y_iconst (v := 1) hB dL_acts_289 rfl ?_
              refine y_goto hB 352 dL_acts_290 (by decide) ?_
              exact m_wi hB hE dL_acts_352 rfl (⟨by omega, hI_232.up (by omega), by omega⟩)
        · refine y_iload hB 0 dL_acts_262 rfl ?_
          refine y_bipush (v := -4) hB dL_acts_264 (by decide) ?_
          refine y_icmp_ne hB 273 dL_acts_266 (by decide) (by omega) (by omega) (fun c_266 => ?_) (fun c_266 => ?_)
          · refine y_iconst (v := 0) hB dL_acts_273 rfl ?_
            refine y_goto hB 352 dL_acts_274 (by decide) ?_
            exact m_wi hB hE dL_acts_352 rfl (⟨by omega, hI_232.up (by omega), by omega⟩)
          · refine y_iconst (v := 1) hB dL_acts_269 rfl ?_
            refine y_goto hB 352 dL_acts_270 (by decide) ?_
            exact m_wi hB hE dL_acts_352 rfl (⟨by omega, hI_232.up (by omega), by omega⟩)
      · refine y_iload hB 0 dL_acts_242 rfl ?_
        refine y_iconst (v := -1) hB dL_acts_244 rfl ?_
        refine y_icmp_ne hB 252 dL_acts_245 (by decide) (by omega) (by omega) (fun c_245 => ?_) (fun c_245 => ?_)
        · refine y_iconst (v := 0) hB dL_acts_252 rfl ?_
          refine y_goto hB 352 dL_acts_253 (by decide) ?_
          exact m_wi hB hE dL_acts_352 rfl (⟨by omega, hI_232.up (by omega), by omega⟩)
        · refine y_iconst (v := 1) hB dL_acts_248 rfl ?_
          refine y_goto hB 352 dL_acts_249 (by decide) ?_
          exact m_wi hB hE dL_acts_352 rfl (⟨by omega, hI_232.up (by omega), by omega⟩)
    · refine y_iconst (v := 0) hB dL_acts_205 rfl ?_
      refine y_goto hB 216 dL_acts_206 (by decide) ?_
      refine y_istore (lv' := [(9, .int (iI (0))), (6, .int (iI (v_36))), (5, .int (iI (v_29))), (4, .int (iI (v_21))), (3, .int (iI (t))), (2, .int (iI (u))), (0, .ref (ad b (0))), (1, .int (iI (c)))]) hB dL_acts_216 (by decide) rfl ?_
      refine y_aload_n hB 6 dL_acts_218 rfl rfl ?_
      refine y_iload_n hB 5 dL_acts_219 rfl rfl ?_
      refine y_iload hB 0 dL_acts_220 rfl ?_
      refine y_iconst (v := 2) hB dL_acts_222 rfl ?_
      refine m_V hB msX6_fact q502 (sf_N _ G b C C S u 0 N (Sc.rf C) hI (by omega) (by omega) (by omega)) (t := 0) (by decide) (by decide) rfl rfl rfl rfl rfl ⟨Nat.le_of_ble_eq_true rfl, Nat.le_of_ble_eq_true rfl⟩ (Nat.le_of_ble_eq_true rfl) ⟨rfl, rfl⟩ ⟨Nat.le_of_ble_eq_true rfl, Nat.le_of_ble_eq_true rfl⟩ dL_acts_223 (k_RI (fun v_223 h_223 => ?_))
      refine y_istore (lv' := [(10, .int (iI (v_223))), (9, .int (iI (0))), (6, .int (iI (v_36))), (5, .int (iI (v_29))), (4, .int (iI (v_21))), (3, .int (iI (t))), (2, .int (iI (u))), (0, .ref (ad b (0))), (1, .int (iI (c)))]) hB dL_acts_226 (by decide) rfl ?_
      refine y_aload_n hB 7 dL_acts_228 rfl rfl ?_
      refine y_iload_n hB 6 dL_acts_229 rfl rfl ?_
      refine y_iload hB 1 dL_acts_230 rfl ?_
      refine m_V hB msX6_check q601 (s_check _ G b C S u 0 N hI (by omega) (by omega) (by omega)) (t := 0) (by decide) (by decide) rfl rfl rfl rfl rfl ⟨Nat.le_of_ble_eq_true rfl, Nat.le_of_ble_eq_true rfl⟩ (Nat.le_of_ble_eq_true rfl) ⟨rfl, rfl⟩ ⟨Nat.le_of_ble_eq_true rfl, Nat.le_of_ble_eq_true rfl⟩ dL_acts_232 (k_WI (fun v_232 C_232 h_232 => ?_))
      obtain ⟨⟨hI_232, h3_232, h4_232⟩, hcs_232⟩ := id h_232
      refine y_istore (lv' := [(11, .int (iI (v_232))), (10, .int (iI (v_223))), (9, .int (iI (0))), (6, .int (iI (v_36))), (5, .int (iI (v_29))), (4, .int (iI (v_21))), (3, .int (iI (t))), (2, .int (iI (u))), (0, .ref (ad b (0))), (1, .int (iI (c)))]) hB dL_acts_235 (by decide) rfl ?_
      refine y_iload hB 4 dL_acts_237 rfl ?_
      refine y_if_ne hB 256 dL_acts_239 (by decide) (by omega) (fun c_239 => ?_) (fun c_239 => ?_)
      · refine y_iload hB 5 dL_acts_256 rfl ?_
        refine y_iconst (v := 3) hB dL_acts_258 rfl ?_
        refine y_icmp_ne hB 277 dL_acts_259 (by decide) (by omega) (by omega) (fun c_259 => ?_) (fun c_259 => ?_)
        · refine y_iload hB 3 dL_acts_277 rfl ?_
          refine y_if_ne hB 297 dL_acts_279 (by decide) (by omega) (fun c_279 => ?_) (fun c_279 => ?_)
          · refine y_iload hB 1 dL_acts_297 rfl ?_
            refine y_aload_n hB 8 dL_acts_299 rfl rfl ?_
            refine y_iconst (v := 0) hB dL_acts_300 rfl ?_
            refine m_V hB msX6_count q462 (sc_0 _ G b C_232 C_232 S N (Sc.rf C_232) hI_232 (by omega)) (t := 0) (by decide) (by decide) rfl rfl rfl rfl rfl ⟨Nat.le_of_ble_eq_true rfl, Nat.le_of_ble_eq_true rfl⟩ (Nat.le_of_ble_eq_true rfl) ⟨rfl, rfl⟩ ⟨Nat.le_of_ble_eq_true rfl, Nat.le_of_ble_eq_true rfl⟩ dL_acts_301 (k_RI (fun v_301 h_301 => ?_))
            have hb_301 := bc_0 hI_232
            refine y_icmp_ne hB 322 dL_acts_304 (by decide) (by omega) (by omega) (fun c_304 => ?_) (fun c_304 => ?_)
            · refine y_iload hB 0 dL_acts_322 rfl ?_
              refine y_iload hB 3 dL_acts_324 rfl ?_
              refine y_iconst (v := 1) hB dL_acts_326 rfl ?_
              refine y_isub (t := v_36 - 1) hB dL_acts_327 (by omega) ?_
              refine y_icmp_ne hB 351 dL_acts_328 (by decide) (by omega) (by omega) (fun c_328 => ?_) (fun c_328 => ?_)
              · refine y_iconst (v := 0) hB dL_acts_351 rfl ?_
                exact m_wi hB hE dL_acts_352 rfl (⟨by omega, hI_232.up (by omega), by omega⟩)
              · refine y_aload_n hB 8 dL_acts_331 rfl rfl ?_
                refine y_iload_n hB 7 dL_acts_332 rfl rfl ?_
                refine y_iload hB 2 dL_acts_333 rfl ?_
                refine y_iconst (v := 2) hB dL_acts_335 rfl ?_
                refine m_V hB msX6_fact q502 (sf_2 _ G b C_232 C_232 S u 0 N (Sc.rf C_232) hI_232 (by omega) (by omega) (by omega)) (t := 0) (by decide) (by decide) rfl rfl rfl rfl rfl ⟨Nat.le_of_ble_eq_true rfl, Nat.le_of_ble_eq_true rfl⟩ (Nat.le_of_ble_eq_true rfl) ⟨rfl, rfl⟩ ⟨Nat.le_of_ble_eq_true rfl, Nat.le_of_ble_eq_true rfl⟩ dL_acts_336 (k_RI (fun v_336 h_336 => ?_))
                have hb_336 := bf_2 hI_232 (u := u) (t := 0) (by omega) (by omega)
                refine y_aload_n hB 8 dL_acts_339 rfl rfl ?_
                refine y_iconst (v := 0) hB dL_acts_340 rfl ?_
                refine m_V hB msX6_count q462 (sc_0 _ G b C_232 C_232 S N (Sc.rf C_232) hI_232 (by omega)) (t := 0) (by decide) (by decide) rfl rfl rfl rfl rfl ⟨Nat.le_of_ble_eq_true rfl, Nat.le_of_ble_eq_true rfl⟩ (Nat.le_of_ble_eq_true rfl) ⟨rfl, rfl⟩ ⟨Nat.le_of_ble_eq_true rfl, Nat.le_of_ble_eq_true rfl⟩ dL_acts_341 (k_RI (fun v_341 h_341 => ?_))
                have hb_341 := bc_0 hI_232
                refine y_icmp_ne hB 351 dL_acts_344 (by decide) (by omega) (by omega) (fun c_344 => ?_) (fun c_344 => ?_)
                · refine y_iconst (v := 0) hB dL_acts_351 rfl ?_
                  exact m_wi hB hE dL_acts_352 rfl (⟨by omega, hI_232.up (by omega), by omega⟩)
                · refine y_iconst (v := 1) hB dL_acts_347 rfl ?_
                  refine y_goto hB 352 dL_acts_348 (by decide) ?_
                  exact m_wi hB hE dL_acts_352 rfl (⟨by omega, hI_232.up (by omega), by omega⟩)
            · refine y_iload hB 0 dL_acts_307 rfl ?_
              refine y_bipush (v := -5) hB dL_acts_309 (by decide) ?_
              refine y_icmp_ne hB 318 dL_acts_311 (by decide) (by omega) (by omega) (fun c_311 => ?_) (fun c_311 => ?_)
              · refine y_iconst (v := 0) hB dL_acts_318 rfl ?_
                refine y_goto hB 352 dL_acts_319 (by decide) ?_
                exact m_wi hB hE dL_acts_352 rfl (⟨by omega, hI_232.up (by omega), by omega⟩)
              · refine y_iconst (v := 1) hB dL_acts_314 rfl ?_
                refine y_goto hB 352 dL_acts_315 (by decide) ?_
                exact m_wi hB hE dL_acts_352 rfl (⟨by omega, hI_232.up (by omega), by omega⟩)
          · refine y_iload hB 0 dL_acts_282 rfl ?_
            refine y_bipush (v := -3) hB dL_acts_284 (by decide) ?_
            refine y_icmp_ne hB 293 dL_acts_286 (by decide) (by omega) (by omega) (fun c_286 => ?_) (fun c_286 => ?_)
            · refine y_iconst (v := 0) hB dL_acts_293 rfl ?_
              refine y_goto hB 352 dL_acts_294 (by decide) ?_
              exact m_wi hB hE dL_acts_352 rfl (⟨by omega, hI_232.up (by omega), by omega⟩)
            · refine y_iconst (v := 1) hB dL_acts_289 rfl ?_
              refine y_goto hB 352 dL_acts_290 (by decide) ?_
              exact m_wi hB hE dL_acts_352 rfl (⟨by omega, hI_232.up (by omega), by omega⟩)
        · refine y_iload hB 0 dL_acts_262 rfl ?_
          refine y_bipush (v := -4) hB dL_acts_264 (by decide) ?_
          refine y_icmp_ne hB 273 dL_acts_266 (by decide) (by omega) (by omega) (fun c_266 => ?_) (fun c_266 => ?_)
          · refine y_iconst (v := 0) hB dL_acts_273 rfl ?_
            refine y_goto hB 352 dL_acts_274 (by decide) ?_
            exact m_wi hB hE dL_acts_352 rfl (⟨by omega, hI_232.up (by omega), by omega⟩)
          · refine y_iconst (v := 1) hB dL_acts_269 rfl ?_
            refine y_goto hB 352 dL_acts_270 (by decide) ?_
            exact m_wi hB hE dL_acts_352 rfl (⟨by omega, hI_232.up (by omega), by omega⟩)
      · refine y_iload hB 0 dL_acts_242 rfl ?_
        refine y_iconst (v := -1) hB dL_acts_244 rfl ?_
        refine y_icmp_ne hB 252 dL_acts_245 (by decide) (by omega) (by omega) (fun c_245 => ?_) (fun c_245 => ?_)
        · refine y_iconst (v := 0) hB dL_acts_252 rfl ?_
          refine y_goto hB 352 dL_acts_253 (by decide) ?_
          exact m_wi hB hE dL_acts_352 rfl (⟨by omega, hI_232.up (by omega), by omega⟩)
        · refine y_iconst (v := 1) hB dL_acts_248 rfl ?_
          refine y_goto hB 352 dL_acts_249 (by decide) ?_
          exact m_wi hB hE dL_acts_352 rfl (⟨by omega, hI_232.up (by omega), by omega⟩)
  · refine y_tableIn hB 353 dL_acts_45 (by omega) (by omega) (by rw [hsw_45]; rfl) (by decide) ?_
    refine y_aload_n hB 5 dL_acts_353 rfl rfl ?_
    refine y_iload_n hB 4 dL_acts_354 rfl rfl ?_
    refine y_iload_n hB 3 dL_acts_355 rfl rfl ?_
    refine m_S hB msL_tells q605 (tL_tells _ G b C S u t N hI (by omega) (by omega) (by omega)) rfl rfl ⟨Nat.le_of_ble_eq_true rfl, Nat.le_of_ble_eq_true rfl⟩ (Nat.le_of_ble_eq_true rfl) ⟨rfl, rfl⟩ ⟨Nat.le_of_ble_eq_true rfl, Nat.le_of_ble_eq_true rfl⟩ dL_acts_356 (k_WI (fun v_356 C_356 h_356 => ?_))
    obtain ⟨hv_356, hI_356, h3_356⟩ := id h_356
    exact m_wi hB hE dL_acts_359 (by rw [hv_356]; rfl) (⟨by omega, hI_356.up (by omega), by omega⟩)
  · refine y_tableIn hB 360 dL_acts_45 (by omega) (by omega) (by rw [hsw_45]; rfl) (by decide) ?_
    refine y_aload_n hB 5 dL_acts_360 rfl rfl ?_
    refine y_iconst (v := 4) hB dL_acts_361 rfl ?_
    refine m_V hB msX6_count q462 (sc_4 _ G b C C S N (Sc.rf C) hI (by omega)) (t := 0) (by decide) (by decide) rfl rfl rfl rfl rfl ⟨Nat.le_of_ble_eq_true rfl, Nat.le_of_ble_eq_true rfl⟩ (Nat.le_of_ble_eq_true rfl) ⟨rfl, rfl⟩ ⟨Nat.le_of_ble_eq_true rfl, Nat.le_of_ble_eq_true rfl⟩ dL_acts_362 (k_RI (fun v_362 h_362 => ?_))
    have hb_362 := bc_4 hI
    refine y_istore (lv' := [(12, .int (iI (v_362))), (6, .int (iI (v_36))), (5, .int (iI (v_29))), (4, .int (iI (v_21))), (3, .int (iI (t))), (2, .int (iI (u))), (0, .ref (ad b (0))), (1, .int (iI (c)))]) hB dL_acts_365 (by decide) rfl ?_
    refine y_iload_n hB 7 dL_acts_367 rfl rfl ?_
    refine y_bipush (v := 12) hB dL_acts_368 (by decide) ?_
    refine y_ishrR hB dL_acts_370 ?_
    rw [show (iI (c)) >>> ((iI (12)) &&& 31) = iI (c / 4096) from shr_12 hc]
    refine y_iconst (v := 4) hB dL_acts_371 rfl ?_
    refine y_irem hB dL_acts_372 (by omega) (by omega) ?_
    refine y_if_le hB 380 dL_acts_373 (by decide) (by omega) (fun c_373 => ?_) (fun c_373 => ?_)
    · refine y_iconst (v := 0) hB dL_acts_380 rfl ?_
      refine y_istore (lv' := [(13, .int (iI (0))), (12, .int (iI (v_362))), (6, .int (iI (v_36))), (5, .int (iI (v_29))), (4, .int (iI (v_21))), (3, .int (iI (t))), (2, .int (iI (u))), (0, .ref (ad b (0))), (1, .int (iI (c)))]) hB dL_acts_381 (by decide) rfl ?_
      refine y_aload_n hB 7 dL_acts_383 rfl rfl ?_
      refine y_iload_n hB 6 dL_acts_384 rfl rfl ?_
      refine y_iload hB 0 dL_acts_385 rfl ?_
      refine m_V hB msX6_decide q624 (s_decide _ G b C S u 0 N hI (by omega) (by omega) (by omega)) (t := 0) (by decide) (by decide) rfl rfl rfl rfl rfl ⟨Nat.le_of_ble_eq_true rfl, Nat.le_of_ble_eq_true rfl⟩ (Nat.le_of_ble_eq_true rfl) ⟨rfl, rfl⟩ ⟨Nat.le_of_ble_eq_true rfl, Nat.le_of_ble_eq_true rfl⟩ dL_acts_387 (k_WI (fun v_387 C_387 h_387 => ?_))
      obtain ⟨⟨hI_387, h3_387, h4_387⟩, hcs_387⟩ := id h_387
      refine y_istore (lv' := [(14, .int (iI (v_387))), (13, .int (iI (0))), (12, .int (iI (v_362))), (6, .int (iI (v_36))), (5, .int (iI (v_29))), (4, .int (iI (v_21))), (3, .int (iI (t))), (2, .int (iI (u))), (0, .ref (ad b (0))), (1, .int (iI (c)))]) hB dL_acts_390 (by decide) rfl ?_
      refine y_iload hB 5 dL_acts_392 rfl ?_
      refine y_iconst (v := 1) hB dL_acts_394 rfl ?_
      refine y_icmp_eq hB 413 dL_acts_395 (by decide) (by omega) (by omega) (fun c_395 => ?_) (fun c_395 => ?_)
      · refine y_iload hB 0 dL_acts_413 rfl ?_
        refine y_iload hB 2 dL_acts_415 rfl ?_
        refine y_iconst (v := 1) hB dL_acts_417 rfl ?_
        refine y_isub (t := v_362 - 1) hB dL_acts_418 (by omega) ?_
        refine y_icmp_ne hB 445 dL_acts_419 (by decide) (by omega) (by omega) (fun c_419 => ?_) (fun c_419 => ?_)
        · refine y_iconst (v := 0) hB dL_acts_445 rfl ?_
          exact m_wi hB hE dL_acts_446 rfl (⟨by omega, hI_387.up (by omega), by omega⟩)
        · refine y_aload_n hB 8 dL_acts_422 rfl rfl ?_
          refine y_iload_n hB 7 dL_acts_423 rfl rfl ?_
          refine y_iconst (v := 2) hB dL_acts_424 rfl ?_
          refine m_V hB msX6_person q364 (sp_2 _ G b C_387 C_387 S u N (Sc.rf C_387) hI_387 (by omega) (by omega)) (t := 0) (by decide) (by decide) rfl rfl rfl rfl rfl ⟨Nat.le_of_ble_eq_true rfl, Nat.le_of_ble_eq_true rfl⟩ (Nat.le_of_ble_eq_true rfl) ⟨rfl, rfl⟩ ⟨Nat.le_of_ble_eq_true rfl, Nat.le_of_ble_eq_true rfl⟩ dL_acts_425 (k_RI (fun v_425 h_425 => ?_))
          have hb_425 := bp_2 hI_387 (u := u) (by omega)
          refine y_iload hB 1 dL_acts_428 rfl ?_
          refine y_if_eq hB 437 dL_acts_430 (by decide) (by omega) (fun c_430 => ?_) (fun c_430 => ?_)
          · refine y_iconst (v := 0) hB dL_acts_437 rfl ?_
            refine y_icmp_ne hB 445 dL_acts_438 (by decide) (by omega) (by omega) (fun c_438 => ?_) (fun c_438 => ?_)
            · refine y_iconst (v := 0) hB dL_acts_445 rfl ?_
              exact m_wi hB hE dL_acts_446 rfl (⟨by omega, hI_387.up (by omega), by omega⟩)
            · refine y_iconst (v := 1) hB dL_acts_441 rfl ?_
              refine y_goto hB 446 dL_acts_442 (by decide) ?_
              exact m_wi hB hE dL_acts_446 rfl (⟨by omega, hI_387.up (by omega), by omega⟩)
          · exfalso
            omega
      · refine y_iload hB 0 dL_acts_398 rfl ?_
        refine y_bipush (v := -4) hB dL_acts_400 (by decide) ?_
        refine y_icmp_ne hB 409 dL_acts_402 (by decide) (by omega) (by omega) (fun c_402 => ?_) (fun c_402 => ?_)
        · refine y_iconst (v := 0) hB dL_acts_409 rfl ?_
          refine y_goto hB 446 dL_acts_410 (by decide) ?_
          exact m_wi hB hE dL_acts_446 rfl (⟨by omega, hI_387.up (by omega), by omega⟩)
        · refine y_iconst (v := 1) hB dL_acts_405 rfl ?_
          refine y_goto hB 446 dL_acts_406 (by decide) ?_
          exact m_wi hB hE dL_acts_446 rfl (⟨by omega, hI_387.up (by omega), by omega⟩)
    · refine y_iconst (v := 1) hB dL_acts_376 rfl ?_
      refine y_goto hB 381 dL_acts_377 (by decide) ?_
      refine y_istore (lv' := [(13, .int (iI (1))), (12, .int (iI (v_362))), (6, .int (iI (v_36))), (5, .int (iI (v_29))), (4, .int (iI (v_21))), (3, .int (iI (t))), (2, .int (iI (u))), (0, .ref (ad b (0))), (1, .int (iI (c)))]) hB dL_acts_381 (by decide) rfl ?_
      refine y_aload_n hB 7 dL_acts_383 rfl rfl ?_
      refine y_iload_n hB 6 dL_acts_384 rfl rfl ?_
      refine y_iload hB 0 dL_acts_385 rfl ?_
      refine m_V hB msX6_decide q624 (s_decide _ G b C S u 1 N hI (by omega) (by omega) (by omega)) (t := 0) (by decide) (by decide) rfl rfl rfl rfl rfl ⟨Nat.le_of_ble_eq_true rfl, Nat.le_of_ble_eq_true rfl⟩ (Nat.le_of_ble_eq_true rfl) ⟨rfl, rfl⟩ ⟨Nat.le_of_ble_eq_true rfl, Nat.le_of_ble_eq_true rfl⟩ dL_acts_387 (k_WI (fun v_387 C_387 h_387 => ?_))
      obtain ⟨⟨hI_387, h3_387, h4_387⟩, hcs_387⟩ := id h_387
      refine y_istore (lv' := [(14, .int (iI (v_387))), (13, .int (iI (1))), (12, .int (iI (v_362))), (6, .int (iI (v_36))), (5, .int (iI (v_29))), (4, .int (iI (v_21))), (3, .int (iI (t))), (2, .int (iI (u))), (0, .ref (ad b (0))), (1, .int (iI (c)))]) hB dL_acts_390 (by decide) rfl ?_
      refine y_iload hB 5 dL_acts_392 rfl ?_
      refine y_iconst (v := 1) hB dL_acts_394 rfl ?_
      refine y_icmp_eq hB 413 dL_acts_395 (by decide) (by omega) (by omega) (fun c_395 => ?_) (fun c_395 => ?_)
      · refine y_iload hB 0 dL_acts_413 rfl ?_
        refine y_iload hB 2 dL_acts_415 rfl ?_
        refine y_iconst (v := 1) hB dL_acts_417 rfl ?_
        refine y_isub (t := v_362 - 1) hB dL_acts_418 (by omega) ?_
        refine y_icmp_ne hB 445 dL_acts_419 (by decide) (by omega) (by omega) (fun c_419 => ?_) (fun c_419 => ?_)
        · refine y_iconst (v := 0) hB dL_acts_445 rfl ?_
          exact m_wi hB hE dL_acts_446 rfl (⟨by omega, hI_387.up (by omega), by omega⟩)
        · refine y_aload_n hB 8 dL_acts_422 rfl rfl ?_
          refine y_iload_n hB 7 dL_acts_423 rfl rfl ?_
          refine y_iconst (v := 2) hB dL_acts_424 rfl ?_
          refine m_V hB msX6_person q364 (sp_2 _ G b C_387 C_387 S u N (Sc.rf C_387) hI_387 (by omega) (by omega)) (t := 0) (by decide) (by decide) rfl rfl rfl rfl rfl ⟨Nat.le_of_ble_eq_true rfl, Nat.le_of_ble_eq_true rfl⟩ (Nat.le_of_ble_eq_true rfl) ⟨rfl, rfl⟩ ⟨Nat.le_of_ble_eq_true rfl, Nat.le_of_ble_eq_true rfl⟩ dL_acts_425 (k_RI (fun v_425 h_425 => ?_))
          have hb_425 := bp_2 hI_387 (u := u) (by omega)
          refine y_iload hB 1 dL_acts_428 rfl ?_
          refine y_if_eq hB 437 dL_acts_430 (by decide) (by omega) (fun c_430 => ?_) (fun c_430 => ?_)
          · exfalso
            omega
          · refine y_iconst (v := 2) hB dL_acts_433 rfl ?_
            refine y_goto hB 438 dL_acts_434 (by decide) ?_
            refine y_icmp_ne hB 445 dL_acts_438 (by decide) (by omega) (by omega) (fun c_438 => ?_) (fun c_438 => ?_)
            · refine y_iconst (v := 0) hB dL_acts_445 rfl ?_
              exact m_wi hB hE dL_acts_446 rfl (⟨by omega, hI_387.up (by omega), by omega⟩)
            · refine y_iconst (v := 1) hB dL_acts_441 rfl ?_
              refine y_goto hB 446 dL_acts_442 (by decide) ?_
              exact m_wi hB hE dL_acts_446 rfl (⟨by omega, hI_387.up (by omega), by omega⟩)
      · refine y_iload hB 0 dL_acts_398 rfl ?_
        refine y_bipush (v := -4) hB dL_acts_400 (by decide) ?_
        refine y_icmp_ne hB 409 dL_acts_402 (by decide) (by omega) (by omega) (fun c_402 => ?_) (fun c_402 => ?_)
        · refine y_iconst (v := 0) hB dL_acts_409 rfl ?_
          refine y_goto hB 446 dL_acts_410 (by decide) ?_
          exact m_wi hB hE dL_acts_446 rfl (⟨by omega, hI_387.up (by omega), by omega⟩)
        · refine y_iconst (v := 1) hB dL_acts_405 rfl ?_
          refine y_goto hB 446 dL_acts_406 (by decide) ?_
          exact m_wi hB hE dL_acts_446 rfl (⟨by omega, hI_387.up (by omega), by omega⟩)
  · refine y_tableIn hB 447 dL_acts_45 (by omega) (by omega) (by rw [hsw_45]; rfl) (by decide) ?_
    refine y_aload_n hB 5 dL_acts_447 rfl rfl ?_
    refine m_S hB msL_passes q560 (tL_passes _ G b C S N hI (by omega)) rfl rfl ⟨Nat.le_of_ble_eq_true rfl, Nat.le_of_ble_eq_true rfl⟩ (Nat.le_of_ble_eq_true rfl) ⟨rfl, rfl⟩ ⟨Nat.le_of_ble_eq_true rfl, Nat.le_of_ble_eq_true rfl⟩ dL_acts_448 (k_WI (fun v_448 C_448 h_448 => ?_))
    obtain ⟨hv_448, hI_448, h3_448, ha_448⟩ := id h_448
    refine y_if_eq hB 495 dL_acts_451 (by decide) (by omega) (fun c_451 => ?_) (fun c_451 => ?_)
    · refine y_iconst (v := 0) hB dL_acts_495 rfl ?_
      exact m_wi hB hE dL_acts_496 rfl (⟨by omega, hI_448.up (by omega), by omega⟩)
    · refine y_aload_n hB 5 dL_acts_454 rfl rfl ?_
      refine m_S hB msL_passes q560 (tL_passes _ G b C_448 S ((N + 1)) hI_448 (by omega)) rfl rfl ⟨Nat.le_of_ble_eq_true rfl, Nat.le_of_ble_eq_true rfl⟩ (Nat.le_of_ble_eq_true rfl) ⟨rfl, rfl⟩ ⟨Nat.le_of_ble_eq_true rfl, Nat.le_of_ble_eq_true rfl⟩ dL_acts_455 (k_WI (fun v_455 C_455 h_455 => ?_))
      obtain ⟨hv_455, hI_455, h3_455, ha_455⟩ := id h_455
      refine y_if_eq hB 495 dL_acts_458 (by decide) (by omega) (fun c_458 => ?_) (fun c_458 => ?_)
      · refine y_iconst (v := 0) hB dL_acts_495 rfl ?_
        exact m_wi hB hE dL_acts_496 rfl (⟨by omega, hI_455.up (by omega), by omega⟩)
      · refine y_iload_n hB 6 dL_acts_461 rfl rfl ?_
        refine y_bipush (v := 12) hB dL_acts_462 (by decide) ?_
        refine y_ishrR hB dL_acts_464 ?_
        rw [show (iI (c)) >>> ((iI (12)) &&& 31) = iI (c / 4096) from shr_12 hc]
        refine y_iconst (v := 3) hB dL_acts_465 rfl ?_
        refine y_irem hB dL_acts_466 (by omega) (by omega) ?_
        refine y_if_gt hB 491 dL_acts_467 (by decide) (by omega) (fun c_467 => ?_) (fun c_467 => ?_)
        · refine y_iconst (v := 1) hB dL_acts_491 rfl ?_
          refine y_goto hB 496 dL_acts_492 (by decide) ?_
          exact m_wi hB hE dL_acts_496 rfl (⟨by omega, hI_455.up (by omega), by omega⟩)
        · refine y_aload_n hB 5 dL_acts_470 rfl rfl ?_
          refine m_S hB msL_passes q560 (tL_passes _ G b C_455 S ((N + 1 + 1)) hI_455 (by omega)) rfl rfl ⟨Nat.le_of_ble_eq_true rfl, Nat.le_of_ble_eq_true rfl⟩ (Nat.le_of_ble_eq_true rfl) ⟨rfl, rfl⟩ ⟨Nat.le_of_ble_eq_true rfl, Nat.le_of_ble_eq_true rfl⟩ dL_acts_471 (k_WI (fun v_471 C_471 h_471 => ?_))
          obtain ⟨hv_471, hI_471, h3_471, ha_471⟩ := id h_471
          refine y_if_eq hB 495 dL_acts_474 (by decide) (by omega) (fun c_474 => ?_) (fun c_474 => ?_)
          · refine y_iconst (v := 0) hB dL_acts_495 rfl ?_
            exact m_wi hB hE dL_acts_496 rfl (⟨by omega, hI_471.up (by omega), by omega⟩)
          · refine y_aload_n hB 5 dL_acts_477 rfl rfl ?_
            refine m_S hB msL_passes q560 (tL_passes _ G b C_471 S ((N + 1 + 1 + 1)) hI_471 (by omega)) rfl rfl ⟨Nat.le_of_ble_eq_true rfl, Nat.le_of_ble_eq_true rfl⟩ (Nat.le_of_ble_eq_true rfl) ⟨rfl, rfl⟩ ⟨Nat.le_of_ble_eq_true rfl, Nat.le_of_ble_eq_true rfl⟩ dL_acts_478 (k_WI (fun v_478 C_478 h_478 => ?_))
            obtain ⟨hv_478, hI_478, h3_478, ha_478⟩ := id h_478
            refine y_if_eq hB 495 dL_acts_481 (by decide) (by omega) (fun c_481 => ?_) (fun c_481 => ?_)
            · refine y_iconst (v := 0) hB dL_acts_495 rfl ?_
              exact m_wi hB hE dL_acts_496 rfl (⟨by omega, hI_478.up (by omega), by omega⟩)
            · refine y_aload_n hB 5 dL_acts_484 rfl rfl ?_
              refine m_S hB msL_passes q560 (tL_passes _ G b C_478 S ((N + 1 + 1 + 1 + 1)) hI_478 (by omega)) rfl rfl ⟨Nat.le_of_ble_eq_true rfl, Nat.le_of_ble_eq_true rfl⟩ (Nat.le_of_ble_eq_true rfl) ⟨rfl, rfl⟩ ⟨Nat.le_of_ble_eq_true rfl, Nat.le_of_ble_eq_true rfl⟩ dL_acts_485 (k_WI (fun v_485 C_485 h_485 => ?_))
              obtain ⟨hv_485, hI_485, h3_485, ha_485⟩ := id h_485
              refine y_if_eq hB 495 dL_acts_488 (by decide) (by omega) (fun c_488 => ?_) (fun c_488 => ?_)
              · refine y_iconst (v := 0) hB dL_acts_495 rfl ?_
                exact m_wi hB hE dL_acts_496 rfl (⟨by omega, hI_485.up (by omega), by omega⟩)
              · refine y_iconst (v := 1) hB dL_acts_491 rfl ?_
                refine y_goto hB 496 dL_acts_492 (by decide) ?_
                exact m_wi hB hE dL_acts_496 rfl (⟨by omega, hI_485.up (by omega), by omega⟩)
  · refine y_tableIn hB 497 dL_acts_45 (by omega) (by omega) (by rw [hsw_45]; rfl) (by decide) ?_
    refine y_aload_n hB 5 dL_acts_497 rfl rfl ?_
    refine y_bipush (v := 8) hB dL_acts_498 (by decide) ?_
    refine m_V hB msX6_count q462 (sc_8 _ G b C C S N (Sc.rf C) hI (by omega)) (t := 0) (by decide) (by decide) rfl rfl rfl rfl rfl ⟨Nat.le_of_ble_eq_true rfl, Nat.le_of_ble_eq_true rfl⟩ (Nat.le_of_ble_eq_true rfl) ⟨rfl, rfl⟩ ⟨Nat.le_of_ble_eq_true rfl, Nat.le_of_ble_eq_true rfl⟩ dL_acts_500 (k_RI (fun v_500 h_500 => ?_))
    have hb_500 := bc_8 hI
    refine y_istore (lv' := [(15, .int (iI (v_500))), (6, .int (iI (v_36))), (5, .int (iI (v_29))), (4, .int (iI (v_21))), (3, .int (iI (t))), (2, .int (iI (u))), (0, .ref (ad b (0))), (1, .int (iI (c)))]) hB dL_acts_503 (by decide) rfl ?_
    refine y_aload_n hB 6 dL_acts_505 rfl rfl ?_
    refine m_V hB msX6_checkUrgent q236 (s_chk _ G b C S  N hI (by omega) ) (t := 0) (by decide) (by decide) rfl rfl rfl rfl rfl ⟨Nat.le_of_ble_eq_true rfl, Nat.le_of_ble_eq_true rfl⟩ (Nat.le_of_ble_eq_true rfl) ⟨rfl, rfl⟩ ⟨Nat.le_of_ble_eq_true rfl, Nat.le_of_ble_eq_true rfl⟩ dL_acts_506 (k_WI (fun v_506 C_506 h_506 => ?_))
    obtain ⟨⟨hI_506, h3_506, h4_506⟩, hcs_506, hc1_506, hc2_506⟩ := id h_506
    have hk_506 : v_506 = -5 → C_506 1 5 = C 1 5 ∧ stA C_506 (C_506 1 4) = stA C (C 1 4) := fun z => by
      rcases hcs_506 with g | g
      · rw [g.2]; exact ⟨rfl, rfl⟩
      · omega
    refine y_istore (lv' := [(16, .int (iI (v_506))), (15, .int (iI (v_500))), (6, .int (iI (v_36))), (5, .int (iI (v_29))), (4, .int (iI (v_21))), (3, .int (iI (t))), (2, .int (iI (u))), (0, .ref (ad b (0))), (1, .int (iI (c)))]) hB dL_acts_509 (by decide) rfl ?_
    refine y_iload hB 0 dL_acts_511 rfl ?_
    refine y_bipush (v := -5) hB dL_acts_513 (by decide) ?_
    refine y_icmp_ne hB 547 dL_acts_515 (by decide) (by omega) (by omega) (fun c_515 => ?_) (fun c_515 => ?_)
    · refine y_iload hB 0 dL_acts_547 rfl ?_
      refine y_if_le hB 604 dL_acts_549 (by decide) (by omega) (fun c_549 => ?_) (fun c_549 => ?_)
      · refine y_iconst (v := 0) hB dL_acts_604 rfl ?_
        exact m_wi hB hE dL_acts_605 rfl (⟨by omega, hI_506.up (by omega), by omega⟩)
      · refine y_iload hB 0 dL_acts_552 rfl ?_
        refine y_iload hB 2 dL_acts_554 rfl ?_
        refine y_icmp_gt hB 604 dL_acts_556 (by decide) (by omega) (by omega) (fun c_556 => ?_) (fun c_556 => ?_)
        · refine y_iconst (v := 0) hB dL_acts_604 rfl ?_
          exact m_wi hB hE dL_acts_605 rfl (⟨by omega, hI_506.up (by omega), by omega⟩)
        · refine y_aload_n hB 7 dL_acts_559 rfl rfl ?_
          refine y_iconst (v := 2) hB dL_acts_560 rfl ?_
          refine m_V hB msX6_count q462 (sc_2 _ G b C_506 C_506 S N (Sc.rf C_506) hI_506 (by omega)) (t := 0) (by decide) (by decide) rfl rfl rfl rfl rfl ⟨Nat.le_of_ble_eq_true rfl, Nat.le_of_ble_eq_true rfl⟩ (Nat.le_of_ble_eq_true rfl) ⟨rfl, rfl⟩ ⟨Nat.le_of_ble_eq_true rfl, Nat.le_of_ble_eq_true rfl⟩ dL_acts_561 (k_RI (fun v_561 h_561 => ?_))
          have hb_561 := bc_2 hI_506
          refine y_iload hB 2 dL_acts_564 rfl ?_
          refine y_iload hB 0 dL_acts_566 rfl ?_
          refine y_isub (t := v_36 - v_506) hB dL_acts_568 (by omega) ?_
          refine y_icmp_ne hB 604 dL_acts_569 (by decide) (by omega) (by omega) (fun c_569 => ?_) (fun c_569 => ?_)
          · refine y_iconst (v := 0) hB dL_acts_604 rfl ?_
            exact m_wi hB hE dL_acts_605 rfl (⟨by omega, hI_506.up (by omega), by omega⟩)
          · refine y_aload_n hB 7 dL_acts_572 rfl rfl ?_
            refine y_bipush (v := 8) hB dL_acts_573 (by decide) ?_
            refine m_V hB msX6_count q462 (sc_8 _ G b C_506 C_506 S N (Sc.rf C_506) hI_506 (by omega)) (t := 0) (by decide) (by decide) rfl rfl rfl rfl rfl ⟨Nat.le_of_ble_eq_true rfl, Nat.le_of_ble_eq_true rfl⟩ (Nat.le_of_ble_eq_true rfl) ⟨rfl, rfl⟩ ⟨Nat.le_of_ble_eq_true rfl, Nat.le_of_ble_eq_true rfl⟩ dL_acts_575 (k_RI (fun v_575 h_575 => ?_))
            have hb_575 := bc_8 hI_506
            refine y_iload hB 1 dL_acts_578 rfl ?_
            refine y_icmp_gt hB 604 dL_acts_580 (by decide) (by omega) (by omega) (fun c_580 => ?_) (fun c_580 => ?_)
            · refine y_iconst (v := 0) hB dL_acts_604 rfl ?_
              exact m_wi hB hE dL_acts_605 rfl (⟨by omega, hI_506.up (by omega), by omega⟩)
            · refine y_aload_n hB 7 dL_acts_583 rfl rfl ?_
              refine y_iconst (v := 2) hB dL_acts_584 rfl ?_
              refine m_V hB msX6_count q462 (sc_2 _ G b C_506 C_506 S N (Sc.rf C_506) hI_506 (by omega)) (t := 0) (by decide) (by decide) rfl rfl rfl rfl rfl ⟨Nat.le_of_ble_eq_true rfl, Nat.le_of_ble_eq_true rfl⟩ (Nat.le_of_ble_eq_true rfl) ⟨rfl, rfl⟩ ⟨Nat.le_of_ble_eq_true rfl, Nat.le_of_ble_eq_true rfl⟩ dL_acts_585 (k_RI (fun v_585 h_585 => ?_))
              have hb_585 := bc_2 hI_506
              refine y_if_eq hB 600 dL_acts_588 (by decide) (by omega) (fun c_588 => ?_) (fun c_588 => ?_)
              · refine y_iconst (v := 1) hB dL_acts_600 rfl ?_
                refine y_goto hB 605 dL_acts_601 (by decide) ?_
                exact m_wi hB hE dL_acts_605 rfl (⟨by omega, hI_506.up (by omega), by omega⟩)
              · refine y_aload_n hB 7 dL_acts_591 rfl rfl ?_
                refine m_V hB msX6_checkUrgent q236 (s_chk _ G b C_506 S  N hI_506 (by omega) ) (t := 0) (by decide) (by decide) rfl rfl rfl rfl rfl ⟨Nat.le_of_ble_eq_true rfl, Nat.le_of_ble_eq_true rfl⟩ (Nat.le_of_ble_eq_true rfl) ⟨rfl, rfl⟩ ⟨Nat.le_of_ble_eq_true rfl, Nat.le_of_ble_eq_true rfl⟩ dL_acts_592 (k_WI (fun v_592 C_592 h_592 => ?_))
                obtain ⟨⟨hI_592, h3_592, h4_592⟩, hcs_592, hc1_592, hc2_592⟩ := id h_592
                have hv_592 : v_592 = -5 := hc1_592 (hc2_506 (by omega))
                refine y_bipush (v := -5) hB dL_acts_595 (by decide) ?_
                refine y_icmp_ne hB 604 dL_acts_597 (by decide) (by omega) (by omega) (fun c_597 => ?_) (fun c_597 => ?_)
                · refine y_iconst (v := 0) hB dL_acts_604 rfl ?_
                  exact m_wi hB hE dL_acts_605 rfl (⟨by omega, hI_592.up (by omega), by omega⟩)
                · refine y_iconst (v := 1) hB dL_acts_600 rfl ?_
                  refine y_goto hB 605 dL_acts_601 (by decide) ?_
                  exact m_wi hB hE dL_acts_605 rfl (⟨by omega, hI_592.up (by omega), by omega⟩)
    · refine y_aload_n hB 7 dL_acts_518 rfl rfl ?_
      refine y_iconst (v := 2) hB dL_acts_519 rfl ?_
      refine m_V hB msX6_count q462 (sc_2 _ G b C_506 C_506 S N (Sc.rf C_506) hI_506 (by omega)) (t := 0) (by decide) (by decide) rfl rfl rfl rfl rfl ⟨Nat.le_of_ble_eq_true rfl, Nat.le_of_ble_eq_true rfl⟩ (Nat.le_of_ble_eq_true rfl) ⟨rfl, rfl⟩ ⟨Nat.le_of_ble_eq_true rfl, Nat.le_of_ble_eq_true rfl⟩ dL_acts_520 (k_RI (fun v_520 h_520 => ?_))
      have hb_520 := bc_2 hI_506
      refine y_iload hB 2 dL_acts_523 rfl ?_
      refine y_icmp_ne hB 543 dL_acts_525 (by decide) (by omega) (by omega) (fun c_525 => ?_) (fun c_525 => ?_)
      · refine y_iconst (v := 0) hB dL_acts_543 rfl ?_
        refine y_goto hB 605 dL_acts_544 (by decide) ?_
        exact m_wi hB hE dL_acts_605 rfl (⟨by omega, hI_506.up (by omega), by omega⟩)
      · refine y_aload_n hB 7 dL_acts_528 rfl rfl ?_
        refine y_bipush (v := 8) hB dL_acts_529 (by decide) ?_
        refine m_V hB msX6_count q462 (sc_8 _ G b C_506 C_506 S N (Sc.rf C_506) hI_506 (by omega)) (t := 0) (by decide) (by decide) rfl rfl rfl rfl rfl ⟨Nat.le_of_ble_eq_true rfl, Nat.le_of_ble_eq_true rfl⟩ (Nat.le_of_ble_eq_true rfl) ⟨rfl, rfl⟩ ⟨Nat.le_of_ble_eq_true rfl, Nat.le_of_ble_eq_true rfl⟩ dL_acts_531 (k_RI (fun v_531 h_531 => ?_))
        have hb_531 := bc_8 hI_506
        refine y_iload hB 1 dL_acts_534 rfl ?_
        refine y_icmp_ne hB 543 dL_acts_536 (by decide) (by omega) (by omega) (fun c_536 => ?_) (fun c_536 => ?_)
        · refine y_iconst (v := 0) hB dL_acts_543 rfl ?_
          refine y_goto hB 605 dL_acts_544 (by decide) ?_
          exact m_wi hB hE dL_acts_605 rfl (⟨by omega, hI_506.up (by omega), by omega⟩)
        · refine y_iconst (v := 1) hB dL_acts_539 rfl ?_
          refine y_goto hB 605 dL_acts_540 (by decide) ?_
          exact m_wi hB hE dL_acts_605 rfl (⟨by omega, hI_506.up (by omega), by omega⟩)
  · refine y_tableOut hB 606 dL_acts_45 (by omega) hsw_45 (by decide) ?_
    refine y_aload_n hB 5 dL_acts_606 rfl rfl ?_
    refine y_iload_n hB 3 dL_acts_607 rfl rfl ?_
    refine y_iconst (v := 0) hB dL_acts_608 rfl ?_
    refine m_V hB msX6_source q516 (ss_0 _ G b C C S t N (Sc.rf C) hI (by omega) (by omega)) (t := 0) (by decide) (by decide) rfl rfl rfl rfl rfl ⟨Nat.le_of_ble_eq_true rfl, Nat.le_of_ble_eq_true rfl⟩ (Nat.le_of_ble_eq_true rfl) ⟨rfl, rfl⟩ ⟨Nat.le_of_ble_eq_true rfl, Nat.le_of_ble_eq_true rfl⟩ dL_acts_609 (k_RI (fun v_609 h_609 => ?_))
    have hb_609 := bs_0 hI (u := t) (by omega)
    refine y_istore (lv' := [(17, .int (iI (v_609))), (6, .int (iI (v_36))), (5, .int (iI (v_29))), (4, .int (iI (v_21))), (3, .int (iI (t))), (2, .int (iI (u))), (0, .ref (ad b (0))), (1, .int (iI (c)))]) hB dL_acts_612 (by decide) rfl ?_
    refine y_iload_n hB 7 dL_acts_614 rfl rfl ?_
    refine y_bipush (v := 12) hB dL_acts_615 (by decide) ?_
    refine y_ishrR hB dL_acts_617 ?_
    rw [show (iI (c)) >>> ((iI (12)) &&& 31) = iI (c / 4096) from shr_12 hc]
    refine y_bipush (v := 101) hB dL_acts_618 (by decide) ?_
    refine y_irem hB dL_acts_620 (by omega) (by omega) ?_
    obtain ⟨z, hz_e⟩ : ∃ z : Int, (c / 4096) % 101 = z := ⟨_, rfl⟩
    have hz : 0 ≤ z ∧ z ≤ 100 := (by omega)
    rw [hz_e]
    refine y_istore (lv' := [(18, .int (iI (z))), (17, .int (iI (v_609))), (6, .int (iI (v_36))), (5, .int (iI (v_29))), (4, .int (iI (v_21))), (3, .int (iI (t))), (2, .int (iI (u))), (0, .ref (ad b (0))), (1, .int (iI (c)))]) hB dL_acts_621 (by decide) rfl ?_
    refine y_aload_n hB 7 dL_acts_623 rfl rfl ?_
    refine y_iload_n hB 5 dL_acts_624 rfl rfl ?_
    refine y_iload hB 0 dL_acts_625 rfl ?_
    refine m_V hB msX6_trust q629 (s_trust _ G b C S t z N hI (by omega) (by omega) (by omega)) (t := 0) (by decide) (by decide) rfl rfl rfl rfl rfl ⟨Nat.le_of_ble_eq_true rfl, Nat.le_of_ble_eq_true rfl⟩ (Nat.le_of_ble_eq_true rfl) ⟨rfl, rfl⟩ ⟨Nat.le_of_ble_eq_true rfl, Nat.le_of_ble_eq_true rfl⟩ dL_acts_627 (k_WI (fun v_627 C_627 h_627 => ?_))
    obtain ⟨⟨⟨hI_627, h3_627, h4_627⟩, hcs_627⟩, ht_627, ha_627⟩ := id h_627
    have hq_627 : C_627 (4 * u + 5) = C (4 * u + 5) := ha_627 _ (by omega) (by omega)
    have hq2_627 : C_627 (4 * u + 5) 2 = C (4 * u + 5) 2 := by rw [hq_627]
    have hq6_627 : C_627 (4 * u + 5) 6 = C (4 * u + 5) 6 := by rw [hq_627]
    refine y_iload hB 1 dL_acts_630 rfl ?_
    refine y_iload hB 0 dL_acts_632 rfl ?_
    refine y_icmp_ne hB 642 dL_acts_634 (by decide) (by omega) (by omega) (fun c_634 => ?_) (fun c_634 => ?_)
    · refine y_iload hB 1 dL_acts_642 rfl ?_
      refine y_icmp_ne hB 700 dL_acts_644 (by decide) (by omega) (by omega) (fun c_644 => ?_) (fun c_644 => ?_)
      · refine y_iconst (v := 0) hB dL_acts_700 rfl ?_
        exact m_wi hB hE dL_acts_701 rfl (⟨by omega, hI_627.up (by omega), by omega⟩)
      · refine y_aload_n hB 7 dL_acts_647 rfl rfl ?_
        refine y_iload_n hB 5 dL_acts_648 rfl rfl ?_
        refine y_iconst (v := 0) hB dL_acts_649 rfl ?_
        refine m_V hB msX6_source q516 (ss_0 _ G b C_627 C_627 S t N (Sc.rf C_627) hI_627 (by omega) (by omega)) (t := 0) (by decide) (by decide) rfl rfl rfl rfl rfl ⟨Nat.le_of_ble_eq_true rfl, Nat.le_of_ble_eq_true rfl⟩ (Nat.le_of_ble_eq_true rfl) ⟨rfl, rfl⟩ ⟨Nat.le_of_ble_eq_true rfl, Nat.le_of_ble_eq_true rfl⟩ dL_acts_650 (k_RI (fun v_650 h_650 => ?_))
        have hb_650 := bs_0 hI_627 (u := t) (by omega)
        refine y_iload hB 0 dL_acts_653 rfl ?_
        refine y_icmp_ne hB 700 dL_acts_655 (by decide) (by omega) (by omega) (fun c_655 => ?_) (fun c_655 => ?_)
        · refine y_iconst (v := 0) hB dL_acts_700 rfl ?_
          exact m_wi hB hE dL_acts_701 rfl (⟨by omega, hI_627.up (by omega), by omega⟩)
        · refine y_iload hB 3 dL_acts_658 rfl ?_
          refine y_bipush (v := 8) hB dL_acts_660 (by decide) ?_
          refine y_icmp_lt hB 696 dL_acts_662 (by decide) (by omega) (by omega) (fun c_662 => ?_) (fun c_662 => ?_)
          · refine y_iconst (v := 1) hB dL_acts_696 rfl ?_
            refine y_goto hB 701 dL_acts_697 (by decide) ?_
            exact m_wi hB hE dL_acts_701 rfl (⟨by omega, hI_627.up (by omega), by omega⟩)
          · refine y_iload_n hB 8 dL_acts_665 rfl rfl ?_
            refine y_bipush (v := 20) hB dL_acts_666 (by decide) ?_
            refine y_ishrR hB dL_acts_668 ?_
            rw [show (iI (c)) >>> ((iI (20)) &&& 31) = iI (c / 1048576) from shr_20 hc]
            refine y_iconst (v := 2) hB dL_acts_669 rfl ?_
            refine y_irem hB dL_acts_670 (by omega) (by omega) ?_
            refine y_if_eq hB 696 dL_acts_671 (by decide) (by omega) (fun c_671 => ?_) (fun c_671 => ?_)
            · refine y_iconst (v := 1) hB dL_acts_696 rfl ?_
              refine y_goto hB 701 dL_acts_697 (by decide) ?_
              exact m_wi hB hE dL_acts_701 rfl (⟨by omega, hI_627.up (by omega), by omega⟩)
            · refine y_aload_n hB 7 dL_acts_674 rfl rfl ?_
              refine y_iload_n hB 6 dL_acts_675 rfl rfl ?_
              refine y_iconst (v := 0) hB dL_acts_676 rfl ?_
              refine m_V hB msX6_strike q637 (s_strike _ G b C_627 S u 0 N hI_627 (by omega) (by omega) (by omega)) (t := 0) (by decide) (by decide) rfl rfl rfl rfl rfl ⟨Nat.le_of_ble_eq_true rfl, Nat.le_of_ble_eq_true rfl⟩ (Nat.le_of_ble_eq_true rfl) ⟨rfl, rfl⟩ ⟨Nat.le_of_ble_eq_true rfl, Nat.le_of_ble_eq_true rfl⟩ dL_acts_677 (k_WI (fun v_677 C_677 h_677 => ?_))
              obtain ⟨⟨hI_677, h3_677, h4_677⟩, hcs_677⟩ := id h_677
              refine y_iload hB 4 dL_acts_680 rfl ?_
              refine y_iconst (v := 3) hB dL_acts_682 rfl ?_
              refine y_icmp_ne hB 691 dL_acts_683 (by decide) (by omega) (by omega) (fun c_683 => ?_) (fun c_683 => ?_)
              · refine y_bipush (v := 7) hB dL_acts_691 (by decide) ?_
                refine y_icmp_ne hB 700 dL_acts_693 (by decide) (by omega) (by omega) (fun c_693 => ?_) (fun c_693 => ?_)
                · refine y_iconst (v := 0) hB dL_acts_700 rfl ?_
                  exact m_wi hB hE dL_acts_701 rfl (⟨by omega, hI_677.up (by omega), by omega⟩)
                · refine y_iconst (v := 1) hB dL_acts_696 rfl ?_
                  refine y_goto hB 701 dL_acts_697 (by decide) ?_
                  exact m_wi hB hE dL_acts_701 rfl (⟨by omega, hI_677.up (by omega), by omega⟩)
              · refine y_bipush (v := -4) hB dL_acts_686 (by decide) ?_
                refine y_goto hB 693 dL_acts_688 (by decide) ?_
                refine y_icmp_ne hB 700 dL_acts_693 (by decide) (by omega) (by omega) (fun c_693 => ?_) (fun c_693 => ?_)
                · refine y_iconst (v := 0) hB dL_acts_700 rfl ?_
                  exact m_wi hB hE dL_acts_701 rfl (⟨by omega, hI_677.up (by omega), by omega⟩)
                · refine y_iconst (v := 1) hB dL_acts_696 rfl ?_
                  refine y_goto hB 701 dL_acts_697 (by decide) ?_
                  exact m_wi hB hE dL_acts_701 rfl (⟨by omega, hI_677.up (by omega), by omega⟩)
    · refine y_bipush (v := -5) hB dL_acts_637 (by decide) ?_
      refine y_goto hB 644 dL_acts_639 (by decide) ?_
      refine y_icmp_ne hB 700 dL_acts_644 (by decide) (by omega) (by omega) (fun c_644 => ?_) (fun c_644 => ?_)
      · refine y_iconst (v := 0) hB dL_acts_700 rfl ?_
        exact m_wi hB hE dL_acts_701 rfl (⟨by omega, hI_627.up (by omega), by omega⟩)
      · refine y_aload_n hB 7 dL_acts_647 rfl rfl ?_
        refine y_iload_n hB 5 dL_acts_648 rfl rfl ?_
        refine y_iconst (v := 0) hB dL_acts_649 rfl ?_
        refine m_V hB msX6_source q516 (ss_0 _ G b C_627 C_627 S t N (Sc.rf C_627) hI_627 (by omega) (by omega)) (t := 0) (by decide) (by decide) rfl rfl rfl rfl rfl ⟨Nat.le_of_ble_eq_true rfl, Nat.le_of_ble_eq_true rfl⟩ (Nat.le_of_ble_eq_true rfl) ⟨rfl, rfl⟩ ⟨Nat.le_of_ble_eq_true rfl, Nat.le_of_ble_eq_true rfl⟩ dL_acts_650 (k_RI (fun v_650 h_650 => ?_))
        have hb_650 := bs_0 hI_627 (u := t) (by omega)
        refine y_iload hB 0 dL_acts_653 rfl ?_
        refine y_icmp_ne hB 700 dL_acts_655 (by decide) (by omega) (by omega) (fun c_655 => ?_) (fun c_655 => ?_)
        · refine y_iconst (v := 0) hB dL_acts_700 rfl ?_
          exact m_wi hB hE dL_acts_701 rfl (⟨by omega, hI_627.up (by omega), by omega⟩)
        · refine y_iload hB 3 dL_acts_658 rfl ?_
          refine y_bipush (v := 8) hB dL_acts_660 (by decide) ?_
          refine y_icmp_lt hB 696 dL_acts_662 (by decide) (by omega) (by omega) (fun c_662 => ?_) (fun c_662 => ?_)
          · refine y_iconst (v := 1) hB dL_acts_696 rfl ?_
            refine y_goto hB 701 dL_acts_697 (by decide) ?_
            exact m_wi hB hE dL_acts_701 rfl (⟨by omega, hI_627.up (by omega), by omega⟩)
          · refine y_iload_n hB 8 dL_acts_665 rfl rfl ?_
            refine y_bipush (v := 20) hB dL_acts_666 (by decide) ?_
            refine y_ishrR hB dL_acts_668 ?_
            rw [show (iI (c)) >>> ((iI (20)) &&& 31) = iI (c / 1048576) from shr_20 hc]
            refine y_iconst (v := 2) hB dL_acts_669 rfl ?_
            refine y_irem hB dL_acts_670 (by omega) (by omega) ?_
            refine y_if_eq hB 696 dL_acts_671 (by decide) (by omega) (fun c_671 => ?_) (fun c_671 => ?_)
            · refine y_iconst (v := 1) hB dL_acts_696 rfl ?_
              refine y_goto hB 701 dL_acts_697 (by decide) ?_
              exact m_wi hB hE dL_acts_701 rfl (⟨by omega, hI_627.up (by omega), by omega⟩)
            · refine y_aload_n hB 7 dL_acts_674 rfl rfl ?_
              refine y_iload_n hB 6 dL_acts_675 rfl rfl ?_
              refine y_iconst (v := 0) hB dL_acts_676 rfl ?_
              refine m_V hB msX6_strike q637 (s_strike _ G b C_627 S u 0 N hI_627 (by omega) (by omega) (by omega)) (t := 0) (by decide) (by decide) rfl rfl rfl rfl rfl ⟨Nat.le_of_ble_eq_true rfl, Nat.le_of_ble_eq_true rfl⟩ (Nat.le_of_ble_eq_true rfl) ⟨rfl, rfl⟩ ⟨Nat.le_of_ble_eq_true rfl, Nat.le_of_ble_eq_true rfl⟩ dL_acts_677 (k_WI (fun v_677 C_677 h_677 => ?_))
              obtain ⟨⟨hI_677, h3_677, h4_677⟩, hcs_677⟩ := id h_677
              refine y_iload hB 4 dL_acts_680 rfl ?_
              refine y_iconst (v := 3) hB dL_acts_682 rfl ?_
              refine y_icmp_ne hB 691 dL_acts_683 (by decide) (by omega) (by omega) (fun c_683 => ?_) (fun c_683 => ?_)
              · refine y_bipush (v := 7) hB dL_acts_691 (by decide) ?_
                refine y_icmp_ne hB 700 dL_acts_693 (by decide) (by omega) (by omega) (fun c_693 => ?_) (fun c_693 => ?_)
                · refine y_iconst (v := 0) hB dL_acts_700 rfl ?_
                  exact m_wi hB hE dL_acts_701 rfl (⟨by omega, hI_677.up (by omega), by omega⟩)
                · refine y_iconst (v := 1) hB dL_acts_696 rfl ?_
                  refine y_goto hB 701 dL_acts_697 (by decide) ?_
                  exact m_wi hB hE dL_acts_701 rfl (⟨by omega, hI_677.up (by omega), by omega⟩)
              · refine y_bipush (v := -4) hB dL_acts_686 (by decide) ?_
                refine y_goto hB 693 dL_acts_688 (by decide) ?_
                refine y_icmp_ne hB 700 dL_acts_693 (by decide) (by omega) (by omega) (fun c_693 => ?_) (fun c_693 => ?_)
                · refine y_iconst (v := 0) hB dL_acts_700 rfl ?_
                  exact m_wi hB hE dL_acts_701 rfl (⟨by omega, hI_677.up (by omega), by omega⟩)
                · refine y_iconst (v := 1) hB dL_acts_696 rfl ?_
                  refine y_goto hB 701 dL_acts_697 (by decide) ?_
                  exact m_wi hB hE dL_acts_701 rfl (⟨by omega, hI_677.up (by omega), by omega⟩)
