set_option maxHeartbeats 4000000 in
theorem tL_passes (l : Launch) (G : gG) (b : Nat) (C S : gM) (N : Int) (hI : Iv C N) (hN : N ≤ 499) : Ct l G b yL_passes cL_passes 5 (some .boolean) rmL_passes [.ref (ad b (0))] 578 (wM G b C S) (WI G b S (fun v C' => v = 1 ∧ Iv C' (N + 1) ∧ C' 1 3 = C 1 3 ∧ ∀ a : Int, (a = 0 ∨ (85 ≤ a ∧ a < 169)) → C' a = C a)) := by
  refine CtK_of (by decide) (Nat.le_of_ble_eq_true rfl) q562 ?_
  intro x hl hB hE _
  subst hl
  show YM x G b 0 0 C S 0 [(0, .ref (ad b (0)))] []
  have hb3 := bc_1 hI
  refine y_aload_n hB 0 dL_passes_0 rfl rfl ?_
  refine y_iconst (v := 0) hB dL_passes_1 rfl ?_
  refine m_V hB msX6_count q462 (sc_0 _ G b C C S N (Sc.rf C) hI (by omega)) (t := 0) (by decide) (by decide) rfl rfl rfl rfl rfl ⟨Nat.le_of_ble_eq_true rfl, Nat.le_of_ble_eq_true rfl⟩ (Nat.le_of_ble_eq_true rfl) ⟨rfl, rfl⟩ ⟨Nat.le_of_ble_eq_true rfl, Nat.le_of_ble_eq_true rfl⟩ dL_passes_2 (k_RI (fun v_2 h_2 => ?_))
  have hb_2 := bc_0 hI
  refine y_istore_n (lv' := [(1, .int (iI (v_2))), (0, .ref (ad b (0)))]) hB dL_passes_5 rfl (by decide) rfl ?_
  refine y_iconst (v := 0) hB dL_passes_6 rfl ?_
  refine y_istore_n (lv' := [(2, .int (iI (0))), (1, .int (iI (v_2))), (0, .ref (ad b (0)))]) hB dL_passes_7 rfl (by decide) rfl ?_
  refine y_aload_n hB 2 dL_passes_8 rfl rfl ?_
  refine y_iconst (v := 0) hB dL_passes_9 rfl ?_
  refine m_V hB msX6_page q411 (s_page _ G b C C S 0 N (Sc.rf C) hI (by omega) (by omega)) (t := 0) (by decide) (by decide) rfl rfl rfl rfl rfl ⟨Nat.le_of_ble_eq_true rfl, Nat.le_of_ble_eq_true rfl⟩ (Nat.le_of_ble_eq_true rfl) ⟨rfl, rfl⟩ ⟨Nat.le_of_ble_eq_true rfl, Nat.le_of_ble_eq_true rfl⟩ dL_passes_10 (k_WI (fun v_10 C_10 h_10 => ?_))
  obtain ⟨hS_10, hLq, hv_10⟩ := id h_10
  obtain ⟨hf1, hf2, hf3, hf4, hf5⟩ := Lq_facts hI (by omega) hLq
  refine y_istore_n (lv' := [(3, .int (iI (v_10))), (2, .int (iI (0))), (1, .int (iI (v_2))), (0, .ref (ad b (0)))]) hB dL_passes_13 rfl (by decide) rfl ?_
  have LOOP_14 : ∀ (fu : Nat) (r : Int) (CM : gM), (0 ≤ r ∧ r ≤ C_10 573 2) → (Sc C CM) → C_10 573 2 - r < (fu : Int) → YM x G b 0 0 CM S 14 [(0, .ref (ad b (0))), (1, .int (iI (v_2))), (2, .int (iI (r))), (3, .int (iI (v_10)))] [] := by
    intro fu
    induction fu with
    | zero => intro r CM hr hSM hm_14; exfalso; omega
    | succ fu ih_14 =>
      intro r CM hr hSM hm_14
      refine y_aload_n hB 0 dL_passes_14 rfl rfl ?_
      refine y_iload_n hB 2 dL_passes_15 rfl rfl ?_
      refine m_V hB msX6_page q411 (s_pageL _ G b C CM S C_10 r N hSM hI (by omega) hLq (by omega)) (t := 0) (by decide) (by decide) rfl rfl rfl rfl rfl ⟨Nat.le_of_ble_eq_true rfl, Nat.le_of_ble_eq_true rfl⟩ (Nat.le_of_ble_eq_true rfl) ⟨rfl, rfl⟩ ⟨Nat.le_of_ble_eq_true rfl, Nat.le_of_ble_eq_true rfl⟩ dL_passes_16 (k_WI (fun v_16 C_16 h_16 => ?_))
      obtain ⟨hS_16, hv_16⟩ := id h_16
      have hpv := pgv_or C_10 r
      have hge : r < C_10 573 2 → 0 ≤ C_10 577 r ∧ C_10 577 r < C 1 3 := fun z => (hf2 r hr.1 z).1
      refine y_if_lt hB 28 dL_passes_19 (by decide) (by omega) (fun c_19 => ?_) (fun c_19 => ?_)
      · refine y_aload_n hB 0 dL_passes_28 rfl rfl ?_
        refine y_bipush (v := 6) hB dL_passes_29 (by decide) ?_
        refine m_V hB msX6_count q462 (sc_6 _ G b C C_16 S N hS_16 hI (by omega)) (t := 0) (by decide) (by decide) rfl rfl rfl rfl rfl ⟨Nat.le_of_ble_eq_true rfl, Nat.le_of_ble_eq_true rfl⟩ (Nat.le_of_ble_eq_true rfl) ⟨rfl, rfl⟩ ⟨Nat.le_of_ble_eq_true rfl, Nat.le_of_ble_eq_true rfl⟩ dL_passes_31 (k_RI (fun v_31 h_31 => ?_))
        have hb_31 := bc_6 hI
        refine y_istore (lv' := [(4, .int (iI (v_31))), (0, .ref (ad b (0))), (1, .int (iI (v_2))), (2, .int (iI (r))), (3, .int (iI (v_10)))]) hB dL_passes_34 (by decide) rfl ?_
        refine y_aload_n hB 1 dL_passes_36 rfl rfl ?_
        refine m_V hB msX6_print q563 (s_print _ G b C C_16 S C_10 N hS_16 hI (by omega) hLq) (t := 0) (by decide) (by decide) rfl rfl rfl rfl rfl ⟨Nat.le_of_ble_eq_true rfl, Nat.le_of_ble_eq_true rfl⟩ (Nat.le_of_ble_eq_true rfl) ⟨rfl, rfl⟩ ⟨Nat.le_of_ble_eq_true rfl, Nat.le_of_ble_eq_true rfl⟩ dL_passes_37 (k_WI (fun v_37 C_37 h_37 => ?_))
        obtain ⟨hv_37, ⟨hI_37, h3_37, h4_37, h5_37⟩, hc_37, hp_37, ha_37⟩ := id h_37
        have hpv0 := pgv_or C_10 0
        have hge0 : 0 < C_10 573 2 → 0 ≤ C_10 577 0 ∧ C_10 577 0 < C 1 3 := fun z => (hf2 0 (by omega) z).1
        have hre : r = C_10 573 2 := by omega
        refine y_iload_n hB 3 dL_passes_40 rfl rfl ?_
        refine y_icmp_ne hB 111 dL_passes_41 (by decide) (by omega) (by omega) (fun c_41 => ?_) (fun c_41 => ?_)
        · exfalso
          omega
        · refine y_aload_n hB 1 dL_passes_44 rfl rfl ?_
          refine y_iconst (v := 0) hB dL_passes_45 rfl ?_
          refine m_V hB msX6_count q462 (sc_0 _ G b C_37 C_37 S ((N + 1)) (Sc.rf C_37) hI_37 (by omega)) (t := 0) (by decide) (by decide) rfl rfl rfl rfl rfl ⟨Nat.le_of_ble_eq_true rfl, Nat.le_of_ble_eq_true rfl⟩ (Nat.le_of_ble_eq_true rfl) ⟨rfl, rfl⟩ ⟨Nat.le_of_ble_eq_true rfl, Nat.le_of_ble_eq_true rfl⟩ dL_passes_46 (k_RI (fun v_46 h_46 => ?_))
          have hb_46 := bc_0 hI_37
          refine y_iload_n hB 2 dL_passes_49 rfl rfl ?_
          refine y_iconst (v := 1) hB dL_passes_50 rfl ?_
          refine y_iadd (t := v_2 + 1) hB dL_passes_51 (by omega) ?_
          refine y_icmp_ne hB 111 dL_passes_52 (by decide) (by omega) (by omega) (fun c_52 => ?_) (fun c_52 => ?_)
          · exfalso
            omega
          · refine y_aload_n hB 1 dL_passes_55 rfl rfl ?_
            refine y_bipush (v := 6) hB dL_passes_56 (by decide) ?_
            refine m_V hB msX6_count q462 (sc_6 _ G b C_37 C_37 S ((N + 1)) (Sc.rf C_37) hI_37 (by omega)) (t := 0) (by decide) (by decide) rfl rfl rfl rfl rfl ⟨Nat.le_of_ble_eq_true rfl, Nat.le_of_ble_eq_true rfl⟩ (Nat.le_of_ble_eq_true rfl) ⟨rfl, rfl⟩ ⟨Nat.le_of_ble_eq_true rfl, Nat.le_of_ble_eq_true rfl⟩ dL_passes_58 (k_RI (fun v_58 h_58 => ?_))
            have hb_58 := bc_6 hI_37
            refine y_iload hB 0 dL_passes_61 rfl ?_
            refine y_iload_n hB 3 dL_passes_63 rfl rfl ?_
            refine y_iadd (t := r + v_31) hB dL_passes_64 (by omega) ?_
            refine y_icmp_ne hB 111 dL_passes_65 (by decide) (by omega) (by omega) (fun c_65 => ?_) (fun c_65 => ?_)
            · exfalso
              omega
            · refine y_aload_n hB 1 dL_passes_68 rfl rfl ?_
              refine y_iconst (v := 2) hB dL_passes_69 rfl ?_
              refine m_V hB msX6_count q462 (sc_2 _ G b C_37 C_37 S ((N + 1)) (Sc.rf C_37) hI_37 (by omega)) (t := 0) (by decide) (by decide) rfl rfl rfl rfl rfl ⟨Nat.le_of_ble_eq_true rfl, Nat.le_of_ble_eq_true rfl⟩ (Nat.le_of_ble_eq_true rfl) ⟨rfl, rfl⟩ ⟨Nat.le_of_ble_eq_true rfl, Nat.le_of_ble_eq_true rfl⟩ dL_passes_70 (k_RI (fun v_70 h_70 => ?_))
              have hb_70 := bc_2 hI_37
              refine y_aload_n hB 1 dL_passes_73 rfl rfl ?_
              refine y_bipush (v := 11) hB dL_passes_74 (by decide) ?_
              refine m_V hB msX6_count q462 (sc_11 _ G b C_37 C_37 S ((N + 1)) (Sc.rf C_37) hI_37 (by omega)) (t := 0) (by decide) (by decide) rfl rfl rfl rfl rfl ⟨Nat.le_of_ble_eq_true rfl, Nat.le_of_ble_eq_true rfl⟩ (Nat.le_of_ble_eq_true rfl) ⟨rfl, rfl⟩ ⟨Nat.le_of_ble_eq_true rfl, Nat.le_of_ble_eq_true rfl⟩ dL_passes_76 (k_RI (fun v_76 h_76 => ?_))
              have hb_76 := bc_11 hI_37
              refine y_icmp_ne hB 111 dL_passes_79 (by decide) (by omega) (by omega) (fun c_79 => ?_) (fun c_79 => ?_)
              · exfalso
                omega
              · refine y_iload_n hB 4 dL_passes_82 rfl rfl ?_
                refine y_if_lt hB 107 dL_passes_83 (by decide) (by omega) (fun c_83 => ?_) (fun c_83 => ?_)
                · refine y_iconst (v := 1) hB dL_passes_107 rfl ?_
                  refine y_goto hB 112 dL_passes_108 (by decide) ?_
                  exact m_wi hB hE dL_passes_112 rfl (⟨rfl, hI_37, by omega, ha_37⟩)
                · have h0r : 0 < C_10 573 2 ∧ v_10 = C_10 577 0 := by omega
                  have hpp := hp_37 0 (by omega) h0r.1
                  rw [← h0r.2] at hpp
                  refine y_aload_n hB 1 dL_passes_86 rfl rfl ?_
                  refine y_iload_n hB 4 dL_passes_87 rfl rfl ?_
                  refine y_iconst (v := 2) hB dL_passes_88 rfl ?_
                  refine m_V hB msX6_person q364 (sp_2 _ G b C_37 C_37 S v_10 ((N + 1)) (Sc.rf C_37) hI_37 (by omega) (by omega)) (t := 0) (by decide) (by decide) rfl rfl rfl rfl rfl ⟨Nat.le_of_ble_eq_true rfl, Nat.le_of_ble_eq_true rfl⟩ (Nat.le_of_ble_eq_true rfl) ⟨rfl, rfl⟩ ⟨Nat.le_of_ble_eq_true rfl, Nat.le_of_ble_eq_true rfl⟩ dL_passes_89 (k_RI (fun v_89 h_89 => ?_))
                  have hb_89 := bp_2 hI_37 (u := v_10) (by omega)
                  refine y_iconst (v := 3) hB dL_passes_92 rfl ?_
                  refine y_icmp_ne hB 111 dL_passes_93 (by decide) (by omega) (by omega) (fun c_93 => ?_) (fun c_93 => ?_)
                  · exfalso
                    omega
                  · refine y_aload_n hB 1 dL_passes_96 rfl rfl ?_
                    refine y_iload_n hB 4 dL_passes_97 rfl rfl ?_
                    refine y_bipush (v := 9) hB dL_passes_98 (by decide) ?_
                    refine m_V hB msX6_person q364 (sp_9 _ G b C_37 C_37 S v_10 ((N + 1)) (Sc.rf C_37) hI_37 (by omega) (by omega)) (t := 0) (by decide) (by decide) rfl rfl rfl rfl rfl ⟨Nat.le_of_ble_eq_true rfl, Nat.le_of_ble_eq_true rfl⟩ (Nat.le_of_ble_eq_true rfl) ⟨rfl, rfl⟩ ⟨Nat.le_of_ble_eq_true rfl, Nat.le_of_ble_eq_true rfl⟩ dL_passes_100 (k_RI (fun v_100 h_100 => ?_))
                    have hb_100 := bp_9 hI_37 (u := v_10) (by omega)
                    refine y_iload_n hB 2 dL_passes_103 rfl rfl ?_
                    refine y_icmp_ne hB 111 dL_passes_104 (by decide) (by omega) (by omega) (fun c_104 => ?_) (fun c_104 => ?_)
                    · exfalso
                      omega
                    · refine y_iconst (v := 1) hB dL_passes_107 rfl ?_
                      refine y_goto hB 112 dL_passes_108 (by decide) ?_
                      exact m_wi hB hE dL_passes_112 rfl (⟨rfl, hI_37, by omega, ha_37⟩)
      · refine y_iinc (v := r + 1) (lv' := [(2, .int (iI (r + 1))), (0, .ref (ad b (0))), (1, .int (iI (v_2))), (3, .int (iI (v_10)))]) hB 2 dL_passes_22 rfl (by omega) (by decide) rfl ?_
        refine y_goto hB 14 dL_passes_25 (by decide) ?_
        refine y_sub (lv' := [(0, .ref (ad b (0))), (1, .int (iI (v_2))), (2, .int (iI (r + 1))), (3, .int (iI (v_10)))]) [1, 2, 0, 3] rfl ?_
        exact ih_14 (r + 1) C_16 (by omega) hS_16 (by omega)
  refine y_sub (lv' := [(0, .ref (ad b (0))), (1, .int (iI (v_2))), (2, .int (iI (0))), (3, .int (iI (v_10)))]) [3, 2, 1, 0] rfl ?_
  exact LOOP_14 ((C_10 573 2).toNat + 1) 0 C_10 (by omega) hS_10 (by omega)
