/-! the acts of the other class -/
theorem mst_up {D : gM} {p x d : Int} (h : ∀ i : Int, 0 ≤ i → i < 20 → 0 ≤ D 579 (32 * i + 18) ∧ D 579 (32 * i + 18) ≤ 3) (hx : 0 ≤ x ∧ x ≤ 3) : ∀ i : Int, 0 ≤ i → i < 20 → 0 ≤ up2 (up2 D 579 (32 * p + 18) x) 579 (32 * p + 20) d 579 (32 * i + 18) ∧ up2 (up2 D 579 (32 * p + 18) x) 579 (32 * p + 20) d 579 (32 * i + 18) ≤ 3 := by
  intro i a1 a2
  rw [rd_i (by omega)]
  by_cases hi : 32 * i + 18 = 32 * p + 18
  · rw [rd_hit rfl hi]; exact hx
  · rw [rd_i hi]; exact h i a1 a2
theorem MO_st {f : Int → Int} {N : Int} (h : MO f N) : ∀ i : Int, 0 ≤ i → i < 20 → 0 ≤ f (32 * i + 18) ∧ f (32 * i + 18) ≤ 3 := fun i a1 a2 => (h.2.2.2.2.2.2.2.2.2.2.1 i a1 a2).2.2.1
set_option maxHeartbeats 4000000 in
theorem tX7_addPerson (l : Launch) (G : gG) (b : Nat) (C S : gM) (u t N : Int) (hu : -2147483648 ≤ u ∧ u ≤ 2147483647) (ht : -2147483648 ≤ t ∧ t ≤ 2147483647) (hM : MO (S 579) N) (hN : N ≤ 512) (h4 : 0 ≤ S 578 9 ∧ S 578 9 ≤ 4) : Ct l G b yX7_addPerson cX7_addPerson 3 (some .int) rmX7_addPerson [.ref (ad b (578)), .int (iI (u)), .int (iI (t))] 586 (wM G b C S) (SI G b C (fun v S' => ((¬ (0 ≤ u ∧ u ≤ 110 ∧ 1 ≤ t ∧ t ≤ 9)) ∧ v = -2 ∧ S' = S) ∨ (((0 ≤ u ∧ u ≤ 110 ∧ 1 ≤ t ∧ t ≤ 9) ∧ S 579 1 = 20) ∧ v = -3 ∧ S' = S) ∨ (((0 ≤ u ∧ u ≤ 110 ∧ 1 ≤ t ∧ t ≤ 9) ∧ S 579 1 < 20) ∧ v = recS S 579 1 ∧ S' = up2 (up2 (up2 (up2 (recS S) 579 (32 * recS S 579 1 + 16) u) 579 (32 * recS S 579 1 + 17) t) 579 (32 * recS S 579 1 + 22) (-5)) 579 1 (recS S 579 1 + 1)))) := by
  refine CtK_of (by decide) (Nat.le_of_ble_eq_true rfl) q791 ?_
  intro x hl hB hE _
  subst hl
  show YM x G b 0 0 C S 0 [(0, .ref (ad b (578))), (1, .int (iI (u))), (2, .int (iI (t)))] []
  obtain ⟨hm1, hm0, hm2, hm3, hm4, hm5, hm6, hm7, hm8, hmt, hmp, hmz⟩ := id hM
  refine y_iload_n hB 1 dX7_addPerson_0 rfl rfl ?_
  refine y_iconst (v := 0) hB dX7_addPerson_1 rfl ?_
  refine y_bipush (v := 110) hB dX7_addPerson_2 (by decide) ?_
  refine m_S hB msX7_in q792 (tX7_in _ G b C S u 0 110 (by omega) (by omega) (by omega)) rfl rfl ⟨Nat.le_of_ble_eq_true rfl, Nat.le_of_ble_eq_true rfl⟩ (Nat.le_of_ble_eq_true rfl) ⟨rfl, rfl⟩ ⟨Nat.le_of_ble_eq_true rfl, Nat.le_of_ble_eq_true rfl⟩ dX7_addPerson_4 (k_RI (fun v_4 h_4 => ?_))
  refine y_if_eq hB 20 dX7_addPerson_7 (by decide) (by omega) (fun c_7 => ?_) (fun c_7 => ?_)
  · refine y_bipush (v := -2) hB dX7_addPerson_20 (by decide) ?_
    exact m_si hB hE dX7_addPerson_22 rfl (Or.inl (⟨by omega, rfl, rfl⟩))
  · refine y_iload_n hB 2 dX7_addPerson_10 rfl rfl ?_
    refine y_iconst (v := 1) hB dX7_addPerson_11 rfl ?_
    refine y_bipush (v := 9) hB dX7_addPerson_12 (by decide) ?_
    refine m_S hB msX7_in q792 (tX7_in _ G b C S t 1 9 (by omega) (by omega) (by omega)) rfl rfl ⟨Nat.le_of_ble_eq_true rfl, Nat.le_of_ble_eq_true rfl⟩ (Nat.le_of_ble_eq_true rfl) ⟨rfl, rfl⟩ ⟨Nat.le_of_ble_eq_true rfl, Nat.le_of_ble_eq_true rfl⟩ dX7_addPerson_14 (k_RI (fun v_14 h_14 => ?_))
    refine y_if_ne hB 23 dX7_addPerson_17 (by decide) (by omega) (fun c_17 => ?_) (fun c_17 => ?_)
    · refine y_aload_n hB 0 dX7_addPerson_23 rfl rfl ?_
      refine gt_7_0 hB (by decide) (t1 := 579) (by omega) dX7_addPerson_24 ?_
      refine y_iconst (v := 1) hB dX7_addPerson_27 rfl ?_
      refine ald_21 hB (by decide) (t1 := S 579 1) (by omega) rfl dX7_addPerson_28 ?_
      refine y_bipush (v := 20) hB dX7_addPerson_29 (by decide) ?_
      refine y_icmp_ne hB 37 dX7_addPerson_31 (by decide) (by omega) (by omega) (fun c_31 => ?_) (fun c_31 => ?_)
      · refine y_aload_n hB 0 dX7_addPerson_37 rfl rfl ?_
        refine m_V hB msX7_record q795 (tX7_record _ G b C S (by omega)) (t := 20) (by decide) (by decide) rfl rfl rfl rfl rfl ⟨Nat.le_of_ble_eq_true rfl, Nat.le_of_ble_eq_true rfl⟩ (Nat.le_of_ble_eq_true rfl) ⟨rfl, rfl⟩ ⟨Nat.le_of_ble_eq_true rfl, Nat.le_of_ble_eq_true rfl⟩ dX7_addPerson_38 (k_SV (fun S_38 h_38 => ?_))
        obtain rfl := h_38
        have er : (recS S) 579 = S 579 := recS_out (by omega)
        have er0 : (recS S) 579 1 = S 579 1 := by rw [er]
        refine y_aload_n hB 0 dX7_addPerson_41 rfl rfl ?_
        refine y_iload_n hB 1 dX7_addPerson_42 rfl rfl ?_
        refine y_iload_n hB 2 dX7_addPerson_43 rfl rfl ?_
        refine m_V hB msX7_come q799 (tX7_come _ G b C (recS S) u t ((recS S) 579 1) rfl (by omega)) (t := 20) (by decide) (by decide) rfl rfl rfl rfl rfl ⟨Nat.le_of_ble_eq_true rfl, Nat.le_of_ble_eq_true rfl⟩ (Nat.le_of_ble_eq_true rfl) ⟨rfl, rfl⟩ ⟨Nat.le_of_ble_eq_true rfl, Nat.le_of_ble_eq_true rfl⟩ dX7_addPerson_44 (k_SI (fun v_44 S_44 h_44 => ?_))
        obtain ⟨rfl, rfl⟩ := h_44
        exact m_si hB hE dX7_addPerson_47 rfl (Or.inr (Or.inr (⟨by omega, rfl, rfl⟩)))
      · refine y_bipush (v := -3) hB dX7_addPerson_34 (by decide) ?_
        exact m_si hB hE dX7_addPerson_36 rfl (Or.inr (Or.inl (⟨by omega, rfl, rfl⟩)))
    · refine y_bipush (v := -2) hB dX7_addPerson_20 (by decide) ?_
      exact m_si hB hE dX7_addPerson_22 rfl (Or.inl (⟨by omega, rfl, rfl⟩))
set_option maxHeartbeats 4000000 in
theorem tX7_write (l : Launch) (G : gG) (b : Nat) (C S : gM) (p q z N : Int) (hp : -2147483648 ≤ p ∧ p ≤ 2147483647) (hq : -2147483648 ≤ q ∧ q ≤ 2147483647) (hz : -2147483648 ≤ z ∧ z ≤ 2147483647) (hM : MO (S 579) N) (hN : N ≤ 512) (h4 : 0 ≤ S 578 9 ∧ S 578 9 ≤ 4) : Ct l G b yX7_write cX7_write 4 (some .int) rmX7_write [.ref (ad b (578)), .int (iI (p)), .int (iI (q)), .int (iI (z))] 586 (wM G b C S) (SI G b C (fun v S' => ((¬ (0 ≤ p ∧ p < S 579 1 ∧ 0 ≤ q ∧ q < 6)) ∧ v = -1 ∧ S' = S) ∨ (((0 ≤ p ∧ p < S 579 1 ∧ 0 ≤ q ∧ q < 6) ∧ ¬ (1 ≤ z ∧ z ≤ 9)) ∧ v = -2 ∧ S' = S) ∨ (((0 ≤ p ∧ p < S 579 1 ∧ 0 ≤ q ∧ q < 6) ∧ (1 ≤ z ∧ z ≤ 9) ∧ S 579 (32 * p + 18) = 3) ∧ v = -4 ∧ S' = S) ∨ (((0 ≤ p ∧ p < S 579 1 ∧ 0 ≤ q ∧ q < 6) ∧ (1 ≤ z ∧ z ≤ 9) ∧ ¬ S 579 (32 * p + 18) = 3 ∧ ¬ (S 579 (32 * p + 19) < 8 ∧ z ≤ S 579 2)) ∧ v = -3 ∧ S' = S) ∨ (((0 ≤ p ∧ p < S 579 1 ∧ 0 ≤ q ∧ q < 6) ∧ (1 ≤ z ∧ z ≤ 9) ∧ ¬ S 579 (32 * p + 18) = 3 ∧ (S 579 (32 * p + 19) < 8 ∧ z ≤ S 579 2)) ∧ v = recS S 579 (32 * p + 19) ∧ S' = up2 (up2 (up2 (up2 (up2 (recS S) 579 (32 * p + 3 * recS S 579 (32 * p + 19) + 24) q) 579 (32 * p + 3 * recS S 579 (32 * p + 19) + 25) z) 579 (32 * p + 3 * recS S 579 (32 * p + 19) + 26) (recS S 579 0)) 579 (32 * p + 19) (recS S 579 (32 * p + 19) + 1)) 579 2 (recS S 579 2 - z)))) := by
  refine CtK_of (by decide) (Nat.le_of_ble_eq_true rfl) q852 ?_
  intro x hl hB hE _
  subst hl
  show YM x G b 0 0 C S 0 [(0, .ref (ad b (578))), (1, .int (iI (p))), (2, .int (iI (q))), (3, .int (iI (z)))] []
  obtain ⟨hm1, hm0, hm2, hm3, hm4, hm5, hm6, hm7, hm8, hmt, hmp, hmz⟩ := id hM
  refine y_aload_n hB 0 dX7_write_0 rfl rfl ?_
  refine y_iload_n hB 1 dX7_write_1 rfl rfl ?_
  refine m_V hB msX7_isPerson q853 (tX7_isPerson _ G b C S p (by omega) (by omega)) (t := 20) (by decide) (by decide) rfl rfl rfl rfl rfl ⟨Nat.le_of_ble_eq_true rfl, Nat.le_of_ble_eq_true rfl⟩ (Nat.le_of_ble_eq_true rfl) ⟨rfl, rfl⟩ ⟨Nat.le_of_ble_eq_true rfl, Nat.le_of_ble_eq_true rfl⟩ dX7_write_2 (k_RI (fun v_2 h_2 => ?_))
  refine y_if_eq hB 17 dX7_write_5 (by decide) (by omega) (fun c_5 => ?_) (fun c_5 => ?_)
  · refine y_iconst (v := -1) hB dX7_write_17 rfl ?_
    exact m_si hB hE dX7_write_18 rfl (Or.inl (⟨by omega, rfl, rfl⟩))
  · refine y_iload_n hB 2 dX7_write_8 rfl rfl ?_
    refine y_iconst (v := 0) hB dX7_write_9 rfl ?_
    refine y_iconst (v := 5) hB dX7_write_10 rfl ?_
    refine m_S hB msX7_in q792 (tX7_in _ G b C S q 0 5 (by omega) (by omega) (by omega)) rfl rfl ⟨Nat.le_of_ble_eq_true rfl, Nat.le_of_ble_eq_true rfl⟩ (Nat.le_of_ble_eq_true rfl) ⟨rfl, rfl⟩ ⟨Nat.le_of_ble_eq_true rfl, Nat.le_of_ble_eq_true rfl⟩ dX7_write_11 (k_RI (fun v_11 h_11 => ?_))
    refine y_if_ne hB 19 dX7_write_14 (by decide) (by omega) (fun c_14 => ?_) (fun c_14 => ?_)
    · refine y_iload_n hB 3 dX7_write_19 rfl rfl ?_
      refine y_iconst (v := 1) hB dX7_write_20 rfl ?_
      refine y_bipush (v := 9) hB dX7_write_21 (by decide) ?_
      refine m_S hB msX7_in q792 (tX7_in _ G b C S z 1 9 (by omega) (by omega) (by omega)) rfl rfl ⟨Nat.le_of_ble_eq_true rfl, Nat.le_of_ble_eq_true rfl⟩ (Nat.le_of_ble_eq_true rfl) ⟨rfl, rfl⟩ ⟨Nat.le_of_ble_eq_true rfl, Nat.le_of_ble_eq_true rfl⟩ dX7_write_23 (k_RI (fun v_23 h_23 => ?_))
      refine y_if_ne hB 32 dX7_write_26 (by decide) (by omega) (fun c_26 => ?_) (fun c_26 => ?_)
      · obtain ⟨hp1, hp2, hp3, hp4, hp5, hp6, hp7, hpf⟩ := id (hmp p (by omega) (by omega))
        refine y_aload_n hB 0 dX7_write_32 rfl rfl ?_
        refine y_iload_n hB 1 dX7_write_33 rfl rfl ?_
        refine y_iconst (v := 2) hB dX7_write_34 rfl ?_
        refine m_V hB msX7_of q842 (tX7_of _ G b C S p 2 (32 * p + 18) (S 579 (32 * p + 18)) (by omega) (by omega) rfl) (t := 20) (by decide) (by decide) rfl rfl rfl rfl rfl ⟨Nat.le_of_ble_eq_true rfl, Nat.le_of_ble_eq_true rfl⟩ (Nat.le_of_ble_eq_true rfl) ⟨rfl, rfl⟩ ⟨Nat.le_of_ble_eq_true rfl, Nat.le_of_ble_eq_true rfl⟩ dX7_write_35 (k_RI (fun v_35 h_35 => ?_))
        obtain rfl := h_35
        refine y_iconst (v := 3) hB dX7_write_38 rfl ?_
        refine y_icmp_ne hB 45 dX7_write_39 (by decide) (by omega) (by omega) (fun c_39 => ?_) (fun c_39 => ?_)
        · refine y_aload_n hB 0 dX7_write_45 rfl rfl ?_
          refine y_iload_n hB 1 dX7_write_46 rfl rfl ?_
          refine y_iconst (v := 3) hB dX7_write_47 rfl ?_
          refine m_V hB msX7_of q842 (tX7_of _ G b C S p 3 (32 * p + 19) (S 579 (32 * p + 19)) (by omega) (by omega) rfl) (t := 20) (by decide) (by decide) rfl rfl rfl rfl rfl ⟨Nat.le_of_ble_eq_true rfl, Nat.le_of_ble_eq_true rfl⟩ (Nat.le_of_ble_eq_true rfl) ⟨rfl, rfl⟩ ⟨Nat.le_of_ble_eq_true rfl, Nat.le_of_ble_eq_true rfl⟩ dX7_write_48 (k_RI (fun v_48 h_48 => ?_))
          obtain rfl := h_48
          refine y_bipush (v := 8) hB dX7_write_51 (by decide) ?_
          refine y_icmp_eq hB 66 dX7_write_53 (by decide) (by omega) (by omega) (fun c_53 => ?_) (fun c_53 => ?_)
          · refine y_bipush (v := -3) hB dX7_write_66 (by decide) ?_
            exact m_si hB hE dX7_write_68 rfl (Or.inr (Or.inr (Or.inr (Or.inl (⟨by omega, rfl, rfl⟩)))))
          · refine y_iload_n hB 3 dX7_write_56 rfl rfl ?_
            refine y_aload_n hB 0 dX7_write_57 rfl rfl ?_
            refine gt_7_0 hB (by decide) (t1 := 579) (by omega) dX7_write_58 ?_
            refine y_iconst (v := 2) hB dX7_write_61 rfl ?_
            refine ald_21 hB (by decide) (t1 := S 579 2) (by omega) rfl dX7_write_62 ?_
            refine y_icmp_le hB 69 dX7_write_63 (by decide) (by omega) (by omega) (fun c_63 => ?_) (fun c_63 => ?_)
            · refine y_aload_n hB 0 dX7_write_69 rfl rfl ?_
              refine m_V hB msX7_record q795 (tX7_record _ G b C S (by omega)) (t := 20) (by decide) (by decide) rfl rfl rfl rfl rfl ⟨Nat.le_of_ble_eq_true rfl, Nat.le_of_ble_eq_true rfl⟩ (Nat.le_of_ble_eq_true rfl) ⟨rfl, rfl⟩ ⟨Nat.le_of_ble_eq_true rfl, Nat.le_of_ble_eq_true rfl⟩ dX7_write_70 (k_SV (fun S_70 h_70 => ?_))
              obtain rfl := h_70
              have er : (recS S) 579 = S 579 := recS_out (by omega)
              have er0 : (recS S) 579 1 = S 579 1 := by rw [er]
              have er1 : (recS S) 579 2 = S 579 2 := by rw [er]
              have er2 : (recS S) 579 0 = S 579 0 := by rw [er]
              have er3 : (recS S) 579 (32 * p + 19) = S 579 (32 * p + 19) := by rw [er]
              refine y_aload_n hB 0 dX7_write_73 rfl rfl ?_
              refine y_iload_n hB 1 dX7_write_74 rfl rfl ?_
              refine y_iload_n hB 2 dX7_write_75 rfl rfl ?_
              refine y_iload_n hB 3 dX7_write_76 rfl rfl ?_
              refine m_V hB msX7_add q838 (tX7_add _ G b C (recS S) p q z ((recS S) 579 (32 * p + 19)) (by omega) rfl (by omega)) (t := 20) (by decide) (by decide) rfl rfl rfl rfl rfl ⟨Nat.le_of_ble_eq_true rfl, Nat.le_of_ble_eq_true rfl⟩ (Nat.le_of_ble_eq_true rfl) ⟨rfl, rfl⟩ ⟨Nat.le_of_ble_eq_true rfl, Nat.le_of_ble_eq_true rfl⟩ dX7_write_77 (k_SV (fun S_77 h_77 => ?_))
              obtain rfl := h_77
              refine y_aload_n hB 0 dX7_write_80 rfl rfl ?_
              refine gt_7_0 hB (by decide) (t1 := 579) (by omega) dX7_write_81 ?_
              refine y_iconst (v := 2) hB dX7_write_84 rfl ?_
              refine y_dup2 hB dX7_write_85 rfl rfl ?_
              refine ald_21 hB (by decide) (t1 := (recS S) 579 2) (by omega) ((rd_i (by omega)).trans ((rd_i (by omega)).trans ((rd_i (by omega)).trans (rd_i (by omega))))) dX7_write_86 ?_
              refine y_iload_n hB 3 dX7_write_87 rfl rfl ?_
              refine y_isub (t := (recS S) 579 2 - z) hB dX7_write_88 (by omega) ?_
              refine ast_21 hB (by decide) (by omega) dX7_write_89 ?_
              refine y_aload_n hB 0 dX7_write_90 rfl rfl ?_
              refine y_iload_n hB 1 dX7_write_91 rfl rfl ?_
              refine y_iconst (v := 3) hB dX7_write_92 rfl ?_
              refine m_V hB msX7_of q842 (tX7_of _ G b C (up2 (up2 (up2 (up2 (up2 (recS S) 579 (32 * p + 3 * ((recS S) 579 (32 * p + 19)) + 24) q) 579 (32 * p + 3 * ((recS S) 579 (32 * p + 19)) + 25) z) 579 (32 * p + 3 * ((recS S) 579 (32 * p + 19)) + 26) ((recS S) 579 0)) 579 (32 * p + 19) (((recS S) 579 (32 * p + 19)) + 1)) 579 2 ((recS S) 579 2 - z)) p 3 (32 * p + 19) (((recS S) 579 (32 * p + 19)) + 1) (by omega) (by omega) ((rd_i (by omega)).trans (rd_hit (by omega) (by omega)))) (t := 20) (by decide) (by decide) rfl rfl rfl rfl rfl ⟨Nat.le_of_ble_eq_true rfl, Nat.le_of_ble_eq_true rfl⟩ (Nat.le_of_ble_eq_true rfl) ⟨rfl, rfl⟩ ⟨Nat.le_of_ble_eq_true rfl, Nat.le_of_ble_eq_true rfl⟩ dX7_write_93 (k_RI (fun v_93 h_93 => ?_))
              obtain rfl := h_93
              refine y_iconst (v := 1) hB dX7_write_96 rfl ?_
              refine y_isub (t := (((recS S) 579 (32 * p + 19)))) hB dX7_write_97 (by omega) ?_
              exact m_si hB hE dX7_write_98 rfl (Or.inr (Or.inr (Or.inr (Or.inr (⟨by omega, by omega, rfl⟩)))))
            · refine y_bipush (v := -3) hB dX7_write_66 (by decide) ?_
              exact m_si hB hE dX7_write_68 rfl (Or.inr (Or.inr (Or.inr (Or.inl (⟨by omega, rfl, rfl⟩)))))
        · refine y_bipush (v := -4) hB dX7_write_42 (by decide) ?_
          exact m_si hB hE dX7_write_44 rfl (Or.inr (Or.inr (Or.inl (⟨by omega, rfl, rfl⟩))))
      · refine y_bipush (v := -2) hB dX7_write_29 (by decide) ?_
        exact m_si hB hE dX7_write_31 rfl (Or.inr (Or.inl (⟨by omega, rfl, rfl⟩)))
    · refine y_iconst (v := -1) hB dX7_write_17 rfl ?_
      exact m_si hB hE dX7_write_18 rfl (Or.inl (⟨by omega, rfl, rfl⟩))
set_option maxHeartbeats 4000000 in
theorem tX7_check (l : Launch) (G : gG) (b : Nat) (C S : gM) (p q N : Int) (hp : -2147483648 ≤ p ∧ p ≤ 2147483647) (hq : -2147483648 ≤ q ∧ q ≤ 2147483647) (hM : MO (S 579) N) (hN : N ≤ 512) (h4 : 0 ≤ S 578 9 ∧ S 578 9 ≤ 4) : Ct l G b yX7_check cX7_check 3 (some .int) rmX7_check [.ref (ad b (578)), .int (iI (p)), .int (iI (q))] 586 (wM G b C S) (SI G b C (fun v S' => ((¬ (0 ≤ p ∧ p < S 579 1 ∧ 0 ≤ q ∧ q < S 579 (32 * p + 19))) ∧ v = -1 ∧ S' = S) ∨ (((0 ≤ p ∧ p < S 579 1 ∧ 0 ≤ q ∧ q < S 579 (32 * p + 19)) ∧ S 579 (32 * p + 18) = 3) ∧ v = -4 ∧ S' = S) ∨ (((0 ≤ p ∧ p < S 579 1 ∧ 0 ≤ q ∧ q < S 579 (32 * p + 19)) ∧ ¬ S 579 (32 * p + 18) = 3 ∧ S 579 2 = 0) ∧ v = -3 ∧ S' = S) ∨ (((0 ≤ p ∧ p < S 579 1 ∧ 0 ≤ q ∧ q < S 579 (32 * p + 19)) ∧ ¬ S 579 (32 * p + 18) = 3 ∧ ¬ S 579 2 = 0 ∧ S 579 (32 * p + 3 * q + 26) = S 579 0) ∧ v = -5 ∧ S' = S) ∨ (((0 ≤ p ∧ p < S 579 1 ∧ 0 ≤ q ∧ q < S 579 (32 * p + 19)) ∧ ¬ S 579 (32 * p + 18) = 3 ∧ ¬ S 579 2 = 0 ∧ ¬ S 579 (32 * p + 3 * q + 26) = S 579 0) ∧ v = recS S 579 2 - 1 ∧ S' = up2 (up2 (recS S) 579 (32 * p + 3 * q + 26) (recS S 579 0)) 579 2 (recS S 579 2 - 1)))) := by
  refine CtK_of (by decide) (Nat.le_of_ble_eq_true rfl) q860 ?_
  intro x hl hB hE _
  subst hl
  show YM x G b 0 0 C S 0 [(0, .ref (ad b (578))), (1, .int (iI (p))), (2, .int (iI (q)))] []
  obtain ⟨hm1, hm0, hm2, hm3, hm4, hm5, hm6, hm7, hm8, hmt, hmp, hmz⟩ := id hM
  refine y_aload_n hB 0 dX7_check_0 rfl rfl ?_
  refine y_iload_n hB 1 dX7_check_1 rfl rfl ?_
  refine y_iload_n hB 2 dX7_check_2 rfl rfl ?_
  refine m_V hB msX7_isFact q861 (tX7_isFact _ G b C S p q N (by omega) (by omega) hM hN) (t := 20) (by decide) (by decide) rfl rfl rfl rfl rfl ⟨Nat.le_of_ble_eq_true rfl, Nat.le_of_ble_eq_true rfl⟩ (Nat.le_of_ble_eq_true rfl) ⟨rfl, rfl⟩ ⟨Nat.le_of_ble_eq_true rfl, Nat.le_of_ble_eq_true rfl⟩ dX7_check_3 (k_RI (fun v_3 h_3 => ?_))
  refine y_if_ne hB 11 dX7_check_6 (by decide) (by omega) (fun c_6 => ?_) (fun c_6 => ?_)
  · obtain ⟨hp1, hp2, hp3, hp4, hp5, hp6, hp7, hpf⟩ := id (hmp p (by omega) (by omega))
    have hf := hpf q (by omega) (by omega)
    refine y_aload_n hB 0 dX7_check_11 rfl rfl ?_
    refine y_iload_n hB 1 dX7_check_12 rfl rfl ?_
    refine y_iconst (v := 2) hB dX7_check_13 rfl ?_
    refine m_V hB msX7_of q842 (tX7_of _ G b C S p 2 (32 * p + 18) (S 579 (32 * p + 18)) (by omega) (by omega) rfl) (t := 20) (by decide) (by decide) rfl rfl rfl rfl rfl ⟨Nat.le_of_ble_eq_true rfl, Nat.le_of_ble_eq_true rfl⟩ (Nat.le_of_ble_eq_true rfl) ⟨rfl, rfl⟩ ⟨Nat.le_of_ble_eq_true rfl, Nat.le_of_ble_eq_true rfl⟩ dX7_check_14 (k_RI (fun v_14 h_14 => ?_))
    obtain rfl := h_14
    refine y_iconst (v := 3) hB dX7_check_17 rfl ?_
    refine y_icmp_ne hB 24 dX7_check_18 (by decide) (by omega) (by omega) (fun c_18 => ?_) (fun c_18 => ?_)
    · refine y_aload_n hB 0 dX7_check_24 rfl rfl ?_
      refine gt_7_0 hB (by decide) (t1 := 579) (by omega) dX7_check_25 ?_
      refine y_iconst (v := 2) hB dX7_check_28 rfl ?_
      refine ald_21 hB (by decide) (t1 := S 579 2) (by omega) rfl dX7_check_29 ?_
      refine y_if_ne hB 36 dX7_check_30 (by decide) (by omega) (fun c_30 => ?_) (fun c_30 => ?_)
      · refine y_aload_n hB 0 dX7_check_36 rfl rfl ?_
        refine gt_7_0 hB (by decide) (t1 := 579) (by omega) dX7_check_37 ?_
        refine y_iload_n hB 1 dX7_check_40 rfl rfl ?_
        refine y_iload_n hB 2 dX7_check_41 rfl rfl ?_
        refine m_S hB msX7_f q846 (tX7_f _ G b C S p q (32 * p + 3 * q + 24) (by omega)) rfl rfl ⟨Nat.le_of_ble_eq_true rfl, Nat.le_of_ble_eq_true rfl⟩ (Nat.le_of_ble_eq_true rfl) ⟨rfl, rfl⟩ ⟨Nat.le_of_ble_eq_true rfl, Nat.le_of_ble_eq_true rfl⟩ dX7_check_42 (k_RI (fun v_42 h_42 => ?_))
        obtain rfl := h_42
        refine y_iconst (v := 2) hB dX7_check_45 rfl ?_
        refine y_iadd (t := 32 * p + 3 * q + 26) hB dX7_check_46 (by omega) ?_
        refine ald_21 hB (by decide) (t1 := S 579 (32 * p + 3 * q + 26)) (by omega) rfl dX7_check_47 ?_
        refine y_aload_n hB 0 dX7_check_48 rfl rfl ?_
        refine gt_7_0 hB (by decide) (t1 := 579) (by omega) dX7_check_49 ?_
        refine y_iconst (v := 0) hB dX7_check_52 rfl ?_
        refine ald_21 hB (by decide) (t1 := S 579 0) (by omega) rfl dX7_check_53 ?_
        refine y_icmp_ne hB 60 dX7_check_54 (by decide) (by omega) (by omega) (fun c_54 => ?_) (fun c_54 => ?_)
        · refine y_aload_n hB 0 dX7_check_60 rfl rfl ?_
          refine m_V hB msX7_record q795 (tX7_record _ G b C S (by omega)) (t := 20) (by decide) (by decide) rfl rfl rfl rfl rfl ⟨Nat.le_of_ble_eq_true rfl, Nat.le_of_ble_eq_true rfl⟩ (Nat.le_of_ble_eq_true rfl) ⟨rfl, rfl⟩ ⟨Nat.le_of_ble_eq_true rfl, Nat.le_of_ble_eq_true rfl⟩ dX7_check_61 (k_SV (fun S_61 h_61 => ?_))
          obtain rfl := h_61
          have er : (recS S) 579 = S 579 := recS_out (by omega)
          have er0 : (recS S) 579 2 = S 579 2 := by rw [er]
          have er1 : (recS S) 579 0 = S 579 0 := by rw [er]
          refine y_aload_n hB 0 dX7_check_64 rfl rfl ?_
          refine gt_7_0 hB (by decide) (t1 := 579) (by omega) dX7_check_65 ?_
          refine y_iload_n hB 1 dX7_check_68 rfl rfl ?_
          refine y_iload_n hB 2 dX7_check_69 rfl rfl ?_
          refine m_S hB msX7_f q846 (tX7_f _ G b C (recS S) p q (32 * p + 3 * q + 24) (by omega)) rfl rfl ⟨Nat.le_of_ble_eq_true rfl, Nat.le_of_ble_eq_true rfl⟩ (Nat.le_of_ble_eq_true rfl) ⟨rfl, rfl⟩ ⟨Nat.le_of_ble_eq_true rfl, Nat.le_of_ble_eq_true rfl⟩ dX7_check_70 (k_RI (fun v_70 h_70 => ?_))
          obtain rfl := h_70
          refine y_iconst (v := 2) hB dX7_check_73 rfl ?_
          refine y_iadd (t := 32 * p + 3 * q + 26) hB dX7_check_74 (by omega) ?_
          refine y_aload_n hB 0 dX7_check_75 rfl rfl ?_
          refine gt_7_0 hB (by decide) (t1 := 579) (by omega) dX7_check_76 ?_
          refine y_iconst (v := 0) hB dX7_check_79 rfl ?_
          refine ald_21 hB (by decide) (t1 := (recS S) 579 0) (by omega) rfl dX7_check_80 ?_
          refine ast_21 hB (by decide) (by omega) dX7_check_81 ?_
          refine y_aload_n hB 0 dX7_check_82 rfl rfl ?_
          refine gt_7_0 hB (by decide) (t1 := 579) (by omega) dX7_check_83 ?_
          refine y_iconst (v := 2) hB dX7_check_86 rfl ?_
          refine y_dup2 hB dX7_check_87 rfl rfl ?_
          refine ald_21 hB (by decide) (t1 := (recS S) 579 2) (by omega) (rd_i (by omega)) dX7_check_88 ?_
          refine y_iconst (v := 1) hB dX7_check_89 rfl ?_
          refine y_isub (t := (recS S) 579 2 - 1) hB dX7_check_90 (by omega) ?_
          refine ast_21 hB (by decide) (by omega) dX7_check_91 ?_
          refine y_aload_n hB 0 dX7_check_92 rfl rfl ?_
          refine gt_7_0 hB (by decide) (t1 := 579) (by omega) dX7_check_93 ?_
          refine y_iconst (v := 2) hB dX7_check_96 rfl ?_
          refine ald_21 hB (by decide) (t1 := (recS S) 579 2 - 1) (by omega) (rd_hit (by omega) (by omega)) dX7_check_97 ?_
          exact m_si hB hE dX7_check_98 rfl (Or.inr (Or.inr (Or.inr (Or.inr (⟨by omega, rfl, rfl⟩)))))
        · refine y_bipush (v := -5) hB dX7_check_57 (by decide) ?_
          exact m_si hB hE dX7_check_59 rfl (Or.inr (Or.inr (Or.inr (Or.inl (⟨by omega, rfl, rfl⟩)))))
      · refine y_bipush (v := -3) hB dX7_check_33 (by decide) ?_
        exact m_si hB hE dX7_check_35 rfl (Or.inr (Or.inr (Or.inl (⟨by omega, rfl, rfl⟩))))
    · refine y_bipush (v := -4) hB dX7_check_21 (by decide) ?_
      exact m_si hB hE dX7_check_23 rfl (Or.inr (Or.inl (⟨by omega, rfl, rfl⟩)))
  · refine y_iconst (v := -1) hB dX7_check_9 rfl ?_
    exact m_si hB hE dX7_check_10 rfl (Or.inl (⟨by omega, rfl, rfl⟩))
set_option maxHeartbeats 4000000 in
theorem tX7_trust (l : Launch) (G : gG) (b : Nat) (C S : gM) (u t N : Int) (hu : -2147483648 ≤ u ∧ u ≤ 2147483647) (ht : -2147483648 ≤ t ∧ t ≤ 2147483647) (hM : MO (S 579) N) (hN : N ≤ 512) (h4 : 0 ≤ S 578 9 ∧ S 578 9 ≤ 4) : Ct l G b yX7_trust cX7_trust 4 (some .int) rmX7_trust [.ref (ad b (578)), .int (iI (u)), .int (iI (t))] 586 (wM G b C S) (SI G b C (fun v S' => ((¬ (0 ≤ u ∧ u < 6)) ∧ v = -1 ∧ S' = S) ∨ (((0 ≤ u ∧ u < 6) ∧ ¬ (0 ≤ t ∧ t ≤ 100)) ∧ v = -2 ∧ S' = S) ∨ (((0 ≤ u ∧ u < 6) ∧ (0 ≤ t ∧ t ≤ 100) ∧ S 579 (u + 9) = t) ∧ v = -5 ∧ S' = S) ∨ (((0 ≤ u ∧ u < 6) ∧ (0 ≤ t ∧ t ≤ 100) ∧ ¬ S 579 (u + 9) = t) ∧ v = S 579 (u + 9) ∧ S' = up2 (recS S) 579 (u + 9) t))) := by
  refine CtK_of (by decide) (Nat.le_of_ble_eq_true rfl) q902 ?_
  intro x hl hB hE _
  subst hl
  show YM x G b 0 0 C S 0 [(0, .ref (ad b (578))), (1, .int (iI (u))), (2, .int (iI (t)))] []
  obtain ⟨hm1, hm0, hm2, hm3, hm4, hm5, hm6, hm7, hm8, hmt, hmp, hmz⟩ := id hM
  refine y_iload_n hB 1 dX7_trust_0 rfl rfl ?_
  refine y_iconst (v := 0) hB dX7_trust_1 rfl ?_
  refine y_iconst (v := 5) hB dX7_trust_2 rfl ?_
  refine m_S hB msX7_in q792 (tX7_in _ G b C S u 0 5 (by omega) (by omega) (by omega)) rfl rfl ⟨Nat.le_of_ble_eq_true rfl, Nat.le_of_ble_eq_true rfl⟩ (Nat.le_of_ble_eq_true rfl) ⟨rfl, rfl⟩ ⟨Nat.le_of_ble_eq_true rfl, Nat.le_of_ble_eq_true rfl⟩ dX7_trust_3 (k_RI (fun v_3 h_3 => ?_))
  refine y_if_ne hB 11 dX7_trust_6 (by decide) (by omega) (fun c_6 => ?_) (fun c_6 => ?_)
  · refine y_iload_n hB 2 dX7_trust_11 rfl rfl ?_
    refine y_iconst (v := 0) hB dX7_trust_12 rfl ?_
    refine y_bipush (v := 100) hB dX7_trust_13 (by decide) ?_
    refine m_S hB msX7_in q792 (tX7_in _ G b C S t 0 100 (by omega) (by omega) (by omega)) rfl rfl ⟨Nat.le_of_ble_eq_true rfl, Nat.le_of_ble_eq_true rfl⟩ (Nat.le_of_ble_eq_true rfl) ⟨rfl, rfl⟩ ⟨Nat.le_of_ble_eq_true rfl, Nat.le_of_ble_eq_true rfl⟩ dX7_trust_15 (k_RI (fun v_15 h_15 => ?_))
    refine y_if_ne hB 24 dX7_trust_18 (by decide) (by omega) (fun c_18 => ?_) (fun c_18 => ?_)
    · have ht9 := hmt u (by omega)
      refine y_aload_n hB 0 dX7_trust_24 rfl rfl ?_
      refine gt_7_0 hB (by decide) (t1 := 579) (by omega) dX7_trust_25 ?_
      refine y_bipush (v := 9) hB dX7_trust_28 (by decide) ?_
      refine y_iload_n hB 1 dX7_trust_30 rfl rfl ?_
      refine y_iadd (t := u + 9) hB dX7_trust_31 (by omega) ?_
      refine ald_21 hB (by decide) (t1 := S 579 (u + 9)) (by omega) rfl dX7_trust_32 ?_
      refine y_istore_n (lv' := [(3, .int (iI (S 579 (u + 9)))), (0, .ref (ad b (578))), (1, .int (iI (u))), (2, .int (iI (t)))]) hB dX7_trust_33 rfl (by decide) rfl ?_
      refine y_iload_n hB 0 dX7_trust_34 rfl rfl ?_
      refine y_iload_n hB 3 dX7_trust_35 rfl rfl ?_
      refine y_icmp_ne hB 42 dX7_trust_36 (by decide) (by omega) (by omega) (fun c_36 => ?_) (fun c_36 => ?_)
      · refine y_aload_n hB 1 dX7_trust_42 rfl rfl ?_
        refine m_V hB msX7_record q795 (tX7_record _ G b C S (by omega)) (t := 20) (by decide) (by decide) rfl rfl rfl rfl rfl ⟨Nat.le_of_ble_eq_true rfl, Nat.le_of_ble_eq_true rfl⟩ (Nat.le_of_ble_eq_true rfl) ⟨rfl, rfl⟩ ⟨Nat.le_of_ble_eq_true rfl, Nat.le_of_ble_eq_true rfl⟩ dX7_trust_43 (k_SV (fun S_43 h_43 => ?_))
        obtain rfl := h_43
        refine y_aload_n hB 1 dX7_trust_46 rfl rfl ?_
        refine gt_7_0 hB (by decide) (t1 := 579) (by omega) dX7_trust_47 ?_
        refine y_bipush (v := 9) hB dX7_trust_50 (by decide) ?_
        refine y_iload_n hB 2 dX7_trust_52 rfl rfl ?_
        refine y_iadd (t := u + 9) hB dX7_trust_53 (by omega) ?_
        refine y_iload_n hB 3 dX7_trust_54 rfl rfl ?_
        refine ast_21 hB (by decide) (by omega) dX7_trust_55 ?_
        refine y_iload_n hB 0 dX7_trust_56 rfl rfl ?_
        exact m_si hB hE dX7_trust_57 rfl (Or.inr (Or.inr (Or.inr (⟨by omega, rfl, rfl⟩))))
      · refine y_bipush (v := -5) hB dX7_trust_39 (by decide) ?_
        exact m_si hB hE dX7_trust_41 rfl (Or.inr (Or.inr (Or.inl (⟨by omega, rfl, rfl⟩))))
    · refine y_bipush (v := -2) hB dX7_trust_21 (by decide) ?_
      exact m_si hB hE dX7_trust_23 rfl (Or.inr (Or.inl (⟨by omega, rfl, rfl⟩)))
  · refine y_iconst (v := -1) hB dX7_trust_9 rfl ?_
    exact m_si hB hE dX7_trust_10 rfl (Or.inl (⟨by omega, rfl, rfl⟩))
set_option maxHeartbeats 4000000 in
theorem tX7_isSetting (l : Launch) (G : gG) (b : Nat) (C S : gM) (u t : Int) (hu : -2147483648 ≤ u ∧ u ≤ 2147483647) (ht : -2147483648 ≤ t ∧ t ≤ 2147483647) : Ct l G b yX7_isSetting cX7_isSetting 2 (some .boolean) rmX7_isSetting [.int (iI (u)), .int (iI (t))] 586 (wM G b C S) (RI G b C S (fun v => (v = 1 ∧ ((u = 0 ∧ 1 ≤ t ∧ t ≤ 24) ∨ (u = 1 ∧ 10 ≤ t ∧ t ≤ 200) ∨ (u = 2 ∧ 0 ≤ t ∧ t ≤ 100) ∨ (u = 3 ∧ 1 ≤ t ∧ t ≤ 3) ∨ (u = 4 ∧ 1 ≤ t ∧ t ≤ 9))) ∨ (v = 0 ∧ ¬ ((u = 0 ∧ 1 ≤ t ∧ t ≤ 24) ∨ (u = 1 ∧ 10 ≤ t ∧ t ≤ 200) ∨ (u = 2 ∧ 0 ≤ t ∧ t ≤ 100) ∨ (u = 3 ∧ 1 ≤ t ∧ t ≤ 3) ∨ (u = 4 ∧ 1 ≤ t ∧ t ≤ 9))))) := by
  refine CtK_of (by decide) (Nat.le_of_ble_eq_true rfl) q909 ?_
  intro x hl hB hE _
  subst hl
  show YM x G b 0 0 C S 0 [(0, .int (iI (u))), (1, .int (iI (t)))] []
  refine y_iload_n hB 0 dX7_isSetting_0 rfl rfl ?_
  refine y_if_ne hB 14 dX7_isSetting_1 (by decide) (by omega) (fun c_1 => ?_) (fun c_1 => ?_)
  · refine y_iload_n hB 0 dX7_isSetting_14 rfl rfl ?_
    refine y_iconst (v := 1) hB dX7_isSetting_15 rfl ?_
    refine y_icmp_ne hB 31 dX7_isSetting_16 (by decide) (by omega) (by omega) (fun c_16 => ?_) (fun c_16 => ?_)
    · refine y_iload_n hB 0 dX7_isSetting_31 rfl rfl ?_
      refine y_iconst (v := 2) hB dX7_isSetting_32 rfl ?_
      refine y_icmp_ne hB 46 dX7_isSetting_33 (by decide) (by omega) (by omega) (fun c_33 => ?_) (fun c_33 => ?_)
      · refine y_iload_n hB 0 dX7_isSetting_46 rfl rfl ?_
        refine y_iconst (v := 3) hB dX7_isSetting_47 rfl ?_
        refine y_icmp_ne hB 60 dX7_isSetting_48 (by decide) (by omega) (by omega) (fun c_48 => ?_) (fun c_48 => ?_)
        · refine y_iload_n hB 0 dX7_isSetting_60 rfl rfl ?_
          refine y_iconst (v := 4) hB dX7_isSetting_61 rfl ?_
          refine y_icmp_ne hB 79 dX7_isSetting_62 (by decide) (by omega) (by omega) (fun c_62 => ?_) (fun c_62 => ?_)
          · refine y_iconst (v := 0) hB dX7_isSetting_79 rfl ?_
            exact m_ri hB hE dX7_isSetting_80 rfl (by omega)
          · refine y_iload_n hB 1 dX7_isSetting_65 rfl rfl ?_
            refine y_iconst (v := 1) hB dX7_isSetting_66 rfl ?_
            refine y_bipush (v := 9) hB dX7_isSetting_67 (by decide) ?_
            refine m_S hB msX7_in q792 (tX7_in _ G b C S t 1 9 (by omega) (by omega) (by omega)) rfl rfl ⟨Nat.le_of_ble_eq_true rfl, Nat.le_of_ble_eq_true rfl⟩ (Nat.le_of_ble_eq_true rfl) ⟨rfl, rfl⟩ ⟨Nat.le_of_ble_eq_true rfl, Nat.le_of_ble_eq_true rfl⟩ dX7_isSetting_69 (k_RI (fun v_69 h_69 => ?_))
            refine y_if_eq hB 79 dX7_isSetting_72 (by decide) (by omega) (fun c_72 => ?_) (fun c_72 => ?_)
            · refine y_iconst (v := 0) hB dX7_isSetting_79 rfl ?_
              exact m_ri hB hE dX7_isSetting_80 rfl (by omega)
            · refine y_iconst (v := 1) hB dX7_isSetting_75 rfl ?_
              refine y_goto hB 80 dX7_isSetting_76 (by decide) ?_
              exact m_ri hB hE dX7_isSetting_80 rfl (by omega)
        · refine y_iload_n hB 1 dX7_isSetting_51 rfl rfl ?_
          refine y_iconst (v := 1) hB dX7_isSetting_52 rfl ?_
          refine y_iconst (v := 3) hB dX7_isSetting_53 rfl ?_
          refine m_S hB msX7_in q792 (tX7_in _ G b C S t 1 3 (by omega) (by omega) (by omega)) rfl rfl ⟨Nat.le_of_ble_eq_true rfl, Nat.le_of_ble_eq_true rfl⟩ (Nat.le_of_ble_eq_true rfl) ⟨rfl, rfl⟩ ⟨Nat.le_of_ble_eq_true rfl, Nat.le_of_ble_eq_true rfl⟩ dX7_isSetting_54 (k_RI (fun v_54 h_54 => ?_))
          refine y_goto hB 80 dX7_isSetting_57 (by decide) ?_
          exact m_ri hB hE dX7_isSetting_80 (by first | (rcases h_8 with g | g <;> rw [g.1] <;> rfl) | (rcases h_25 with g | g <;> rw [g.1] <;> rfl) | (rcases h_40 with g | g <;> rw [g.1] <;> rfl) | (rcases h_54 with g | g <;> rw [g.1] <;> rfl)) (by omega)
      · refine y_iload_n hB 1 dX7_isSetting_36 rfl rfl ?_
        refine y_iconst (v := 0) hB dX7_isSetting_37 rfl ?_
        refine y_bipush (v := 100) hB dX7_isSetting_38 (by decide) ?_
        refine m_S hB msX7_in q792 (tX7_in _ G b C S t 0 100 (by omega) (by omega) (by omega)) rfl rfl ⟨Nat.le_of_ble_eq_true rfl, Nat.le_of_ble_eq_true rfl⟩ (Nat.le_of_ble_eq_true rfl) ⟨rfl, rfl⟩ ⟨Nat.le_of_ble_eq_true rfl, Nat.le_of_ble_eq_true rfl⟩ dX7_isSetting_40 (k_RI (fun v_40 h_40 => ?_))
        refine y_goto hB 80 dX7_isSetting_43 (by decide) ?_
        exact m_ri hB hE dX7_isSetting_80 (by first | (rcases h_8 with g | g <;> rw [g.1] <;> rfl) | (rcases h_25 with g | g <;> rw [g.1] <;> rfl) | (rcases h_40 with g | g <;> rw [g.1] <;> rfl) | (rcases h_54 with g | g <;> rw [g.1] <;> rfl)) (by omega)
    · refine y_iload_n hB 1 dX7_isSetting_19 rfl rfl ?_
      refine y_bipush (v := 10) hB dX7_isSetting_20 (by decide) ?_
      refine y_sipush (v := 200) hB dX7_isSetting_22 (by decide) ?_
      refine m_S hB msX7_in q792 (tX7_in _ G b C S t 10 200 (by omega) (by omega) (by omega)) rfl rfl ⟨Nat.le_of_ble_eq_true rfl, Nat.le_of_ble_eq_true rfl⟩ (Nat.le_of_ble_eq_true rfl) ⟨rfl, rfl⟩ ⟨Nat.le_of_ble_eq_true rfl, Nat.le_of_ble_eq_true rfl⟩ dX7_isSetting_25 (k_RI (fun v_25 h_25 => ?_))
      refine y_goto hB 80 dX7_isSetting_28 (by decide) ?_
      exact m_ri hB hE dX7_isSetting_80 (by first | (rcases h_8 with g | g <;> rw [g.1] <;> rfl) | (rcases h_25 with g | g <;> rw [g.1] <;> rfl) | (rcases h_40 with g | g <;> rw [g.1] <;> rfl) | (rcases h_54 with g | g <;> rw [g.1] <;> rfl)) (by omega)
  · refine y_iload_n hB 1 dX7_isSetting_4 rfl rfl ?_
    refine y_iconst (v := 1) hB dX7_isSetting_5 rfl ?_
    refine y_bipush (v := 24) hB dX7_isSetting_6 (by decide) ?_
    refine m_S hB msX7_in q792 (tX7_in _ G b C S t 1 24 (by omega) (by omega) (by omega)) rfl rfl ⟨Nat.le_of_ble_eq_true rfl, Nat.le_of_ble_eq_true rfl⟩ (Nat.le_of_ble_eq_true rfl) ⟨rfl, rfl⟩ ⟨Nat.le_of_ble_eq_true rfl, Nat.le_of_ble_eq_true rfl⟩ dX7_isSetting_8 (k_RI (fun v_8 h_8 => ?_))
    refine y_goto hB 80 dX7_isSetting_11 (by decide) ?_
    exact m_ri hB hE dX7_isSetting_80 (by first | (rcases h_8 with g | g <;> rw [g.1] <;> rfl) | (rcases h_25 with g | g <;> rw [g.1] <;> rfl) | (rcases h_40 with g | g <;> rw [g.1] <;> rfl) | (rcases h_54 with g | g <;> rw [g.1] <;> rfl)) (by omega)
set_option maxHeartbeats 4000000 in
theorem tX7_set (l : Launch) (G : gG) (b : Nat) (C S : gM) (u t N : Int) (hu : -2147483648 ≤ u ∧ u ≤ 2147483647) (ht : -2147483648 ≤ t ∧ t ≤ 2147483647) (hM : MO (S 579) N) (hN : N ≤ 512) (h4 : 0 ≤ S 578 9 ∧ S 578 9 ≤ 4) : Ct l G b yX7_set cX7_set 4 (some .int) rmX7_set [.ref (ad b (578)), .int (iI (u)), .int (iI (t))] 586 (wM G b C S) (SI G b C (fun v S' => ((¬ ((u = 0 ∧ 1 ≤ t ∧ t ≤ 24) ∨ (u = 1 ∧ 10 ≤ t ∧ t ≤ 200) ∨ (u = 2 ∧ 0 ≤ t ∧ t ≤ 100) ∨ (u = 3 ∧ 1 ≤ t ∧ t ≤ 3) ∨ (u = 4 ∧ 1 ≤ t ∧ t ≤ 9))) ∧ v = -2 ∧ S' = S) ∨ ((((u = 0 ∧ 1 ≤ t ∧ t ≤ 24) ∨ (u = 1 ∧ 10 ≤ t ∧ t ≤ 200) ∨ (u = 2 ∧ 0 ≤ t ∧ t ≤ 100) ∨ (u = 3 ∧ 1 ≤ t ∧ t ≤ 3) ∨ (u = 4 ∧ 1 ≤ t ∧ t ≤ 9)) ∧ S 579 (u + 4) = t) ∧ v = -5 ∧ S' = S) ∨ ((((u = 0 ∧ 1 ≤ t ∧ t ≤ 24) ∨ (u = 1 ∧ 10 ≤ t ∧ t ≤ 200) ∨ (u = 2 ∧ 0 ≤ t ∧ t ≤ 100) ∨ (u = 3 ∧ 1 ≤ t ∧ t ≤ 3) ∨ (u = 4 ∧ 1 ≤ t ∧ t ≤ 9)) ∧ ¬ S 579 (u + 4) = t) ∧ v = S 579 (u + 4) ∧ S' = up2 (recS S) 579 (u + 4) t))) := by
  refine CtK_of (by decide) (Nat.le_of_ble_eq_true rfl) q906 ?_
  intro x hl hB hE _
  subst hl
  show YM x G b 0 0 C S 0 [(0, .ref (ad b (578))), (1, .int (iI (u))), (2, .int (iI (t)))] []
  obtain ⟨hm1, hm0, hm2, hm3, hm4, hm5, hm6, hm7, hm8, hmt, hmp, hmz⟩ := id hM
  refine y_iload_n hB 1 dX7_set_0 rfl rfl ?_
  refine y_iload_n hB 2 dX7_set_1 rfl rfl ?_
  refine m_S hB msX7_isSetting q907 (tX7_isSetting _ G b C S u t (by omega) (by omega)) rfl rfl ⟨Nat.le_of_ble_eq_true rfl, Nat.le_of_ble_eq_true rfl⟩ (Nat.le_of_ble_eq_true rfl) ⟨rfl, rfl⟩ ⟨Nat.le_of_ble_eq_true rfl, Nat.le_of_ble_eq_true rfl⟩ dX7_set_2 (k_RI (fun v_2 h_2 => ?_))
  refine y_if_ne hB 11 dX7_set_5 (by decide) (by omega) (fun c_5 => ?_) (fun c_5 => ?_)
  · have hs9 : 0 ≤ S 579 (u + 4) ∧ S 579 (u + 4) ≤ 200 := by rcases (show u = 0 ∨ u = 1 ∨ u = 2 ∨ u = 3 ∨ u = 4 by omega) with g | g | g | g | g <;> subst g <;> simp only [Int.reduceAdd] <;> omega
    refine y_aload_n hB 0 dX7_set_11 rfl rfl ?_
    refine gt_7_0 hB (by decide) (t1 := 579) (by omega) dX7_set_12 ?_
    refine y_iconst (v := 4) hB dX7_set_15 rfl ?_
    refine y_iload_n hB 1 dX7_set_16 rfl rfl ?_
    refine y_iadd (t := u + 4) hB dX7_set_17 (by omega) ?_
    refine ald_21 hB (by decide) (t1 := S 579 (u + 4)) (by omega) rfl dX7_set_18 ?_
    refine y_istore_n (lv' := [(3, .int (iI (S 579 (u + 4)))), (0, .ref (ad b (578))), (1, .int (iI (u))), (2, .int (iI (t)))]) hB dX7_set_19 rfl (by decide) rfl ?_
    refine y_iload_n hB 0 dX7_set_20 rfl rfl ?_
    refine y_iload_n hB 3 dX7_set_21 rfl rfl ?_
    refine y_icmp_ne hB 28 dX7_set_22 (by decide) (by omega) (by omega) (fun c_22 => ?_) (fun c_22 => ?_)
    · refine y_aload_n hB 1 dX7_set_28 rfl rfl ?_
      refine m_V hB msX7_record q795 (tX7_record _ G b C S (by omega)) (t := 20) (by decide) (by decide) rfl rfl rfl rfl rfl ⟨Nat.le_of_ble_eq_true rfl, Nat.le_of_ble_eq_true rfl⟩ (Nat.le_of_ble_eq_true rfl) ⟨rfl, rfl⟩ ⟨Nat.le_of_ble_eq_true rfl, Nat.le_of_ble_eq_true rfl⟩ dX7_set_29 (k_SV (fun S_29 h_29 => ?_))
      obtain rfl := h_29
      refine y_aload_n hB 1 dX7_set_32 rfl rfl ?_
      refine gt_7_0 hB (by decide) (t1 := 579) (by omega) dX7_set_33 ?_
      refine y_iconst (v := 4) hB dX7_set_36 rfl ?_
      refine y_iload_n hB 2 dX7_set_37 rfl rfl ?_
      refine y_iadd (t := u + 4) hB dX7_set_38 (by omega) ?_
      refine y_iload_n hB 3 dX7_set_39 rfl rfl ?_
      refine ast_21 hB (by decide) (by omega) dX7_set_40 ?_
      refine y_iload_n hB 0 dX7_set_41 rfl rfl ?_
      exact m_si hB hE dX7_set_42 rfl (Or.inr (Or.inr (⟨by omega, rfl, rfl⟩)))
    · refine y_bipush (v := -5) hB dX7_set_25 (by decide) ?_
      exact m_si hB hE dX7_set_27 rfl (Or.inr (Or.inl (⟨by omega, rfl, rfl⟩)))
  · refine y_bipush (v := -2) hB dX7_set_8 (by decide) ?_
    exact m_si hB hE dX7_set_10 rfl (Or.inl (⟨by omega, rfl, rfl⟩))
set_option maxHeartbeats 4000000 in
theorem tX7_inState (l : Launch) (G : gG) (b : Nat) (C S : gM) (u : Int) (hu : 0 ≤ u ∧ u ≤ 3) (h1 : 0 ≤ S 579 1 ∧ S 579 1 ≤ 20) (hst : ∀ i : Int, 0 ≤ i → i < 20 → 0 ≤ S 579 (32 * i + 18) ∧ S 579 (32 * i + 18) ≤ 3) : Ct l G b yX7_inState cX7_inState 4 (some .int) rmX7_inState [.ref (ad b (578)), .int (iI (u))] 586 (wM G b C S) (RI G b C S (fun v => v = smI (fun i => if S 579 (32 * i + 18) = u then 1 else 0) (S 579 1))) := by
  refine CtK_of (by decide) (Nat.le_of_ble_eq_true rfl) q921 ?_
  intro x hl hB hE _
  subst hl
  show YM x G b 0 0 C S 0 [(0, .ref (ad b (578))), (1, .int (iI (u)))] []
  refine y_iconst (v := 0) hB dX7_inState_0 rfl ?_
  refine y_istore_n (lv' := [(2, .int (iI (0))), (0, .ref (ad b (578))), (1, .int (iI (u)))]) hB dX7_inState_1 rfl (by decide) rfl ?_
  refine y_iconst (v := 0) hB dX7_inState_2 rfl ?_
  refine y_istore_n (lv' := [(3, .int (iI (0))), (2, .int (iI (0))), (0, .ref (ad b (578))), (1, .int (iI (u)))]) hB dX7_inState_3 rfl (by decide) rfl ?_
  have LOOP_4 : ∀ (fu : Nat) (i s : Int), (0 ≤ i ∧ i ≤ S 579 1) → (s = smI (fun i => if S 579 (32 * i + 18) = u then 1 else 0) i) → (0 ≤ s ∧ s ≤ i) → S 579 1 - i < (fu : Int) → YM x G b 0 0 C S 4 [(0, .ref (ad b (578))), (1, .int (iI (u))), (2, .int (iI (s))), (3, .int (iI (i)))] [] := by
    intro fu
    induction fu with
    | zero => intro i s hi hv hs hm_4; exfalso; omega
    | succ fu ih_4 =>
      intro i s hi hv hs hm_4
      refine y_iload_n hB 3 dX7_inState_4 rfl rfl ?_
      refine y_aload_n hB 0 dX7_inState_5 rfl rfl ?_
      refine gt_7_0 hB (by decide) (t1 := 579) (by omega) dX7_inState_6 ?_
      refine y_iconst (v := 1) hB dX7_inState_9 rfl ?_
      refine ald_21 hB (by decide) (t1 := S 579 1) (by omega) rfl dX7_inState_10 ?_
      refine y_icmp_ge hB 38 dX7_inState_11 (by decide) (by omega) (by omega) (fun c_11 => ?_) (fun c_11 => ?_)
      · refine y_iload_n hB 2 dX7_inState_38 rfl rfl ?_
        exact m_ri hB hE dX7_inState_39 rfl (by rw [hv, show i = S 579 1 by omega])
      · have hst9 := hst i hi.1 (by omega)
        refine y_iload_n hB 2 dX7_inState_14 rfl rfl ?_
        refine y_aload_n hB 0 dX7_inState_15 rfl rfl ?_
        refine y_iload_n hB 3 dX7_inState_16 rfl rfl ?_
        refine y_iconst (v := 2) hB dX7_inState_17 rfl ?_
        refine m_V hB msX7_of q842 (tX7_of _ G b C S i 2 (32 * i + 18) (S 579 (32 * i + 18)) (by omega) (by omega) rfl) (t := 20) (by decide) (by decide) rfl rfl rfl rfl rfl ⟨Nat.le_of_ble_eq_true rfl, Nat.le_of_ble_eq_true rfl⟩ (Nat.le_of_ble_eq_true rfl) ⟨rfl, rfl⟩ ⟨Nat.le_of_ble_eq_true rfl, Nat.le_of_ble_eq_true rfl⟩ dX7_inState_18 (k_RI (fun v_18 h_18 => ?_))
        obtain rfl := h_18
        refine y_iload_n hB 1 dX7_inState_21 rfl rfl ?_
        refine y_icmp_ne hB 29 dX7_inState_22 (by decide) (by omega) (by omega) (fun c_22 => ?_) (fun c_22 => ?_)
        · refine y_iconst (v := 0) hB dX7_inState_29 rfl ?_
          refine y_iadd (t := s) hB dX7_inState_30 (by omega) ?_
          refine y_istore_n (lv' := [(2, .int (iI (s))), (0, .ref (ad b (578))), (1, .int (iI (u))), (3, .int (iI (i)))]) hB dX7_inState_31 rfl (by decide) rfl ?_
          refine y_iinc (v := i + 1) (lv' := [(3, .int (iI (i + 1))), (2, .int (iI (s))), (0, .ref (ad b (578))), (1, .int (iI (u)))]) hB 3 dX7_inState_32 rfl (by omega) (by decide) rfl ?_
          refine y_goto hB 4 dX7_inState_35 (by decide) ?_
          refine y_sub (lv' := [(0, .ref (ad b (578))), (1, .int (iI (u))), (2, .int (iI (s))), (3, .int (iI (i + 1)))]) [2, 3, 1, 0] rfl ?_
          exact ih_4 (i + 1) (s) (by omega) (by rw [smI_s _ hi.1, ← hv, if_neg (by omega)]; omega) (by omega) (by omega)
        · refine y_iconst (v := 1) hB dX7_inState_25 rfl ?_
          refine y_goto hB 30 dX7_inState_26 (by decide) ?_
          refine y_iadd (t := s + 1) hB dX7_inState_30 (by omega) ?_
          refine y_istore_n (lv' := [(2, .int (iI (s + 1))), (0, .ref (ad b (578))), (1, .int (iI (u))), (3, .int (iI (i)))]) hB dX7_inState_31 rfl (by decide) rfl ?_
          refine y_iinc (v := i + 1) (lv' := [(3, .int (iI (i + 1))), (2, .int (iI (s + 1))), (0, .ref (ad b (578))), (1, .int (iI (u)))]) hB 3 dX7_inState_32 rfl (by omega) (by decide) rfl ?_
          refine y_goto hB 4 dX7_inState_35 (by decide) ?_
          refine y_sub (lv' := [(0, .ref (ad b (578))), (1, .int (iI (u))), (2, .int (iI (s + 1))), (3, .int (iI (i + 1)))]) [2, 3, 1, 0] rfl ?_
          exact ih_4 (i + 1) (s + 1) (by omega) (by rw [smI_s _ hi.1, ← hv, if_pos (by omega)]) (by omega) (by omega)
  refine y_sub (lv' := [(0, .ref (ad b (578))), (1, .int (iI (u))), (2, .int (iI (0))), (3, .int (iI (0)))]) [2, 3, 1, 0] rfl ?_
  exact LOOP_4 ((S 579 1).toNat + 1) 0 0 (by omega) (smI_0 _).symm (by omega) (by omega)
set_option maxHeartbeats 4000000 in
theorem tX7_tellDeath (l : Launch) (G : gG) (b : Nat) (C S : gM) (p q N : Int) (hp : -2147483648 ≤ p ∧ p ≤ 2147483647) (hq : -2147483648 ≤ q ∧ q ≤ 2147483647) (hM : MO (S 579) N) (hN : N ≤ 512) (h4 : 0 ≤ S 578 9 ∧ S 578 9 ≤ 4) : Ct l G b yX7_tellDeath cX7_tellDeath 4 (some .int) rmX7_tellDeath [.ref (ad b (578)), .int (iI (p)), .int (iI (q))] 586 (wM G b C S) (SI G b C (fun v S' => ((¬ (0 ≤ p ∧ p < S 579 1 ∧ 0 ≤ q ∧ q < 6)) ∧ v = -1 ∧ S' = S) ∨ (((0 ≤ p ∧ p < S 579 1 ∧ 0 ≤ q ∧ q < 6) ∧ 2 ≤ S 579 (32 * p + 18)) ∧ v = -4 ∧ S' = S) ∨ (((0 ≤ p ∧ p < S 579 1 ∧ 0 ≤ q ∧ q < 6) ∧ S 579 (32 * p + 18) = 1 ∧ S 579 (32 * p + 21) = q) ∧ v = -5 ∧ S' = S) ∨ (((0 ≤ p ∧ p < S 579 1 ∧ 0 ≤ q ∧ q < 6) ∧ S 579 (32 * p + 18) ≤ 1 ∧ ¬ (S 579 (32 * p + 18) = 1 ∧ S 579 (32 * p + 21) = q)) ∧ v = recS S 579 (32 * p + 18) ∧ S' = up2 (up2 (up2 (recS S) 579 (32 * p + 20) (recS S 579 0)) 579 (32 * p + 21) q) 579 (32 * p + 18) (recS S 579 (32 * p + 18) + 1)))) := by
  refine CtK_of (by decide) (Nat.le_of_ble_eq_true rfl) q913 ?_
  intro x hl hB hE _
  subst hl
  show YM x G b 0 0 C S 0 [(0, .ref (ad b (578))), (1, .int (iI (p))), (2, .int (iI (q)))] []
  obtain ⟨hm1, hm0, hm2, hm3, hm4, hm5, hm6, hm7, hm8, hmt, hmp, hmz⟩ := id hM
  refine y_aload_n hB 0 dX7_tellDeath_0 rfl rfl ?_
  refine y_iload_n hB 1 dX7_tellDeath_1 rfl rfl ?_
  refine m_V hB msX7_isPerson q853 (tX7_isPerson _ G b C S p (by omega) (by omega)) (t := 20) (by decide) (by decide) rfl rfl rfl rfl rfl ⟨Nat.le_of_ble_eq_true rfl, Nat.le_of_ble_eq_true rfl⟩ (Nat.le_of_ble_eq_true rfl) ⟨rfl, rfl⟩ ⟨Nat.le_of_ble_eq_true rfl, Nat.le_of_ble_eq_true rfl⟩ dX7_tellDeath_2 (k_RI (fun v_2 h_2 => ?_))
  refine y_if_eq hB 17 dX7_tellDeath_5 (by decide) (by omega) (fun c_5 => ?_) (fun c_5 => ?_)
  · refine y_iconst (v := -1) hB dX7_tellDeath_17 rfl ?_
    exact m_si hB hE dX7_tellDeath_18 rfl (Or.inl (⟨by omega, rfl, rfl⟩))
  · refine y_iload_n hB 2 dX7_tellDeath_8 rfl rfl ?_
    refine y_iconst (v := 0) hB dX7_tellDeath_9 rfl ?_
    refine y_iconst (v := 5) hB dX7_tellDeath_10 rfl ?_
    refine m_S hB msX7_in q792 (tX7_in _ G b C S q 0 5 (by omega) (by omega) (by omega)) rfl rfl ⟨Nat.le_of_ble_eq_true rfl, Nat.le_of_ble_eq_true rfl⟩ (Nat.le_of_ble_eq_true rfl) ⟨rfl, rfl⟩ ⟨Nat.le_of_ble_eq_true rfl, Nat.le_of_ble_eq_true rfl⟩ dX7_tellDeath_11 (k_RI (fun v_11 h_11 => ?_))
    refine y_if_ne hB 19 dX7_tellDeath_14 (by decide) (by omega) (fun c_14 => ?_) (fun c_14 => ?_)
    · obtain ⟨hp1, hp2, hp3, hp4, hp5, hp6, hp7, hpf⟩ := id (hmp p (by omega) (by omega))
      refine y_iload_n hB 1 dX7_tellDeath_19 rfl rfl ?_
      refine m_S hB msX7_p q803 (tX7_p _ G b C S p (32 * p + 16) (by omega)) rfl rfl ⟨Nat.le_of_ble_eq_true rfl, Nat.le_of_ble_eq_true rfl⟩ (Nat.le_of_ble_eq_true rfl) ⟨rfl, rfl⟩ ⟨Nat.le_of_ble_eq_true rfl, Nat.le_of_ble_eq_true rfl⟩ dX7_tellDeath_20 (k_RI (fun v_20 h_20 => ?_))
      obtain rfl := h_20
      refine y_istore_n (lv' := [(3, .int (iI (32 * p + 16))), (0, .ref (ad b (578))), (1, .int (iI (p))), (2, .int (iI (q)))]) hB dX7_tellDeath_23 rfl (by decide) rfl ?_
      refine y_aload_n hB 1 dX7_tellDeath_24 rfl rfl ?_
      refine gt_7_0 hB (by decide) (t1 := 579) (by omega) dX7_tellDeath_25 ?_
      refine y_iload_n hB 0 dX7_tellDeath_28 rfl rfl ?_
      refine y_iconst (v := 2) hB dX7_tellDeath_29 rfl ?_
      refine y_iadd (t := 32 * p + 18) hB dX7_tellDeath_30 (by omega) ?_
      refine ald_21 hB (by decide) (t1 := S 579 (32 * p + 18)) (by omega) rfl dX7_tellDeath_31 ?_
      refine y_iconst (v := 1) hB dX7_tellDeath_32 rfl ?_
      refine y_icmp_le hB 39 dX7_tellDeath_33 (by decide) (by omega) (by omega) (fun c_33 => ?_) (fun c_33 => ?_)
      · refine y_aload_n hB 1 dX7_tellDeath_39 rfl rfl ?_
        refine gt_7_0 hB (by decide) (t1 := 579) (by omega) dX7_tellDeath_40 ?_
        refine y_iload_n hB 0 dX7_tellDeath_43 rfl rfl ?_
        refine y_iconst (v := 2) hB dX7_tellDeath_44 rfl ?_
        refine y_iadd (t := 32 * p + 18) hB dX7_tellDeath_45 (by omega) ?_
        refine ald_21 hB (by decide) (t1 := S 579 (32 * p + 18)) (by omega) rfl dX7_tellDeath_46 ?_
        refine y_iconst (v := 1) hB dX7_tellDeath_47 rfl ?_
        refine y_icmp_ne hB 66 dX7_tellDeath_48 (by decide) (by omega) (by omega) (fun c_48 => ?_) (fun c_48 => ?_)
        · refine y_aload_n hB 1 dX7_tellDeath_66 rfl rfl ?_
          refine m_V hB msX7_record q795 (tX7_record _ G b C S (by omega)) (t := 20) (by decide) (by decide) rfl rfl rfl rfl rfl ⟨Nat.le_of_ble_eq_true rfl, Nat.le_of_ble_eq_true rfl⟩ (Nat.le_of_ble_eq_true rfl) ⟨rfl, rfl⟩ ⟨Nat.le_of_ble_eq_true rfl, Nat.le_of_ble_eq_true rfl⟩ dX7_tellDeath_67 (k_SV (fun S_67 h_67 => ?_))
          obtain rfl := h_67
          have er : (recS S) 579 = S 579 := recS_out (by omega)
          have er0 : (recS S) 579 0 = S 579 0 := by rw [er]
          have er1 : (recS S) 579 (32 * p + 18) = S 579 (32 * p + 18) := by rw [er]
          refine y_aload_n hB 1 dX7_tellDeath_70 rfl rfl ?_
          refine gt_7_0 hB (by decide) (t1 := 579) (by omega) dX7_tellDeath_71 ?_
          refine y_iload_n hB 0 dX7_tellDeath_74 rfl rfl ?_
          refine y_iconst (v := 4) hB dX7_tellDeath_75 rfl ?_
          refine y_iadd (t := 32 * p + 20) hB dX7_tellDeath_76 (by omega) ?_
          refine y_aload_n hB 1 dX7_tellDeath_77 rfl rfl ?_
          refine gt_7_0 hB (by decide) (t1 := 579) (by omega) dX7_tellDeath_78 ?_
          refine y_iconst (v := 0) hB dX7_tellDeath_81 rfl ?_
          refine ald_21 hB (by decide) (t1 := (recS S) 579 0) (by omega) rfl dX7_tellDeath_82 ?_
          refine ast_21 hB (by decide) (by omega) dX7_tellDeath_83 ?_
          refine y_aload_n hB 1 dX7_tellDeath_84 rfl rfl ?_
          refine gt_7_0 hB (by decide) (t1 := 579) (by omega) dX7_tellDeath_85 ?_
          refine y_iload_n hB 0 dX7_tellDeath_88 rfl rfl ?_
          refine y_iconst (v := 5) hB dX7_tellDeath_89 rfl ?_
          refine y_iadd (t := 32 * p + 21) hB dX7_tellDeath_90 (by omega) ?_
          refine y_iload_n hB 3 dX7_tellDeath_91 rfl rfl ?_
          refine ast_21 hB (by decide) (by omega) dX7_tellDeath_92 ?_
          refine y_aload_n hB 1 dX7_tellDeath_93 rfl rfl ?_
          refine gt_7_0 hB (by decide) (t1 := 579) (by omega) dX7_tellDeath_94 ?_
          refine y_iload_n hB 0 dX7_tellDeath_97 rfl rfl ?_
          refine y_iconst (v := 2) hB dX7_tellDeath_98 rfl ?_
          refine y_iadd (t := 32 * p + 18) hB dX7_tellDeath_99 (by omega) ?_
          refine y_dup2 hB dX7_tellDeath_100 rfl rfl ?_
          refine ald_21 hB (by decide) (t1 := (recS S) 579 (32 * p + 18)) (by omega) ((rd_i (by omega)).trans (rd_i (by omega))) dX7_tellDeath_101 ?_
          refine y_iconst (v := 1) hB dX7_tellDeath_102 rfl ?_
          refine y_iadd (t := ((recS S) 579 (32 * p + 18)) + 1) hB dX7_tellDeath_103 (by omega) ?_
          refine ast_21 hB (by decide) (by omega) dX7_tellDeath_104 ?_
          refine y_aload_n hB 1 dX7_tellDeath_105 rfl rfl ?_
          refine gt_7_0 hB (by decide) (t1 := 579) (by omega) dX7_tellDeath_106 ?_
          refine y_iload_n hB 0 dX7_tellDeath_109 rfl rfl ?_
          refine y_iconst (v := 2) hB dX7_tellDeath_110 rfl ?_
          refine y_iadd (t := 32 * p + 18) hB dX7_tellDeath_111 (by omega) ?_
          refine ald_21 hB (by decide) (t1 := ((recS S) 579 (32 * p + 18)) + 1) (by omega) (rd_hit (by omega) (by omega)) dX7_tellDeath_112 ?_
          refine y_iconst (v := 1) hB dX7_tellDeath_113 rfl ?_
          refine y_isub (t := (((recS S) 579 (32 * p + 18)))) hB dX7_tellDeath_114 (by omega) ?_
          exact m_si hB hE dX7_tellDeath_115 rfl (Or.inr (Or.inr (Or.inr (⟨by omega, by omega, rfl⟩))))
        · refine y_aload_n hB 1 dX7_tellDeath_51 rfl rfl ?_
          refine gt_7_0 hB (by decide) (t1 := 579) (by omega) dX7_tellDeath_52 ?_
          refine y_iload_n hB 0 dX7_tellDeath_55 rfl rfl ?_
          refine y_iconst (v := 5) hB dX7_tellDeath_56 rfl ?_
          refine y_iadd (t := 32 * p + 21) hB dX7_tellDeath_57 (by omega) ?_
          refine ald_21 hB (by decide) (t1 := S 579 (32 * p + 21)) (by omega) rfl dX7_tellDeath_58 ?_
          refine y_iload_n hB 3 dX7_tellDeath_59 rfl rfl ?_
          refine y_icmp_ne hB 66 dX7_tellDeath_60 (by decide) (by omega) (by omega) (fun c_60 => ?_) (fun c_60 => ?_)
          · refine y_aload_n hB 1 dX7_tellDeath_66 rfl rfl ?_
            refine m_V hB msX7_record q795 (tX7_record _ G b C S (by omega)) (t := 20) (by decide) (by decide) rfl rfl rfl rfl rfl ⟨Nat.le_of_ble_eq_true rfl, Nat.le_of_ble_eq_true rfl⟩ (Nat.le_of_ble_eq_true rfl) ⟨rfl, rfl⟩ ⟨Nat.le_of_ble_eq_true rfl, Nat.le_of_ble_eq_true rfl⟩ dX7_tellDeath_67 (k_SV (fun S_67 h_67 => ?_))
            obtain rfl := h_67
            have er : (recS S) 579 = S 579 := recS_out (by omega)
            have er0 : (recS S) 579 0 = S 579 0 := by rw [er]
            have er1 : (recS S) 579 (32 * p + 18) = S 579 (32 * p + 18) := by rw [er]
            refine y_aload_n hB 1 dX7_tellDeath_70 rfl rfl ?_
            refine gt_7_0 hB (by decide) (t1 := 579) (by omega) dX7_tellDeath_71 ?_
            refine y_iload_n hB 0 dX7_tellDeath_74 rfl rfl ?_
            refine y_iconst (v := 4) hB dX7_tellDeath_75 rfl ?_
            refine y_iadd (t := 32 * p + 20) hB dX7_tellDeath_76 (by omega) ?_
            refine y_aload_n hB 1 dX7_tellDeath_77 rfl rfl ?_
            refine gt_7_0 hB (by decide) (t1 := 579) (by omega) dX7_tellDeath_78 ?_
            refine y_iconst (v := 0) hB dX7_tellDeath_81 rfl ?_
            refine ald_21 hB (by decide) (t1 := (recS S) 579 0) (by omega) rfl dX7_tellDeath_82 ?_
            refine ast_21 hB (by decide) (by omega) dX7_tellDeath_83 ?_
            refine y_aload_n hB 1 dX7_tellDeath_84 rfl rfl ?_
            refine gt_7_0 hB (by decide) (t1 := 579) (by omega) dX7_tellDeath_85 ?_
            refine y_iload_n hB 0 dX7_tellDeath_88 rfl rfl ?_
            refine y_iconst (v := 5) hB dX7_tellDeath_89 rfl ?_
            refine y_iadd (t := 32 * p + 21) hB dX7_tellDeath_90 (by omega) ?_
            refine y_iload_n hB 3 dX7_tellDeath_91 rfl rfl ?_
            refine ast_21 hB (by decide) (by omega) dX7_tellDeath_92 ?_
            refine y_aload_n hB 1 dX7_tellDeath_93 rfl rfl ?_
            refine gt_7_0 hB (by decide) (t1 := 579) (by omega) dX7_tellDeath_94 ?_
            refine y_iload_n hB 0 dX7_tellDeath_97 rfl rfl ?_
            refine y_iconst (v := 2) hB dX7_tellDeath_98 rfl ?_
            refine y_iadd (t := 32 * p + 18) hB dX7_tellDeath_99 (by omega) ?_
            refine y_dup2 hB dX7_tellDeath_100 rfl rfl ?_
            refine ald_21 hB (by decide) (t1 := (recS S) 579 (32 * p + 18)) (by omega) ((rd_i (by omega)).trans (rd_i (by omega))) dX7_tellDeath_101 ?_
            refine y_iconst (v := 1) hB dX7_tellDeath_102 rfl ?_
            refine y_iadd (t := ((recS S) 579 (32 * p + 18)) + 1) hB dX7_tellDeath_103 (by omega) ?_
            refine ast_21 hB (by decide) (by omega) dX7_tellDeath_104 ?_
            refine y_aload_n hB 1 dX7_tellDeath_105 rfl rfl ?_
            refine gt_7_0 hB (by decide) (t1 := 579) (by omega) dX7_tellDeath_106 ?_
            refine y_iload_n hB 0 dX7_tellDeath_109 rfl rfl ?_
            refine y_iconst (v := 2) hB dX7_tellDeath_110 rfl ?_
            refine y_iadd (t := 32 * p + 18) hB dX7_tellDeath_111 (by omega) ?_
            refine ald_21 hB (by decide) (t1 := ((recS S) 579 (32 * p + 18)) + 1) (by omega) (rd_hit (by omega) (by omega)) dX7_tellDeath_112 ?_
            refine y_iconst (v := 1) hB dX7_tellDeath_113 rfl ?_
            refine y_isub (t := (((recS S) 579 (32 * p + 18)))) hB dX7_tellDeath_114 (by omega) ?_
            exact m_si hB hE dX7_tellDeath_115 rfl (Or.inr (Or.inr (Or.inr (⟨by omega, by omega, rfl⟩))))
          · refine y_bipush (v := -5) hB dX7_tellDeath_63 (by decide) ?_
            exact m_si hB hE dX7_tellDeath_65 rfl (Or.inr (Or.inr (Or.inl (⟨by omega, rfl, rfl⟩))))
      · refine y_bipush (v := -4) hB dX7_tellDeath_36 (by decide) ?_
        exact m_si hB hE dX7_tellDeath_38 rfl (Or.inr (Or.inl (⟨by omega, rfl, rfl⟩)))
    · refine y_iconst (v := -1) hB dX7_tellDeath_17 rfl ?_
      exact m_si hB hE dX7_tellDeath_18 rfl (Or.inl (⟨by omega, rfl, rfl⟩))
set_option maxHeartbeats 4000000 in
theorem tX7_decide (l : Launch) (G : gG) (b : Nat) (C S : gM) (p t N : Int) (hp : -2147483648 ≤ p ∧ p ≤ 2147483647) (ht : t = 0 ∨ t = 1) (hM : MO (S 579) N) (hN : N ≤ 512) (h4 : 0 ≤ S 578 9 ∧ S 578 9 ≤ 4) : Ct l G b yX7_decide cX7_decide 4 (some .int) rmX7_decide [.ref (ad b (578)), .int (iI (p)), .int (iI (t))] 586 (wM G b C S) (SI G b C (fun v S' => ((¬ (0 ≤ p ∧ p < S 579 1)) ∧ v = -1 ∧ S' = S) ∨ (((0 ≤ p ∧ p < S 579 1) ∧ ¬ S 579 (32 * p + 18) = 1) ∧ v = -4 ∧ S' = S) ∨ (((0 ≤ p ∧ p < S 579 1) ∧ S 579 (32 * p + 18) = 1 ∧ t = 1) ∧ v = smI (fun i => if up2 (up2 (recS S) 579 (32 * p + 18) 2) 579 (32 * p + 20) (recS S 579 0) 579 (32 * i + 18) = 1 then 1 else 0) (up2 (up2 (recS S) 579 (32 * p + 18) 2) 579 (32 * p + 20) (recS S 579 0) 579 1) ∧ S' = up2 (up2 (recS S) 579 (32 * p + 18) 2) 579 (32 * p + 20) (recS S 579 0)) ∨ (((0 ≤ p ∧ p < S 579 1) ∧ S 579 (32 * p + 18) = 1 ∧ t = 0) ∧ v = smI (fun i => if up2 (up2 (recS S) 579 (32 * p + 18) 0) 579 (32 * p + 20) (recS S 579 0) 579 (32 * i + 18) = 1 then 1 else 0) (up2 (up2 (recS S) 579 (32 * p + 18) 0) 579 (32 * p + 20) (recS S 579 0) 579 1) ∧ S' = up2 (up2 (recS S) 579 (32 * p + 18) 0) 579 (32 * p + 20) (recS S 579 0)))) := by
  refine CtK_of (by decide) (Nat.le_of_ble_eq_true rfl) q917 ?_
  intro x hl hB hE _
  subst hl
  show YM x G b 0 0 C S 0 [(0, .ref (ad b (578))), (1, .int (iI (p))), (2, .int (iI (t)))] []
  obtain ⟨hm1, hm0, hm2, hm3, hm4, hm5, hm6, hm7, hm8, hmt, hmp, hmz⟩ := id hM
  refine y_aload_n hB 0 dX7_decide_0 rfl rfl ?_
  refine y_iload_n hB 1 dX7_decide_1 rfl rfl ?_
  refine m_V hB msX7_isPerson q853 (tX7_isPerson _ G b C S p (by omega) (by omega)) (t := 20) (by decide) (by decide) rfl rfl rfl rfl rfl ⟨Nat.le_of_ble_eq_true rfl, Nat.le_of_ble_eq_true rfl⟩ (Nat.le_of_ble_eq_true rfl) ⟨rfl, rfl⟩ ⟨Nat.le_of_ble_eq_true rfl, Nat.le_of_ble_eq_true rfl⟩ dX7_decide_2 (k_RI (fun v_2 h_2 => ?_))
  refine y_if_ne hB 10 dX7_decide_5 (by decide) (by omega) (fun c_5 => ?_) (fun c_5 => ?_)
  · obtain ⟨hp1, hp2, hp3, hp4, hp5, hp6, hp7, hpf⟩ := id (hmp p (by omega) (by omega))
    refine y_iload_n hB 1 dX7_decide_10 rfl rfl ?_
    refine m_S hB msX7_p q803 (tX7_p _ G b C S p (32 * p + 16) (by omega)) rfl rfl ⟨Nat.le_of_ble_eq_true rfl, Nat.le_of_ble_eq_true rfl⟩ (Nat.le_of_ble_eq_true rfl) ⟨rfl, rfl⟩ ⟨Nat.le_of_ble_eq_true rfl, Nat.le_of_ble_eq_true rfl⟩ dX7_decide_11 (k_RI (fun v_11 h_11 => ?_))
    obtain rfl := h_11
    refine y_istore_n (lv' := [(3, .int (iI (32 * p + 16))), (0, .ref (ad b (578))), (1, .int (iI (p))), (2, .int (iI (t)))]) hB dX7_decide_14 rfl (by decide) rfl ?_
    refine y_aload_n hB 1 dX7_decide_15 rfl rfl ?_
    refine gt_7_0 hB (by decide) (t1 := 579) (by omega) dX7_decide_16 ?_
    refine y_iload_n hB 0 dX7_decide_19 rfl rfl ?_
    refine y_iconst (v := 2) hB dX7_decide_20 rfl ?_
    refine y_iadd (t := 32 * p + 18) hB dX7_decide_21 (by omega) ?_
    refine ald_21 hB (by decide) (t1 := S 579 (32 * p + 18)) (by omega) rfl dX7_decide_22 ?_
    refine y_iconst (v := 1) hB dX7_decide_23 rfl ?_
    refine y_icmp_eq hB 30 dX7_decide_24 (by decide) (by omega) (by omega) (fun c_24 => ?_) (fun c_24 => ?_)
    · refine y_aload_n hB 1 dX7_decide_30 rfl rfl ?_
      refine m_V hB msX7_record q795 (tX7_record _ G b C S (by omega)) (t := 20) (by decide) (by decide) rfl rfl rfl rfl rfl ⟨Nat.le_of_ble_eq_true rfl, Nat.le_of_ble_eq_true rfl⟩ (Nat.le_of_ble_eq_true rfl) ⟨rfl, rfl⟩ ⟨Nat.le_of_ble_eq_true rfl, Nat.le_of_ble_eq_true rfl⟩ dX7_decide_31 (k_SV (fun S_31 h_31 => ?_))
      obtain rfl := h_31
      have er : (recS S) 579 = S 579 := recS_out (by omega)
      have er0 : (recS S) 579 0 = S 579 0 := by rw [er]
      have er1 : (recS S) 579 1 = S 579 1 := by rw [er]
      refine y_aload_n hB 1 dX7_decide_34 rfl rfl ?_
      refine gt_7_0 hB (by decide) (t1 := 579) (by omega) dX7_decide_35 ?_
      refine y_iload_n hB 0 dX7_decide_38 rfl rfl ?_
      refine y_iconst (v := 2) hB dX7_decide_39 rfl ?_
      refine y_iadd (t := 32 * p + 18) hB dX7_decide_40 (by omega) ?_
      refine y_iload_n hB 3 dX7_decide_41 rfl rfl ?_
      refine y_if_eq hB 49 dX7_decide_42 (by decide) (by omega) (fun c_42 => ?_) (fun c_42 => ?_)
      · refine y_iconst (v := 0) hB dX7_decide_49 rfl ?_
        refine ast_21 hB (by decide) (by omega) dX7_decide_50 ?_
        refine y_aload_n hB 1 dX7_decide_51 rfl rfl ?_
        refine gt_7_0 hB (by decide) (t1 := 579) (by omega) dX7_decide_52 ?_
        refine y_iload_n hB 0 dX7_decide_55 rfl rfl ?_
        refine y_iconst (v := 4) hB dX7_decide_56 rfl ?_
        refine y_iadd (t := 32 * p + 20) hB dX7_decide_57 (by omega) ?_
        refine y_aload_n hB 1 dX7_decide_58 rfl rfl ?_
        refine gt_7_0 hB (by decide) (t1 := 579) (by omega) dX7_decide_59 ?_
        refine y_iconst (v := 0) hB dX7_decide_62 rfl ?_
        refine ald_21 hB (by decide) (t1 := (recS S) 579 0) (by omega) (rd_i (by omega)) dX7_decide_63 ?_
        refine ast_21 hB (by decide) (by omega) dX7_decide_64 ?_
        refine y_aload_n hB 1 dX7_decide_65 rfl rfl ?_
        refine y_iconst (v := 1) hB dX7_decide_66 rfl ?_
        have hst9 := mst_up (p := p) (x := 0) (d := (recS S) 579 0) (D := recS S) (by rw [er]; exact MO_st hM) (by omega)
        refine m_V hB msX7_inState q918 (tX7_inState _ G b C (up2 (up2 (recS S) 579 (32 * p + 18) 0) 579 (32 * p + 20) ((recS S) 579 0)) 1 (by omega) (by have h9 : (up2 (up2 (recS S) 579 (32 * p + 18) 0) 579 (32 * p + 20) ((recS S) 579 0)) 579 1 = (recS S) 579 1 := ((rd_i (by omega)).trans (rd_i (by omega))); omega) hst9) (t := 20) (by decide) (by decide) rfl rfl rfl rfl rfl ⟨Nat.le_of_ble_eq_true rfl, Nat.le_of_ble_eq_true rfl⟩ (Nat.le_of_ble_eq_true rfl) ⟨rfl, rfl⟩ ⟨Nat.le_of_ble_eq_true rfl, Nat.le_of_ble_eq_true rfl⟩ dX7_decide_67 (k_RI (fun v_67 h_67 => ?_))
        exact m_si hB hE dX7_decide_70 rfl (Or.inr (Or.inr (Or.inr (⟨by omega, h_67, rfl⟩))))
      · refine y_iconst (v := 2) hB dX7_decide_45 rfl ?_
        refine y_goto hB 50 dX7_decide_46 (by decide) ?_
        refine ast_21 hB (by decide) (by omega) dX7_decide_50 ?_
        refine y_aload_n hB 1 dX7_decide_51 rfl rfl ?_
        refine gt_7_0 hB (by decide) (t1 := 579) (by omega) dX7_decide_52 ?_
        refine y_iload_n hB 0 dX7_decide_55 rfl rfl ?_
        refine y_iconst (v := 4) hB dX7_decide_56 rfl ?_
        refine y_iadd (t := 32 * p + 20) hB dX7_decide_57 (by omega) ?_
        refine y_aload_n hB 1 dX7_decide_58 rfl rfl ?_
        refine gt_7_0 hB (by decide) (t1 := 579) (by omega) dX7_decide_59 ?_
        refine y_iconst (v := 0) hB dX7_decide_62 rfl ?_
        refine ald_21 hB (by decide) (t1 := (recS S) 579 0) (by omega) (rd_i (by omega)) dX7_decide_63 ?_
        refine ast_21 hB (by decide) (by omega) dX7_decide_64 ?_
        refine y_aload_n hB 1 dX7_decide_65 rfl rfl ?_
        refine y_iconst (v := 1) hB dX7_decide_66 rfl ?_
        have hst9 := mst_up (p := p) (x := 2) (d := (recS S) 579 0) (D := recS S) (by rw [er]; exact MO_st hM) (by omega)
        refine m_V hB msX7_inState q918 (tX7_inState _ G b C (up2 (up2 (recS S) 579 (32 * p + 18) 2) 579 (32 * p + 20) ((recS S) 579 0)) 1 (by omega) (by have h9 : (up2 (up2 (recS S) 579 (32 * p + 18) 2) 579 (32 * p + 20) ((recS S) 579 0)) 579 1 = (recS S) 579 1 := ((rd_i (by omega)).trans (rd_i (by omega))); omega) hst9) (t := 20) (by decide) (by decide) rfl rfl rfl rfl rfl ⟨Nat.le_of_ble_eq_true rfl, Nat.le_of_ble_eq_true rfl⟩ (Nat.le_of_ble_eq_true rfl) ⟨rfl, rfl⟩ ⟨Nat.le_of_ble_eq_true rfl, Nat.le_of_ble_eq_true rfl⟩ dX7_decide_67 (k_RI (fun v_67 h_67 => ?_))
        exact m_si hB hE dX7_decide_70 rfl (Or.inr (Or.inr (Or.inl (⟨by omega, h_67, rfl⟩))))
    · refine y_bipush (v := -4) hB dX7_decide_27 (by decide) ?_
      exact m_si hB hE dX7_decide_29 rfl (Or.inr (Or.inl (⟨by omega, rfl, rfl⟩)))
  · refine y_iconst (v := -1) hB dX7_decide_8 rfl ?_
    exact m_si hB hE dX7_decide_9 rfl (Or.inl (⟨by omega, rfl, rfl⟩))
set_option maxHeartbeats 4000000 in
theorem tX7_correct (l : Launch) (G : gG) (b : Nat) (C S : gM) (p q z N : Int) (hp : -2147483648 ≤ p ∧ p ≤ 2147483647) (hq : -2147483648 ≤ q ∧ q ≤ 2147483647) (hz : -2147483648 ≤ z ∧ z ≤ 2147483647) (hM : MO (S 579) N) (hN : N ≤ 512) (h4 : 0 ≤ S 578 9 ∧ S 578 9 ≤ 4) : Ct l G b yX7_correct cX7_correct 4 (some .int) rmX7_correct [.ref (ad b (578)), .int (iI (p)), .int (iI (q)), .int (iI (z))] 586 (wM G b C S) (SI G b C (fun v S' => ((¬ (0 ≤ p ∧ p < S 579 1 ∧ 0 ≤ q ∧ q < S 579 (32 * p + 19) ∧ 0 ≤ z ∧ z < 6)) ∧ v = -1 ∧ S' = S) ∨ (((0 ≤ p ∧ p < S 579 1 ∧ 0 ≤ q ∧ q < S 579 (32 * p + 19) ∧ 0 ≤ z ∧ z < 6) ∧ ¬ S 579 (32 * p + 18) = 3) ∧ v = -4 ∧ S' = S) ∨ (((0 ≤ p ∧ p < S 579 1 ∧ 0 ≤ q ∧ q < S 579 (32 * p + 19) ∧ 0 ≤ z ∧ z < 6) ∧ S 579 (32 * p + 18) = 3 ∧ S 579 (32 * p + 3 * q + 24) = z) ∧ v = -5 ∧ S' = S) ∨ (((0 ≤ p ∧ p < S 579 1 ∧ 0 ≤ q ∧ q < S 579 (32 * p + 19) ∧ 0 ≤ z ∧ z < 6) ∧ S 579 (32 * p + 18) = 3 ∧ ¬ S 579 (32 * p + 3 * q + 24) = z) ∧ v = recS S 579 3 + 1 ∧ S' = up2 (up2 (recS S) 579 (32 * p + 3 * q + 24) z) 579 3 (recS S 579 3 + 1)))) := by
  refine CtK_of (by decide) (Nat.le_of_ble_eq_true rfl) q949 ?_
  intro x hl hB hE _
  subst hl
  show YM x G b 0 0 C S 0 [(0, .ref (ad b (578))), (1, .int (iI (p))), (2, .int (iI (q))), (3, .int (iI (z)))] []
  obtain ⟨hm1, hm0, hm2, hm3, hm4, hm5, hm6, hm7, hm8, hmt, hmp, hmz⟩ := id hM
  refine y_aload_n hB 0 dX7_correct_0 rfl rfl ?_
  refine y_iload_n hB 1 dX7_correct_1 rfl rfl ?_
  refine y_iload_n hB 2 dX7_correct_2 rfl rfl ?_
  refine m_V hB msX7_isFact q861 (tX7_isFact _ G b C S p q N (by omega) (by omega) hM hN) (t := 20) (by decide) (by decide) rfl rfl rfl rfl rfl ⟨Nat.le_of_ble_eq_true rfl, Nat.le_of_ble_eq_true rfl⟩ (Nat.le_of_ble_eq_true rfl) ⟨rfl, rfl⟩ ⟨Nat.le_of_ble_eq_true rfl, Nat.le_of_ble_eq_true rfl⟩ dX7_correct_3 (k_RI (fun v_3 h_3 => ?_))
  refine y_if_eq hB 18 dX7_correct_6 (by decide) (by omega) (fun c_6 => ?_) (fun c_6 => ?_)
  · refine y_iconst (v := -1) hB dX7_correct_18 rfl ?_
    exact m_si hB hE dX7_correct_19 rfl (Or.inl (⟨by omega, rfl, rfl⟩))
  · refine y_iload_n hB 3 dX7_correct_9 rfl rfl ?_
    refine y_iconst (v := 0) hB dX7_correct_10 rfl ?_
    refine y_iconst (v := 5) hB dX7_correct_11 rfl ?_
    refine m_S hB msX7_in q792 (tX7_in _ G b C S z 0 5 (by omega) (by omega) (by omega)) rfl rfl ⟨Nat.le_of_ble_eq_true rfl, Nat.le_of_ble_eq_true rfl⟩ (Nat.le_of_ble_eq_true rfl) ⟨rfl, rfl⟩ ⟨Nat.le_of_ble_eq_true rfl, Nat.le_of_ble_eq_true rfl⟩ dX7_correct_12 (k_RI (fun v_12 h_12 => ?_))
    refine y_if_ne hB 20 dX7_correct_15 (by decide) (by omega) (fun c_15 => ?_) (fun c_15 => ?_)
    · obtain ⟨hp1, hp2, hp3, hp4, hp5, hp6, hp7, hpf⟩ := id (hmp p (by omega) (by omega))
      have hf := hpf q (by omega) (by omega)
      refine y_aload_n hB 0 dX7_correct_20 rfl rfl ?_
      refine y_iload_n hB 1 dX7_correct_21 rfl rfl ?_
      refine y_iconst (v := 2) hB dX7_correct_22 rfl ?_
      refine m_V hB msX7_of q842 (tX7_of _ G b C S p 2 (32 * p + 18) (S 579 (32 * p + 18)) (by omega) (by omega) rfl) (t := 20) (by decide) (by decide) rfl rfl rfl rfl rfl ⟨Nat.le_of_ble_eq_true rfl, Nat.le_of_ble_eq_true rfl⟩ (Nat.le_of_ble_eq_true rfl) ⟨rfl, rfl⟩ ⟨Nat.le_of_ble_eq_true rfl, Nat.le_of_ble_eq_true rfl⟩ dX7_correct_23 (k_RI (fun v_23 h_23 => ?_))
      obtain rfl := h_23
      refine y_iconst (v := 3) hB dX7_correct_26 rfl ?_
      refine y_icmp_eq hB 33 dX7_correct_27 (by decide) (by omega) (by omega) (fun c_27 => ?_) (fun c_27 => ?_)
      · refine y_aload_n hB 0 dX7_correct_33 rfl rfl ?_
        refine gt_7_0 hB (by decide) (t1 := 579) (by omega) dX7_correct_34 ?_
        refine y_iload_n hB 1 dX7_correct_37 rfl rfl ?_
        refine y_iload_n hB 2 dX7_correct_38 rfl rfl ?_
        refine m_S hB msX7_f q846 (tX7_f _ G b C S p q (32 * p + 3 * q + 24) (by omega)) rfl rfl ⟨Nat.le_of_ble_eq_true rfl, Nat.le_of_ble_eq_true rfl⟩ (Nat.le_of_ble_eq_true rfl) ⟨rfl, rfl⟩ ⟨Nat.le_of_ble_eq_true rfl, Nat.le_of_ble_eq_true rfl⟩ dX7_correct_39 (k_RI (fun v_39 h_39 => ?_))
        obtain rfl := h_39
        refine ald_21 hB (by decide) (t1 := S 579 (32 * p + 3 * q + 24)) (by omega) rfl dX7_correct_42 ?_
        refine y_iload_n hB 3 dX7_correct_43 rfl rfl ?_
        refine y_icmp_ne hB 50 dX7_correct_44 (by decide) (by omega) (by omega) (fun c_44 => ?_) (fun c_44 => ?_)
        · refine y_aload_n hB 0 dX7_correct_50 rfl rfl ?_
          refine m_V hB msX7_record q795 (tX7_record _ G b C S (by omega)) (t := 20) (by decide) (by decide) rfl rfl rfl rfl rfl ⟨Nat.le_of_ble_eq_true rfl, Nat.le_of_ble_eq_true rfl⟩ (Nat.le_of_ble_eq_true rfl) ⟨rfl, rfl⟩ ⟨Nat.le_of_ble_eq_true rfl, Nat.le_of_ble_eq_true rfl⟩ dX7_correct_51 (k_SV (fun S_51 h_51 => ?_))
          obtain rfl := h_51
          have er : (recS S) 579 = S 579 := recS_out (by omega)
          have er0 : (recS S) 579 3 = S 579 3 := by rw [er]
          refine y_aload_n hB 0 dX7_correct_54 rfl rfl ?_
          refine gt_7_0 hB (by decide) (t1 := 579) (by omega) dX7_correct_55 ?_
          refine y_iload_n hB 1 dX7_correct_58 rfl rfl ?_
          refine y_iload_n hB 2 dX7_correct_59 rfl rfl ?_
          refine m_S hB msX7_f q846 (tX7_f _ G b C (recS S) p q (32 * p + 3 * q + 24) (by omega)) rfl rfl ⟨Nat.le_of_ble_eq_true rfl, Nat.le_of_ble_eq_true rfl⟩ (Nat.le_of_ble_eq_true rfl) ⟨rfl, rfl⟩ ⟨Nat.le_of_ble_eq_true rfl, Nat.le_of_ble_eq_true rfl⟩ dX7_correct_60 (k_RI (fun v_60 h_60 => ?_))
          obtain rfl := h_60
          refine y_iload_n hB 3 dX7_correct_63 rfl rfl ?_
          refine ast_21 hB (by decide) (by omega) dX7_correct_64 ?_
          refine y_aload_n hB 0 dX7_correct_65 rfl rfl ?_
          refine gt_7_0 hB (by decide) (t1 := 579) (by omega) dX7_correct_66 ?_
          refine y_iconst (v := 3) hB dX7_correct_69 rfl ?_
          refine y_dup2 hB dX7_correct_70 rfl rfl ?_
          refine ald_21 hB (by decide) (t1 := (recS S) 579 3) (by omega) (rd_i (by omega)) dX7_correct_71 ?_
          refine y_iconst (v := 1) hB dX7_correct_72 rfl ?_
          refine y_iadd (t := (recS S) 579 3 + 1) hB dX7_correct_73 (by omega) ?_
          refine ast_21 hB (by decide) (by omega) dX7_correct_74 ?_
          refine y_aload_n hB 0 dX7_correct_75 rfl rfl ?_
          refine gt_7_0 hB (by decide) (t1 := 579) (by omega) dX7_correct_76 ?_
          refine y_iconst (v := 3) hB dX7_correct_79 rfl ?_
          refine ald_21 hB (by decide) (t1 := (recS S) 579 3 + 1) (by omega) (rd_hit (by omega) (by omega)) dX7_correct_80 ?_
          exact m_si hB hE dX7_correct_81 rfl (Or.inr (Or.inr (Or.inr (⟨by omega, rfl, rfl⟩))))
        · refine y_bipush (v := -5) hB dX7_correct_47 (by decide) ?_
          exact m_si hB hE dX7_correct_49 rfl (Or.inr (Or.inr (Or.inl (⟨by omega, rfl, rfl⟩))))
      · refine y_bipush (v := -4) hB dX7_correct_30 (by decide) ?_
        exact m_si hB hE dX7_correct_32 rfl (Or.inr (Or.inl (⟨by omega, rfl, rfl⟩)))
    · refine y_iconst (v := -1) hB dX7_correct_18 rfl ?_
      exact m_si hB hE dX7_correct_19 rfl (Or.inl (⟨by omega, rfl, rfl⟩))
set_option maxHeartbeats 4000000 in
theorem tX7_type (l : Launch) (G : gG) (b : Nat) (C S : gM) (u : Int) (hu : 0 ≤ u ∧ u < 65536) (hs : 0 ≤ S 578 8 ∧ S 578 8 ≤ 60) : Ct l G b yX7_type cX7_type 2 (some .int) rmX7_type [.ref (ad b (578)), .int (iI (u))] 586 (wM G b C S) (SI G b C (fun v S' => ((S 578 8 < 60) ∧ v = S 578 8 + 1 ∧ S' = up2 (up2 S 584 (S 578 8) u) 578 8 (S 578 8 + 1)) ∨ ((¬ S 578 8 < 60) ∧ v = -3 ∧ S' = S))) := by
  refine CtK_of (by decide) (Nat.le_of_ble_eq_true rfl) q953 ?_
  intro x hl hB hE _
  subst hl
  show YM x G b 0 0 C S 0 [(0, .ref (ad b (578))), (1, .int (iI (u)))] []
  refine y_aload_n hB 0 dX7_type_0 rfl rfl ?_
  refine gt_7_8 hB (by decide) (t1 := S 578 8) rfl dX7_type_1 ?_
  refine y_bipush (v := 60) hB dX7_type_4 (by decide) ?_
  refine y_icmp_ne hB 12 dX7_type_6 (by decide) (by omega) (by omega) (fun c_6 => ?_) (fun c_6 => ?_)
  · refine y_aload_n hB 0 dX7_type_12 rfl rfl ?_
    refine gt_7_7 hB (by decide) (t1 := 584) (by omega) dX7_type_13 ?_
    refine y_aload_n hB 0 dX7_type_16 rfl rfl ?_
    refine gt_7_8 hB (by decide) (t1 := S 578 8) rfl dX7_type_17 ?_
    refine y_iload_n hB 1 dX7_type_20 rfl rfl ?_
    refine ast_26 hB (by decide) (by omega) (by omega) dX7_type_21 ?_
    refine y_aload_n hB 0 dX7_type_22 rfl rfl ?_
    refine y_dup hB dX7_type_23 rfl ?_
    refine gt_7_8 hB (by decide) (t1 := S 578 8) (rd_k (by omega)) dX7_type_24 ?_
    refine y_iconst (v := 1) hB dX7_type_27 rfl ?_
    refine y_iadd (t := S 578 8 + 1) hB dX7_type_28 (by omega) ?_
    refine pt_7_8 hB (by decide) dX7_type_29 ?_
    refine y_aload_n hB 0 dX7_type_32 rfl rfl ?_
    refine gt_7_8 hB (by decide) (t1 := S 578 8 + 1) (rd_hit (by omega) (by omega)) dX7_type_33 ?_
    exact m_si hB hE dX7_type_36 rfl (Or.inl ⟨by omega, rfl, rfl⟩)
  · refine y_bipush (v := -3) hB dX7_type_9 (by decide) ?_
    exact m_si hB hE dX7_type_11 rfl (Or.inr ⟨by omega, rfl, rfl⟩)
set_option maxHeartbeats 4000000 in
theorem tX7_clearText (l : Launch) (G : gG) (b : Nat) (C S : gM)  : Ct l G b yX7_clearText cX7_clearText 2 (some .int) rmX7_clearText [.ref (ad b (578))] 586 (wM G b C S) (SI G b C (fun v S' => v = S 578 8 ∧ S' = up2 S 578 8 0)) := by
  refine CtK_of (by decide) (Nat.le_of_ble_eq_true rfl) q957 ?_
  intro x hl hB hE _
  subst hl
  show YM x G b 0 0 C S 0 [(0, .ref (ad b (578)))] []
  refine y_aload_n hB 0 dX7_clearText_0 rfl rfl ?_
  refine gt_7_8 hB (by decide) (t1 := S 578 8) rfl dX7_clearText_1 ?_
  refine y_istore_n (lv' := [(1, .int (iI (S 578 8))), (0, .ref (ad b (578)))]) hB dX7_clearText_4 rfl (by decide) rfl ?_
  refine y_aload_n hB 1 dX7_clearText_5 rfl rfl ?_
  refine y_iconst (v := 0) hB dX7_clearText_6 rfl ?_
  refine pt_7_8 hB (by decide) dX7_clearText_7 ?_
  refine y_iload_n hB 0 dX7_clearText_10 rfl rfl ?_
  exact m_si hB hE dX7_clearText_11 rfl (⟨rfl, rfl⟩)
