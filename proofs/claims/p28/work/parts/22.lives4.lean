/-! checking the most urgent -/
theorem isBest_cong {P P' : Int → Prop} {f f' : Int → Int} {n v : Int} (hP : ∀ j, 0 ≤ j → j < n → (P j ↔ P' j)) (hf : ∀ j, 0 ≤ j → j < n → f j = f' j) (h : isBest P f n v) : isBest P' f' n v := by
  rcases h with ⟨h1, h2⟩ | ⟨h1, h2, h3, h4⟩
  · exact Or.inl ⟨h1, fun j a1 a2 z => h2 j a1 a2 ((hP j a1 a2).mpr z)⟩
  · refine Or.inr ⟨h1, h2, (hP v h1 h2).mp h3, fun j a1 a2 z => ?_⟩
    have := h4 j a1 a2 ((hP j a1 a2).mpr z)
    rw [hf j a1 a2, hf v h1 h2] at this
    exact this
theorem fst_ag {C C' : gM} {o q d j : Int} (e : agD C C' o) (hq : o ≤ q ∧ q + 3 < o + 84) : fst C' o q d j = fst C o q d j := by
  unfold fst
  rw [e (o + 1) (by omega) (by omega), e (o + 2) (by omega) (by omega), e (q + 1) (by omega) (by omega), e (q + 3) (by omega) (by omega)]
theorem toChk_ag {C C' : gM} {o q j : Int} (e : agD C C' o) (hq : o ≤ q ∧ q + 3 < o + 84) : toChk C' o q j ↔ toChk C o q j := by
  unfold toChk
  rw [fst_ag e hq, e o (by omega) (by omega), e (q + 3) (by omega) (by omega)]
theorem due_ag {C C' : gM} {o i : Int} (e : agD C C' o) (hi : 0 ≤ i ∧ i < 20) : due C' o i ↔ due C o i := by
  unfold due
  rw [e (4 * i + o + 4) (by omega) (by omega)]
  exact and_congr Iff.rfl (exists_congr fun j => and_congr Iff.rfl (and_congr Iff.rfl (toChk_ag e (by omega))))
theorem best_ag {C C' : gM} {v : Int} (e : agD C C' 1) (h3 : 0 ≤ C 1 3 ∧ C 1 3 ≤ 20) (h : isBest (due C 1) (urgP C 1) (C 1 3) v) : isBest (due C' 1) (urgP C' 1) (C' 1 3) v := by
  rw [e 1 (by omega) (by omega)]
  exact isBest_cong (fun j a1 a2 => (due_ag e (by omega)).symm) (fun j a1 a2 => by unfold urgP; rw [urg_ag e (by omega)]) h
set_option maxHeartbeats 4000000 in
theorem tX6_checkUrgent (l : Launch) (G : gG) (b : Nat) (C S : gM) (N : Int) (hD : DkOk C 1 N) (hN : N ≤ 512) (hhf : 0 ≤ C 169 1 ∧ C 169 1 < 4) (hhs : 0 ≤ C 169 2 ∧ C 169 2 ≤ 4) : Ct l G b yX6_checkUrgent cX6_checkUrgent 3 (some .int) rmX6_checkUrgent [.ref (ad b (0))] 578 (wM G b C S) (WI G b S (fun v C' => (CkDone C ∧ v = -5 ∧ C' = C) ∨ (1 ≤ C 1 5 ∧ (∃ k : Int, 0 ≤ k ∧ isBest (due C 1) (urgP C 1) (C 1 3) k) ∧ 0 ≤ v ∧ CkN v.toNat (remC C) C' ∧ CkDone C'))) := by
  refine CtK_of (by decide) (Nat.le_of_ble_eq_true rfl) q239 ?_
  intro x hl hB hE _
  subst hl
  show YM x G b 0 0 C S 0 [(0, .ref (ad b (0)))] []
  obtain ⟨hd3, hd4, hd5, hd6, hs0, hs1, hs2, hs3, hs4, htr, hlv⟩ := id hD
  refine y_aload_n hB 0 dX6_checkUrgent_0 rfl rfl ?_
  refine gt_6_0 hB (by decide) (t1 := 1) (by omega) dX6_checkUrgent_1 ?_
  refine m_V hB msX0_mostUrgentToCheck q240 (tX0_mostUrgentToCheck _ G b C S 1 N desk_1 hD hN) (t := 1) (desk_1).1 (by decide) rfl rfl rfl rfl rfl ⟨Nat.le_of_ble_eq_true rfl, Nat.le_of_ble_eq_true rfl⟩ (Nat.le_of_ble_eq_true rfl) ⟨rfl, rfl⟩ ⟨Nat.le_of_ble_eq_true rfl, Nat.le_of_ble_eq_true rfl⟩ dX6_checkUrgent_4 (k_RV (fun v_4 h_4 => ?_))
  rcases h_4 with ⟨rfl, hm_4⟩ | ⟨k_4, hk_4, rfl, h1_4, hb_4⟩
  · refine y_astore_nN (lv' := [(1, .null), (0, .ref (ad b (0)))]) hB dX6_checkUrgent_7 rfl (by decide) rfl ?_
    refine y_aload_nN hB 0 dX6_checkUrgent_8 rfl rfl ?_
    refine y_ifnonnullN hB dX6_checkUrgent_9 ?_
    refine y_bipush (v := -5) hB dX6_checkUrgent_12 (by decide) ?_
    exact m_wi hB hE dX6_checkUrgent_14 rfl (Or.inl ⟨hm_4, rfl, rfl⟩)
  · rw [show 4 * k_4 + 1 + 4 = 4 * k_4 + 5 by omega]
    refine y_astore_n (lv' := [(1, .ref (ad b (4 * k_4 + 5))), (0, .ref (ad b (0)))]) hB dX6_checkUrgent_7 rfl (by decide) rfl ?_
    refine y_aload_n hB 0 dX6_checkUrgent_8 rfl rfl ?_
    refine y_ifnonnull hB 15 dX6_checkUrgent_9 (by decide) ?_
    refine y_aload_n hB 1 dX6_checkUrgent_15 rfl rfl ?_
    refine gt_6_3 hB (by decide) (t1 := 169) (by omega) dX6_checkUrgent_16 ?_
    refine y_aload_n hB 1 dX6_checkUrgent_19 rfl rfl ?_
    refine gt_6_0 hB (by decide) (t1 := 1) (by omega) dX6_checkUrgent_20 ?_
    refine m_V hB msX1_remember q199 (tX1_remember _ G b C S hhf hhs hd3) (t := 7) (by decide) (by decide) rfl rfl rfl rfl rfl ⟨Nat.le_of_ble_eq_true rfl, Nat.le_of_ble_eq_true rfl⟩ (Nat.le_of_ble_eq_true rfl) ⟨rfl, rfl⟩ ⟨Nat.le_of_ble_eq_true rfl, Nat.le_of_ble_eq_true rfl⟩ dX6_checkUrgent_23 (k_WV (fun C_23 h_23 => ?_))
    obtain rfl := h_23
    have agR := remC_ag hd3
    have hDR := DkOk_ag agR hD
    have er := agR 1 (by omega) (by omega)
    have e3 : (remC C) 1 3 = C 1 3 := by rw [er]
    have e4 : (remC C) 1 4 = C 1 4 := by rw [er]
    have e5 : (remC C) 1 5 = C 1 5 := by rw [er]
    have e6 : (remC C) 1 6 = C 1 6 := by rw [er]
    refine y_iconst (v := 0) hB dX6_checkUrgent_26 rfl ?_
    refine y_istore_n (lv' := [(2, .int (iI (0))), (1, .ref (ad b (4 * k_4 + 5))), (0, .ref (ad b (0)))]) hB dX6_checkUrgent_27 rfl (by decide) rfl ?_
    have LOOP_28 : ∀ (fu : Nat) (i kv : Int) (bv : Value) (CM : gM), (0 ≤ i) → ((kv = -5 ∧ bv = .null ∧ CkDone CM) ∨ (0 ≤ kv ∧ bv = .ref (ad b (4 * kv + 5)) ∧ 1 ≤ CM 1 5 ∧ isBest (due CM 1) (urgP CM 1) (CM 1 3) kv)) → (CkN i.toNat (remC C) CM) → (DkOk CM 1 N) → (CM 1 5 = C 1 5 - i) → C 1 5 - i < (fu : Int) → YM x G b 0 0 CM S 28 [(0, .ref (ad b (0))), (1, bv), (2, .int (iI (i)))] [] := by
      intro fu
      induction fu with
      | zero => intro i kv bv CM hi hcase hrun hDM hh hm_28; exfalso; have h9 := hDM.2.2.1; omega
      | succ fu ih_28 =>
        intro i kv bv CM hi hcase hrun hDM hh hm_28
        rcases hcase with ⟨hkv, rfl, hdn⟩ | ⟨hkv, rfl, h1h, hb⟩
        · refine y_aload_nN hB 1 dX6_checkUrgent_28 rfl rfl ?_
          refine y_ifnullN hB 68 dX6_checkUrgent_29 (by decide) ?_
          refine y_iload_n hB 2 dX6_checkUrgent_68 rfl rfl ?_
          exact m_wi hB hE dX6_checkUrgent_69 rfl (Or.inr ⟨h1_4, ⟨k_4, hk_4, hb_4⟩, hi, hrun, hdn⟩)
        · have hkb := isBest_k hb hkv
          have hkC3 := hDM.1
          have hqk : isLife (4 * kv + 5) := life_at desk_1 (i := kv) (by omega) (by omega)
          have hlk : LfOk CM (4 * kv + 5) (CM 1 4) := by have h9 := hDM.2.2.2.2.2.2.2.2.2.2 kv hkv (by omega); rwa [show 4 * kv + 1 + 4 = 4 * kv + 5 by omega] at h9
          have hlk6 := hlk.2.2.2.2.2.2.1
          refine y_aload_n hB 1 dX6_checkUrgent_28 rfl rfl ?_
          refine y_ifnull hB dX6_checkUrgent_29 ?_
          refine y_iload_n hB 2 dX6_checkUrgent_32 rfl rfl ?_
          refine y_bipush (v := 24) hB dX6_checkUrgent_33 (by decide) ?_
          refine y_icmp_ge hB 68 dX6_checkUrgent_35 (by decide) (by omega) (by omega) (fun c_35 => ?_) (fun c_35 => ?_)
          · exfalso
            omega
          · refine y_aload_n hB 0 dX6_checkUrgent_38 rfl rfl ?_
            refine gt_6_0 hB (by decide) (t1 := 1) (by omega) dX6_checkUrgent_39 ?_
            refine y_aload_n hB 1 dX6_checkUrgent_42 rfl rfl ?_
            refine y_aload_n hB 0 dX6_checkUrgent_43 rfl rfl ?_
            refine gt_6_0 hB (by decide) (t1 := 1) (by omega) dX6_checkUrgent_44 ?_
            refine y_aload_n hB 1 dX6_checkUrgent_47 rfl rfl ?_
            refine m_V hB msX0_firstToCheck q312 (tX0_firstToCheck _ G b CM S 1 (4 * kv + 5) N desk_1 hqk hDM hlk hN) (t := 1) (desk_1).1 (by decide) rfl rfl rfl rfl rfl ⟨Nat.le_of_ble_eq_true rfl, Nat.le_of_ble_eq_true rfl⟩ (Nat.le_of_ble_eq_true rfl) ⟨rfl, rfl⟩ ⟨Nat.le_of_ble_eq_true rfl, Nat.le_of_ble_eq_true rfl⟩ dX6_checkUrgent_48 (k_RI (fun v_48 h_48 => ?_))
            have hdu := isBest_P hb hkv
            have hv48 : 0 ≤ v_48 ∧ v_48 < CM (4 * kv + 5) 6 := (by rcases h_48 with ⟨g1, g2⟩ | ⟨g1, g2, g3, g4⟩; (obtain ⟨d1, j, d2, d3, d4⟩ := hdu; rw [show 4 * kv + 1 + 4 = 4 * kv + 5 by omega] at d3 d4; exact absurd d4 (g2 j d2 d3)); exact ⟨g1, g2⟩)
            refine m_V hB msX0_checkToday q313 (tX0_checkToday _ G b CM S 1 (4 * kv + 5) v_48 desk_1 hqk (by omega) (by omega) (by omega)) (t := 1) (desk_1).1 (by decide) rfl rfl rfl rfl rfl ⟨Nat.le_of_ble_eq_true rfl, Nat.le_of_ble_eq_true rfl⟩ (Nat.le_of_ble_eq_true rfl) ⟨rfl, rfl⟩ ⟨Nat.le_of_ble_eq_true rfl, Nat.le_of_ble_eq_true rfl⟩ dX6_checkUrgent_51 (k_WV (fun C_51 h_51 => ?_))
            obtain rfl := h_51
            rw [show 4 * kv + 5 + 3 = 4 * kv + 8 by omega]
            have hDc : DkOk (up2 (up2 CM (4 * kv + 8) v_48 (CM 1 4)) 1 5 (CM 1 5 - 1)) 1 N := DkOk_chk hDM hkv h1h
            have hS : CkS CM (up2 (up2 CM (4 * kv + 8) v_48 (CM 1 4)) 1 5 (CM 1 5 - 1)) := ⟨kv, v_48, hkv, h1h, hb, hv48.1, h_48, rfl⟩
            refine y_iinc (v := i + 1) (lv' := [(2, .int (iI (i + 1))), (0, .ref (ad b (0))), (1, .ref (ad b (4 * kv + 5)))]) hB 2 dX6_checkUrgent_54 rfl (by omega) (by decide) rfl ?_
            refine y_aload_n hB 1 dX6_checkUrgent_57 rfl rfl ?_
            refine gt_6_0 hB (by decide) (t1 := 1) (by omega) dX6_checkUrgent_58 ?_
            refine m_V hB msX0_mostUrgentToCheck q240 (tX0_mostUrgentToCheck _ G b (up2 (up2 CM (4 * kv + 8) v_48 (CM 1 4)) 1 5 (CM 1 5 - 1)) S 1 N desk_1 hDc hN) (t := 1) (desk_1).1 (by decide) rfl rfl rfl rfl rfl ⟨Nat.le_of_ble_eq_true rfl, Nat.le_of_ble_eq_true rfl⟩ (Nat.le_of_ble_eq_true rfl) ⟨rfl, rfl⟩ ⟨Nat.le_of_ble_eq_true rfl, Nat.le_of_ble_eq_true rfl⟩ dX6_checkUrgent_61 (k_RV (fun v_61 h_61 => ?_))
            rcases h_61 with ⟨rfl, hm_61⟩ | ⟨k_61, hk_61, rfl, h1_61, hb_61⟩
            · refine y_astore_nN (lv' := [(1, .null), (2, .int (iI (i + 1))), (0, .ref (ad b (0)))]) hB dX6_checkUrgent_64 rfl (by decide) rfl ?_
              refine y_goto hB 28 dX6_checkUrgent_65 (by decide) ?_
              refine y_sub (lv' := [(0, .ref (ad b (0))), (1, .null), (2, .int (iI (i + 1)))]) [2, 0, 1] rfl ?_
              exact ih_28 (i + 1) (-5) .null _ (by omega) (Or.inl ⟨rfl, rfl, hm_61⟩) (CkN_s hi hrun hS) hDc (by rw [rd_hit rfl rfl]; omega) (by omega)
            · rw [show 4 * k_61 + 1 + 4 = 4 * k_61 + 5 by omega]
              refine y_astore_n (lv' := [(1, .ref (ad b (4 * k_61 + 5))), (2, .int (iI (i + 1))), (0, .ref (ad b (0)))]) hB dX6_checkUrgent_64 rfl (by decide) rfl ?_
              refine y_goto hB 28 dX6_checkUrgent_65 (by decide) ?_
              refine y_sub (lv' := [(0, .ref (ad b (0))), (1, .ref (ad b (4 * k_61 + 5))), (2, .int (iI (i + 1)))]) [2, 0, 1] rfl ?_
              exact ih_28 (i + 1) k_61 _ _ (by omega) (Or.inr ⟨hk_61, rfl, h1_61, hb_61⟩) (CkN_s hi hrun hS) hDc (by rw [rd_hit rfl rfl]; omega) (by omega)
    refine y_sub (lv' := [(0, .ref (ad b (0))), (1, .ref (ad b (4 * k_4 + 5))), (2, .int (iI (0)))]) [2, 1, 0] rfl ?_
    exact LOOP_28 ((C 1 5).toNat + 1) 0 k_4 _ _ (by omega) (Or.inr ⟨hk_4, rfl, by rw [e5]; exact h1_4, best_ag agR hd3 hb_4⟩) rfl hDR (by omega) (by omega)
