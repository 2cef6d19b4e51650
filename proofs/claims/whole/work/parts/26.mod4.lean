/-! the other class: what is due; the order of the page -/
def mChk (f : Int → Int) (i j : Int) : Prop := f (32 * i + 3 * j + 26) ≠ f 0 ∧ mFst f i (f 0) j = 1
def mDue (f : Int → Int) (i : Int) : Prop := f (32 * i + 18) = 0 ∧ ∃ j : Int, 0 ≤ j ∧ j < f (32 * i + 19) ∧ mChk f i j
theorem mDue_iff {f : Int → Int} {i v : Int} (h : isFirst (mChk f i) (f (32 * i + 19)) v) (hs : f (32 * i + 18) = 0) : mDue f i ↔ v ≠ -5 := by
  rcases h with ⟨h1, h2⟩ | ⟨h1, h2, h3, h4⟩
  · exact ⟨fun ⟨_, j, a1, a2, a3⟩ => absurd a3 (h2 j a1 a2), fun z => absurd h1 z⟩
  · exact ⟨fun _ => by omega, fun _ => ⟨hs, v, h1, h2, h3⟩⟩
theorem mUrg_b {f : Int → Int} {i T : Int} (h : PO f i T) : 0 ≤ mUrg f i ∧ mUrg f i ≤ 280 := by
  obtain ⟨h1, h2, h3, h4, -⟩ := h
  have := mSt_b (d := f 0) h4
  unfold mUrg
  split <;> omega
def mAh (f : Int → Int) (u t : Int) : Prop := f (32 * t + 17) < f (32 * u + 17) ∨ (f (32 * u + 17) = f (32 * t + 17) ∧ (f (32 * u + 20) < f (32 * t + 20) ∨ (f (32 * u + 20) = f (32 * t + 20) ∧ u < t)))
set_option maxHeartbeats 4000000 in
theorem tX7_strike (l : Launch) (G : gG) (b : Nat) (C S : gM) (p q N : Int) (hp : -2147483648 ≤ p ∧ p ≤ 2147483647) (hq : -2147483648 ≤ q ∧ q ≤ 2147483647) (hM : MO (S 579) N) (hN : N ≤ 512) (h4 : 0 ≤ S 578 9 ∧ S 578 9 ≤ 4) : Ct l G b yX7_strike cX7_strike 4 (some .int) rmX7_strike [.ref (ad b (578)), .int (iI (p)), .int (iI (q))] 586 (wM G b C S) (SI G b C (fun v S' => ((¬ (0 ≤ p ∧ p < S 579 1 ∧ 0 ≤ q ∧ q < S 579 (32 * p + 19))) ∧ v = -1 ∧ S' = S) ∨ (((0 ≤ p ∧ p < S 579 1 ∧ 0 ≤ q ∧ q < S 579 (32 * p + 19)) ∧ S 579 (32 * p + 18) = 3) ∧ v = -4 ∧ S' = S) ∨ (((0 ≤ p ∧ p < S 579 1 ∧ 0 ≤ q ∧ q < S 579 (32 * p + 19)) ∧ ¬ S 579 (32 * p + 18) = 3) ∧ v = S 579 (32 * p + 19) - 1 ∧ S' = shM (up2 (recS S) 579 (32 * p + 19) (recS S 579 (32 * p + 19) - 1)) (32 * p + 3 * q + 24) (32 * p + 3 * S 579 (32 * p + 19) + 21)))) := by
  refine CtK_of (by decide) (Nat.le_of_ble_eq_true rfl) q868 ?_
  intro x hl hB hE _
  subst hl
  show YM x G b 0 0 C S 0 [(0, .ref (ad b (578))), (1, .int (iI (p))), (2, .int (iI (q)))] []
  obtain ⟨hm1, hm0, hm2, hm3, hm4, hm5, hm6, hm7, hm8, hmt, hmp, hmz⟩ := id hM
  refine y_aload_n hB 0 dX7_strike_0 rfl rfl ?_
  refine y_iload_n hB 1 dX7_strike_1 rfl rfl ?_
  refine y_iload_n hB 2 dX7_strike_2 rfl rfl ?_
  refine m_V hB msX7_isFact q861 (tX7_isFact _ G b C S p q N (by omega) (by omega) hM hN) (t := 20) (by decide) (by decide) rfl rfl rfl rfl rfl ⟨Nat.le_of_ble_eq_true rfl, Nat.le_of_ble_eq_true rfl⟩ (Nat.le_of_ble_eq_true rfl) ⟨rfl, rfl⟩ ⟨Nat.le_of_ble_eq_true rfl, Nat.le_of_ble_eq_true rfl⟩ dX7_strike_3 (k_RI (fun v_3 h_3 => ?_))
  refine y_if_ne hB 11 dX7_strike_6 (by decide) (by omega) (fun c_6 => ?_) (fun c_6 => ?_)
  · obtain ⟨hp1, hp2, hp3, hp4, hp5, hp6, hp7, hpf⟩ := id (hmp p (by omega) (by omega))
    refine y_aload_n hB 0 dX7_strike_11 rfl rfl ?_
    refine y_iload_n hB 1 dX7_strike_12 rfl rfl ?_
    refine y_iconst (v := 2) hB dX7_strike_13 rfl ?_
    refine m_V hB msX7_of q842 (tX7_of _ G b C S p 2 (32 * p + 18) (S 579 (32 * p + 18)) (by omega) (by omega) rfl) (t := 20) (by decide) (by decide) rfl rfl rfl rfl rfl ⟨Nat.le_of_ble_eq_true rfl, Nat.le_of_ble_eq_true rfl⟩ (Nat.le_of_ble_eq_true rfl) ⟨rfl, rfl⟩ ⟨Nat.le_of_ble_eq_true rfl, Nat.le_of_ble_eq_true rfl⟩ dX7_strike_14 (k_RI (fun v_14 h_14 => ?_))
    obtain rfl := h_14
    refine y_iconst (v := 3) hB dX7_strike_17 rfl ?_
    refine y_icmp_ne hB 24 dX7_strike_18 (by decide) (by omega) (by omega) (fun c_18 => ?_) (fun c_18 => ?_)
    · refine y_aload_n hB 0 dX7_strike_24 rfl rfl ?_
      refine m_V hB msX7_record q795 (tX7_record _ G b C S (by omega)) (t := 20) (by decide) (by decide) rfl rfl rfl rfl rfl ⟨Nat.le_of_ble_eq_true rfl, Nat.le_of_ble_eq_true rfl⟩ (Nat.le_of_ble_eq_true rfl) ⟨rfl, rfl⟩ ⟨Nat.le_of_ble_eq_true rfl, Nat.le_of_ble_eq_true rfl⟩ dX7_strike_25 (k_SV (fun S_25 h_25 => ?_))
      obtain rfl := h_25
      have er : (recS S) 579 = S 579 := recS_out (by omega)
      have er0 : (recS S) 579 (32 * p + 19) = S 579 (32 * p + 19) := by rw [er]
      refine y_aload_n hB 0 dX7_strike_28 rfl rfl ?_
      refine gt_7_0 hB (by decide) (t1 := 579) (by omega) dX7_strike_29 ?_
      refine y_iload_n hB 1 dX7_strike_32 rfl rfl ?_
      refine m_S hB msX7_p q803 (tX7_p _ G b C (recS S) p (32 * p + 16) (by omega)) rfl rfl ⟨Nat.le_of_ble_eq_true rfl, Nat.le_of_ble_eq_true rfl⟩ (Nat.le_of_ble_eq_true rfl) ⟨rfl, rfl⟩ ⟨Nat.le_of_ble_eq_true rfl, Nat.le_of_ble_eq_true rfl⟩ dX7_strike_33 (k_RI (fun v_33 h_33 => ?_))
      obtain rfl := h_33
      refine y_iconst (v := 3) hB dX7_strike_36 rfl ?_
      refine y_iadd (t := 32 * p + 19) hB dX7_strike_37 (by omega) ?_
      refine y_dup2 hB dX7_strike_38 rfl rfl ?_
      refine ald_21 hB (by decide) (t1 := (recS S) 579 (32 * p + 19)) (by omega) rfl dX7_strike_39 ?_
      refine y_iconst (v := 1) hB dX7_strike_40 rfl ?_
      refine y_isub (t := ((recS S) 579 (32 * p + 19)) - 1) hB dX7_strike_41 (by omega) ?_
      refine ast_21 hB (by decide) (by omega) dX7_strike_42 ?_
      refine y_iload_n hB 1 dX7_strike_43 rfl rfl ?_
      refine y_iload_n hB 2 dX7_strike_44 rfl rfl ?_
      refine m_S hB msX7_f q846 (tX7_f _ G b C (up2 (recS S) 579 (32 * p + 19) (((recS S) 579 (32 * p + 19)) - 1)) p q (32 * p + 3 * q + 24) (by omega)) rfl rfl ⟨Nat.le_of_ble_eq_true rfl, Nat.le_of_ble_eq_true rfl⟩ (Nat.le_of_ble_eq_true rfl) ⟨rfl, rfl⟩ ⟨Nat.le_of_ble_eq_true rfl, Nat.le_of_ble_eq_true rfl⟩ dX7_strike_45 (k_RI (fun v_45 h_45 => ?_))
      obtain rfl := h_45
      obtain ⟨S1, hS1⟩ : ∃ S1, up2 (recS S) 579 (32 * p + 19) (recS S 579 (32 * p + 19) - 1) = S1 := ⟨_, rfl⟩
      have e19 : S1 579 (32 * p + 19) = S 579 (32 * p + 19) - 1 := by rw [← hS1, rd_hit rfl rfl]; omega
      rw [hS1]
      refine y_istore_n (lv' := [(3, .int (iI (32 * p + 3 * q + 24))), (0, .ref (ad b (578))), (1, .int (iI (p))), (2, .int (iI (q)))]) hB dX7_strike_48 rfl (by decide) rfl ?_
      have LOOP_49 : ∀ (fu : Nat) (k : Int), (32 * p + 3 * q + 24 ≤ k ∧ k ≤ 32 * p + 3 * S 579 (32 * p + 19) + 21) → 32 * p + 3 * S 579 (32 * p + 19) + 21 - k < (fu : Int) → YM x G b 0 0 C (shM S1 (32 * p + 3 * q + 24) k) 49 [(0, .ref (ad b (578))), (1, .int (iI (p))), (2, .int (iI (q))), (3, .int (iI (k)))] [] := by
        intro fu
        induction fu with
        | zero => intro k hk hm_49; exfalso; omega
        | succ fu ih_49 =>
          intro k hk hm_49
          have e9 : shM S1 (32 * p + 3 * q + 24) k 579 (32 * p + 19) = S 579 (32 * p + 19) - 1 := by rw [shM_lt (by omega)]; exact e19
          refine y_iload_n hB 3 dX7_strike_49 rfl rfl ?_
          refine y_iload_n hB 1 dX7_strike_50 rfl rfl ?_
          refine y_aload_n hB 0 dX7_strike_51 rfl rfl ?_
          refine y_iload_n hB 1 dX7_strike_52 rfl rfl ?_
          refine y_iconst (v := 3) hB dX7_strike_53 rfl ?_
          refine m_V hB msX7_of q842 (tX7_of _ G b C (shM S1 (32 * p + 3 * q + 24) k) p 3 (32 * p + 19) ((shM S1 (32 * p + 3 * q + 24) k) 579 (32 * p + 19)) (by omega) (by omega) rfl) (t := 20) (by decide) (by decide) rfl rfl rfl rfl rfl ⟨Nat.le_of_ble_eq_true rfl, Nat.le_of_ble_eq_true rfl⟩ (Nat.le_of_ble_eq_true rfl) ⟨rfl, rfl⟩ ⟨Nat.le_of_ble_eq_true rfl, Nat.le_of_ble_eq_true rfl⟩ dX7_strike_54 (k_RI (fun v_54 h_54 => ?_))
          obtain rfl := h_54
          refine m_S hB msX7_f q846 (tX7_f _ G b C (shM S1 (32 * p + 3 * q + 24) k) p ((shM S1 (32 * p + 3 * q + 24) k) 579 (32 * p + 19)) (3 * ((shM S1 (32 * p + 3 * q + 24) k) 579 (32 * p + 19)) + 32 * p + 24) (by omega)) rfl rfl ⟨Nat.le_of_ble_eq_true rfl, Nat.le_of_ble_eq_true rfl⟩ (Nat.le_of_ble_eq_true rfl) ⟨rfl, rfl⟩ ⟨Nat.le_of_ble_eq_true rfl, Nat.le_of_ble_eq_true rfl⟩ dX7_strike_57 (k_RI (fun v_57 h_57 => ?_))
          obtain rfl := h_57
          refine y_icmp_ge hB 83 dX7_strike_60 (by decide) (by omega) (by omega) (fun c_60 => ?_) (fun c_60 => ?_)
          · refine y_aload_n hB 0 dX7_strike_83 rfl rfl ?_
            refine y_iload_n hB 1 dX7_strike_84 rfl rfl ?_
            refine y_iconst (v := 3) hB dX7_strike_85 rfl ?_
            refine m_V hB msX7_of q842 (tX7_of _ G b C (shM S1 (32 * p + 3 * q + 24) k) p 3 (32 * p + 19) ((shM S1 (32 * p + 3 * q + 24) k) 579 (32 * p + 19)) (by omega) (by omega) rfl) (t := 20) (by decide) (by decide) rfl rfl rfl rfl rfl ⟨Nat.le_of_ble_eq_true rfl, Nat.le_of_ble_eq_true rfl⟩ (Nat.le_of_ble_eq_true rfl) ⟨rfl, rfl⟩ ⟨Nat.le_of_ble_eq_true rfl, Nat.le_of_ble_eq_true rfl⟩ dX7_strike_86 (k_RI (fun v_86 h_86 => ?_))
            obtain rfl := h_86
            exact m_si hB hE dX7_strike_89 rfl (Or.inr (Or.inr (⟨by omega, by omega, by rw [hS1, show k = 32 * p + 3 * S 579 (32 * p + 19) + 21 by omega]⟩)))
          · refine y_aload_n hB 0 dX7_strike_63 rfl rfl ?_
            refine gt_7_0 hB (by decide) (t1 := 579) (by omega) dX7_strike_64 ?_
            refine y_iload_n hB 3 dX7_strike_67 rfl rfl ?_
            refine y_aload_n hB 0 dX7_strike_68 rfl rfl ?_
            refine gt_7_0 hB (by decide) (t1 := 579) (by omega) dX7_strike_69 ?_
            refine y_iload_n hB 3 dX7_strike_72 rfl rfl ?_
            refine y_iconst (v := 3) hB dX7_strike_73 rfl ?_
            refine y_iadd (t := k + 3) hB dX7_strike_74 (by omega) ?_
            refine ald_21 hB (by decide) (t1 := (shM S1 (32 * p + 3 * q + 24) k) 579 (k + 3)) (by omega) rfl dX7_strike_75 ?_
            refine ast_21 hB (by decide) (by omega) dX7_strike_76 ?_
            refine y_iinc (v := k + 1) (lv' := [(3, .int (iI (k + 1))), (0, .ref (ad b (578))), (1, .int (iI (p))), (2, .int (iI (q)))]) hB 3 dX7_strike_77 rfl (by omega) (by decide) rfl ?_
            refine y_goto hB 49 dX7_strike_80 (by decide) ?_
            refine y_sub (lv' := [(0, .ref (ad b (578))), (1, .int (iI (p))), (2, .int (iI (q))), (3, .int (iI (k + 1)))]) [1, 2, 3, 0] rfl ?_
            rw [shM_s hk.1]
            exact ih_49 (k + 1) (by omega) (by omega)
      refine y_sub (lv' := [(0, .ref (ad b (578))), (1, .int (iI (p))), (2, .int (iI (q))), (3, .int (iI (32 * p + 3 * q + 24)))]) [1, 2, 3, 0] rfl ?_
      rw [← shM_0 S1 (32 * p + 3 * q + 24)]
      exact LOOP_49 ((32 * p + 3 * S 579 (32 * p + 19) + 21 - (32 * p + 3 * q + 24)).toNat + 1) (32 * p + 3 * q + 24) (by omega) (by omega)
    · refine y_bipush (v := -4) hB dX7_strike_21 (by decide) ?_
      exact m_si hB hE dX7_strike_23 rfl (Or.inr (Or.inl (⟨by omega, rfl, rfl⟩)))
  · refine y_iconst (v := -1) hB dX7_strike_9 rfl ?_
    exact m_si hB hE dX7_strike_10 rfl (Or.inl (⟨by omega, rfl, rfl⟩))
set_option maxHeartbeats 4000000 in
theorem tX7_undo (l : Launch) (G : gG) (b : Nat) (C S : gM) (h4 : 0 ≤ S 578 9 ∧ S 578 9 ≤ 4) : Ct l G b yX7_undo cX7_undo 2 (some .int) rmX7_undo [.ref (ad b (578))] 586 (wM G b C S) (SI G b C (fun v S' => ((S 578 9 = 0) ∧ v = -5 ∧ S' = S) ∨ ((¬ S 578 9 = 0) ∧ v = S 578 9 - 1 ∧ S' = cpR (up2 S 578 9 (S 578 9 - 1)) 579 580 (656 * (S 578 9 - 1)) 656))) := by
  refine CtK_of (by decide) (Nat.le_of_ble_eq_true rfl) q961 ?_
  intro x hl hB hE _
  subst hl
  show YM x G b 0 0 C S 0 [(0, .ref (ad b (578)))] []
  refine y_aload_n hB 0 dX7_undo_0 rfl rfl ?_
  refine gt_7_9 hB (by decide) (t1 := S 578 9) rfl dX7_undo_1 ?_
  refine y_if_ne hB 10 dX7_undo_4 (by decide) (by omega) (fun c_4 => ?_) (fun c_4 => ?_)
  · refine y_aload_n hB 0 dX7_undo_10 rfl rfl ?_
    refine y_dup hB dX7_undo_11 rfl ?_
    refine gt_7_9 hB (by decide) (t1 := S 578 9) rfl dX7_undo_12 ?_
    refine y_iconst (v := 1) hB dX7_undo_15 rfl ?_
    refine y_isub (t := S 578 9 - 1) hB dX7_undo_16 (by omega) ?_
    refine pt_7_9 hB (by decide) dX7_undo_17 ?_
    obtain ⟨S1, hS1⟩ : ∃ S1, up2 S 578 9 (S 578 9 - 1) = S1 := ⟨_, rfl⟩
    have e19 : S1 578 9 = S 578 9 - 1 := by rw [← hS1, rd_hit rfl rfl]
    rw [hS1]
    refine y_iconst (v := 0) hB dX7_undo_20 rfl ?_
    refine y_istore_n (lv' := [(1, .int (iI (0))), (0, .ref (ad b (578)))]) hB dX7_undo_21 rfl (by decide) rfl ?_
    have LOOP_22 : ∀ (fu : Nat) (i : Int), (0 ≤ i ∧ i ≤ 656) → 656 - i < (fu : Int) → YM x G b 0 0 C (cpR S1 579 580 (656 * (S 578 9 - 1)) i) 22 [(0, .ref (ad b (578))), (1, .int (iI (i)))] [] := by
      intro fu
      induction fu with
      | zero => intro i hi hm_22; exfalso; omega
      | succ fu ih_22 =>
        intro i hi hm_22
        have e9 : cpR S1 579 580 (656 * (S 578 9 - 1)) i 578 9 = S 578 9 - 1 := by rw [cpR_ne (by omega)]; exact e19
        refine y_iload_n hB 1 dX7_undo_22 rfl rfl ?_
        refine y_sipush (v := 656) hB dX7_undo_23 (by decide) ?_
        refine y_icmp_ge hB 56 dX7_undo_26 (by decide) (by omega) (by omega) (fun c_26 => ?_) (fun c_26 => ?_)
        · refine y_aload_n hB 0 dX7_undo_56 rfl rfl ?_
          refine gt_7_9 hB (by decide) (t1 := (cpR S1 579 580 (656 * (S 578 9 - 1)) i) 578 9) rfl dX7_undo_57 ?_
          exact m_si hB hE dX7_undo_60 rfl (Or.inr (⟨by omega, by omega, by rw [hS1, show i = 656 by omega]⟩))
        · refine y_aload_n hB 0 dX7_undo_29 rfl rfl ?_
          refine gt_7_0 hB (by decide) (t1 := 579) (by omega) dX7_undo_30 ?_
          refine y_iload_n hB 1 dX7_undo_33 rfl rfl ?_
          refine y_aload_n hB 0 dX7_undo_34 rfl rfl ?_
          refine gt_7_1 hB (by decide) (t1 := 580) (by omega) dX7_undo_35 ?_
          refine y_sipush (v := 656) hB dX7_undo_38 (by decide) ?_
          refine y_aload_n hB 0 dX7_undo_41 rfl rfl ?_
          refine gt_7_9 hB (by decide) (t1 := (cpR S1 579 580 (656 * (S 578 9 - 1)) i) 578 9) rfl dX7_undo_42 ?_
          refine y_imul (t := 656 * ((cpR S1 579 580 (656 * (S 578 9 - 1)) i) 578 9)) hB dX7_undo_45 (by omega) ?_
          refine y_iload_n hB 1 dX7_undo_46 rfl rfl ?_
          refine y_iadd (t := 656 * ((cpR S1 579 580 (656 * (S 578 9 - 1)) i) 578 9) + i) hB dX7_undo_47 (by omega) ?_
          refine ald_22 hB (by decide) (t1 := (cpR S1 579 580 (656 * (S 578 9 - 1)) i) 580 (656 * ((cpR S1 579 580 (656 * (S 578 9 - 1)) i) 578 9) + i)) (by omega) rfl dX7_undo_48 ?_
          refine ast_21 hB (by decide) (by omega) dX7_undo_49 ?_
          refine y_iinc (v := i + 1) (lv' := [(1, .int (iI (i + 1))), (0, .ref (ad b (578)))]) hB 1 dX7_undo_50 rfl (by omega) (by decide) rfl ?_
          refine y_goto hB 22 dX7_undo_53 (by decide) ?_
          refine y_sub (lv' := [(0, .ref (ad b (578))), (1, .int (iI (i + 1)))]) [1, 0] rfl ?_
          rw [cpR_s (by omega) (by omega) hi.1]
          exact ih_22 (i + 1) (by omega) (by omega)
    refine y_sub (lv' := [(0, .ref (ad b (578))), (1, .int (iI (0)))]) [1, 0] rfl ?_
    rw [← cpR_0 S1 579 580 (656 * (S 578 9 - 1))]
    exact LOOP_22 (((656 : Int)).toNat + 1) 0 (by omega) (by omega)
  · refine y_bipush (v := -5) hB dX7_undo_7 (by decide) ?_
    exact m_si hB hE dX7_undo_9 rfl (Or.inl (⟨by omega, rfl, rfl⟩))
set_option maxHeartbeats 4000000 in
theorem tX7_keep (l : Launch) (G : gG) (b : Nat) (C S : gM)  : Ct l G b yX7_keep cX7_keep 2 (some .int) rmX7_keep [.ref (ad b (578))] 586 (wM G b C S) (SI G b C (fun v S' => v = S 579 0 ∧ S' = up2 (cpR S 581 579 0 656) 578 10 1)) := by
  refine CtK_of (by decide) (Nat.le_of_ble_eq_true rfl) q965 ?_
  intro x hl hB hE _
  subst hl
  show YM x G b 0 0 C S 0 [(0, .ref (ad b (578)))] []
  refine y_iconst (v := 0) hB dX7_keep_0 rfl ?_
  refine y_istore_n (lv' := [(1, .int (iI (0))), (0, .ref (ad b (578)))]) hB dX7_keep_1 rfl (by decide) rfl ?_
  have LOOP_2 : ∀ (fu : Nat) (i : Int), (0 ≤ i ∧ i ≤ 656) → 656 - i < (fu : Int) → YM x G b 0 0 C (cpR S 581 579 0 i) 2 [(0, .ref (ad b (578))), (1, .int (iI (i)))] [] := by
    intro fu
    induction fu with
    | zero => intro i hi hm_2; exfalso; omega
    | succ fu ih_2 =>
      intro i hi hm_2
      refine y_iload_n hB 1 dX7_keep_2 rfl rfl ?_
      refine y_sipush (v := 656) hB dX7_keep_3 (by decide) ?_
      refine y_icmp_ge hB 27 dX7_keep_6 (by decide) (by omega) (by omega) (fun c_6 => ?_) (fun c_6 => ?_)
      · refine y_aload_n hB 0 dX7_keep_27 rfl rfl ?_
        refine y_iconst (v := 1) hB dX7_keep_28 rfl ?_
        refine pt_7_10 hB (by decide) (by omega) dX7_keep_29 ?_
        refine y_aload_n hB 0 dX7_keep_32 rfl rfl ?_
        refine gt_7_0 hB (by decide) (t1 := 579) (by omega) dX7_keep_33 ?_
        refine y_iconst (v := 0) hB dX7_keep_36 rfl ?_
        refine ald_21 hB (by decide) (t1 := (cpR S 581 579 0 i) 579 0) (by omega) (rd_k (by omega)) dX7_keep_37 ?_
        exact m_si hB hE dX7_keep_38 rfl (⟨by rw [cpR_ne (by omega)], by rw [show i = 656 by omega]⟩)
      · refine y_aload_n hB 0 dX7_keep_9 rfl rfl ?_
        refine gt_7_2 hB (by decide) (t1 := 581) (by omega) dX7_keep_10 ?_
        refine y_iload_n hB 1 dX7_keep_13 rfl rfl ?_
        refine y_aload_n hB 0 dX7_keep_14 rfl rfl ?_
        refine gt_7_0 hB (by decide) (t1 := 579) (by omega) dX7_keep_15 ?_
        refine y_iload_n hB 1 dX7_keep_18 rfl rfl ?_
        refine ald_21 hB (by decide) (t1 := (cpR S 581 579 0 i) 579 i) (by omega) rfl dX7_keep_19 ?_
        refine ast_23 hB (by decide) (by omega) dX7_keep_20 ?_
        refine y_iinc (v := i + 1) (lv' := [(1, .int (iI (i + 1))), (0, .ref (ad b (578)))]) hB 1 dX7_keep_21 rfl (by omega) (by decide) rfl ?_
        refine y_goto hB 2 dX7_keep_24 (by decide) ?_
        refine y_sub (lv' := [(0, .ref (ad b (578))), (1, .int (iI (i + 1)))]) [1, 0] rfl ?_
        rw [cpR_s (by omega) (by omega) hi.1]
        exact ih_2 (i + 1) (by omega) (by omega)
  refine y_sub (lv' := [(0, .ref (ad b (578))), (1, .int (iI (0)))]) [1, 0] rfl ?_
  rw [← cpR_0 S 581 579 0]
  exact LOOP_2 (((656 : Int)).toNat + 1) 0 (by omega) (by omega)
set_option maxHeartbeats 4000000 in
theorem tX7_restore (l : Launch) (G : gG) (b : Nat) (C S : gM) (h4 : 0 ≤ S 578 9 ∧ S 578 9 ≤ 4) (hz : S 578 10 = 0 ∨ S 578 10 = 1) : Ct l G b yX7_restore cX7_restore 2 (some .int) rmX7_restore [.ref (ad b (578))] 586 (wM G b C S) (SI G b C (fun v S' => ((S 578 10 = 0) ∧ v = -5 ∧ S' = S) ∨ ((S 578 10 = 1) ∧ v = recS S 581 0 ∧ S' = cpR (recS S) 579 581 0 656))) := by
  refine CtK_of (by decide) (Nat.le_of_ble_eq_true rfl) q969 ?_
  intro x hl hB hE _
  subst hl
  show YM x G b 0 0 C S 0 [(0, .ref (ad b (578)))] []
  refine y_aload_n hB 0 dX7_restore_0 rfl rfl ?_
  refine gt_7_10 hB (by decide) (t1 := S 578 10) rfl dX7_restore_1 ?_
  refine y_if_ne hB 10 dX7_restore_4 (by decide) (by omega) (fun c_4 => ?_) (fun c_4 => ?_)
  · refine y_aload_n hB 0 dX7_restore_10 rfl rfl ?_
    refine m_V hB msX7_record q795 (tX7_record _ G b C S (by omega)) (t := 20) (by decide) (by decide) rfl rfl rfl rfl rfl ⟨Nat.le_of_ble_eq_true rfl, Nat.le_of_ble_eq_true rfl⟩ (Nat.le_of_ble_eq_true rfl) ⟨rfl, rfl⟩ ⟨Nat.le_of_ble_eq_true rfl, Nat.le_of_ble_eq_true rfl⟩ dX7_restore_11 (k_SV (fun S_11 h_11 => ?_))
    obtain rfl := h_11
    refine y_iconst (v := 0) hB dX7_restore_14 rfl ?_
    refine y_istore_n (lv' := [(1, .int (iI (0))), (0, .ref (ad b (578)))]) hB dX7_restore_15 rfl (by decide) rfl ?_
    have LOOP_16 : ∀ (fu : Nat) (i : Int), (0 ≤ i ∧ i ≤ 656) → 656 - i < (fu : Int) → YM x G b 0 0 C (cpR (recS S) 579 581 0 i) 16 [(0, .ref (ad b (578))), (1, .int (iI (i)))] [] := by
      intro fu
      induction fu with
      | zero => intro i hi hm_16; exfalso; omega
      | succ fu ih_16 =>
        intro i hi hm_16
        refine y_iload_n hB 1 dX7_restore_16 rfl rfl ?_
        refine y_sipush (v := 656) hB dX7_restore_17 (by decide) ?_
        refine y_icmp_ge hB 41 dX7_restore_20 (by decide) (by omega) (by omega) (fun c_20 => ?_) (fun c_20 => ?_)
        · refine y_aload_n hB 0 dX7_restore_41 rfl rfl ?_
          refine gt_7_0 hB (by decide) (t1 := 579) (by omega) dX7_restore_42 ?_
          refine y_iconst (v := 0) hB dX7_restore_45 rfl ?_
          refine ald_21 hB (by decide) (t1 := (cpR (recS S) 579 581 0 i) 579 0) (by omega) rfl dX7_restore_46 ?_
          exact m_si hB hE dX7_restore_47 rfl (Or.inr (⟨by omega, by unfold cpR; rw [if_pos rfl]; exact if_pos (by omega), by rw [show i = 656 by omega]⟩))
        · refine y_aload_n hB 0 dX7_restore_23 rfl rfl ?_
          refine gt_7_0 hB (by decide) (t1 := 579) (by omega) dX7_restore_24 ?_
          refine y_iload_n hB 1 dX7_restore_27 rfl rfl ?_
          refine y_aload_n hB 0 dX7_restore_28 rfl rfl ?_
          refine gt_7_2 hB (by decide) (t1 := 581) (by omega) dX7_restore_29 ?_
          refine y_iload_n hB 1 dX7_restore_32 rfl rfl ?_
          refine ald_23 hB (by decide) (t1 := (cpR (recS S) 579 581 0 i) 581 i) (by omega) rfl dX7_restore_33 ?_
          refine ast_21 hB (by decide) (by omega) dX7_restore_34 ?_
          refine y_iinc (v := i + 1) (lv' := [(1, .int (iI (i + 1))), (0, .ref (ad b (578)))]) hB 1 dX7_restore_35 rfl (by omega) (by decide) rfl ?_
          refine y_goto hB 16 dX7_restore_38 (by decide) ?_
          refine y_sub (lv' := [(0, .ref (ad b (578))), (1, .int (iI (i + 1)))]) [1, 0] rfl ?_
          rw [cpR_s (by omega) (by omega) hi.1]
          exact ih_16 (i + 1) (by omega) (by omega)
    refine y_sub (lv' := [(0, .ref (ad b (578))), (1, .int (iI (0)))]) [1, 0] rfl ?_
    rw [← cpR_0 (recS S) 579 581 0]
    exact LOOP_16 (((656 : Int)).toNat + 1) 0 (by omega) (by omega)
  · refine y_bipush (v := -5) hB dX7_restore_7 (by decide) ?_
    exact m_si hB hE dX7_restore_9 rfl (Or.inl (⟨by omega, rfl, rfl⟩))
set_option maxHeartbeats 4000000 in
theorem tX7_due (l : Launch) (G : gG) (b : Nat) (C S : gM) (p N : Int) (hM : MO (S 579) N) (hN : N ≤ 512) (hp : 0 ≤ p ∧ p < 20) : Ct l G b yX7_due cX7_due 4 (some .int) rmX7_due [.ref (ad b (578)), .int (iI (p))] 586 (wM G b C S) (RI G b C S (fun v => isFirst (mChk (S 579) p) (S 579 (32 * p + 19)) v)) := by
  refine CtK_of (by decide) (Nat.le_of_ble_eq_true rfl) q880 ?_
  intro x hl hB hE _
  subst hl
  show YM x G b 0 0 C S 0 [(0, .ref (ad b (578))), (1, .int (iI (p)))] []
  obtain ⟨hm1, hm0, hm2, hm3, hm4, hm5, hm6, hm7, hm8, hmt, hmp, hmz⟩ := id hM
  obtain ⟨hp1, hp2, hp3, hp4, hp5, hp6, hp7, hpf⟩ := id (hmp p (by omega) (by omega))
  refine y_bipush (v := -5) hB dX7_due_0 (by decide) ?_
  refine y_istore_n (lv' := [(2, .int (iI (-5))), (0, .ref (ad b (578))), (1, .int (iI (p)))]) hB dX7_due_2 rfl (by decide) rfl ?_
  refine y_aload_n hB 1 dX7_due_3 rfl rfl ?_
  refine y_iload_n hB 2 dX7_due_4 rfl rfl ?_
  refine y_iconst (v := 3) hB dX7_due_5 rfl ?_
  refine m_V hB msX7_of q842 (tX7_of _ G b C S p 3 (32 * p + 19) (S 579 (32 * p + 19)) (by omega) (by omega) rfl) (t := 20) (by decide) (by decide) rfl rfl rfl rfl rfl ⟨Nat.le_of_ble_eq_true rfl, Nat.le_of_ble_eq_true rfl⟩ (Nat.le_of_ble_eq_true rfl) ⟨rfl, rfl⟩ ⟨Nat.le_of_ble_eq_true rfl, Nat.le_of_ble_eq_true rfl⟩ dX7_due_6 (k_RI (fun v_6 h_6 => ?_))
  obtain rfl := h_6
  refine y_iconst (v := 1) hB dX7_due_9 rfl ?_
  refine y_isub (t := (S 579 (32 * p + 19)) - 1) hB dX7_due_10 (by omega) ?_
  refine y_istore_n (lv' := [(3, .int (iI ((S 579 (32 * p + 19)) - 1))), (2, .int (iI (-5))), (0, .ref (ad b (578))), (1, .int (iI (p)))]) hB dX7_due_11 rfl (by decide) rfl ?_
  have LOOP_12 : ∀ (fu : Nat) (r v : Int), (-1 ≤ r ∧ r < S 579 (32 * p + 19)) → ((v = -5 ∧ ∀ j, r < j → j < S 579 (32 * p + 19) → ¬ mChk (S 579) p j) ∨ (r < v ∧ v < S 579 (32 * p + 19) ∧ mChk (S 579) p v ∧ ∀ j, r < j → j < v → ¬ mChk (S 579) p j)) → r + 1 < (fu : Int) → YM x G b 0 0 C S 12 [(0, .ref (ad b (578))), (1, .int (iI (p))), (2, .int (iI (v))), (3, .int (iI (r)))] [] := by
    intro fu
    induction fu with
    | zero => intro r v hr hv hm_12; exfalso; omega
    | succ fu ih_12 =>
      intro r v hr hv hm_12
      refine y_iload_n hB 3 dX7_due_12 rfl rfl ?_
      refine y_if_lt hB 64 dX7_due_13 (by decide) (by omega) (fun c_13 => ?_) (fun c_13 => ?_)
      · refine y_iload_n hB 2 dX7_due_64 rfl rfl ?_
        exact m_ri hB hE dX7_due_65 rfl (by rcases hv with ⟨g1, g2⟩ | ⟨g1, g2, g3, g4⟩; exact Or.inl ⟨g1, fun j a1 a2 => g2 j (by omega) a2⟩; exact Or.inr ⟨by omega, g2, g3, fun j a1 a2 => g4 j (by omega) a2⟩)
      · have hf := hpf r (by omega) (by omega)
        refine y_aload_n hB 0 dX7_due_16 rfl rfl ?_
        refine gt_7_0 hB (by decide) (t1 := 579) (by omega) dX7_due_17 ?_
        refine y_iload_n hB 1 dX7_due_20 rfl rfl ?_
        refine y_iload_n hB 3 dX7_due_21 rfl rfl ?_
        refine m_S hB msX7_f q846 (tX7_f _ G b C S p r (32 * p + 3 * r + 24) (by omega)) rfl rfl ⟨Nat.le_of_ble_eq_true rfl, Nat.le_of_ble_eq_true rfl⟩ (Nat.le_of_ble_eq_true rfl) ⟨rfl, rfl⟩ ⟨Nat.le_of_ble_eq_true rfl, Nat.le_of_ble_eq_true rfl⟩ dX7_due_22 (k_RI (fun v_22 h_22 => ?_))
        obtain rfl := h_22
        refine y_iconst (v := 2) hB dX7_due_25 rfl ?_
        refine y_iadd (t := 32 * p + 3 * r + 26) hB dX7_due_26 (by omega) ?_
        refine ald_21 hB (by decide) (t1 := S 579 (32 * p + 3 * r + 26)) (by omega) rfl dX7_due_27 ?_
        refine y_aload_n hB 0 dX7_due_28 rfl rfl ?_
        refine gt_7_0 hB (by decide) (t1 := 579) (by omega) dX7_due_29 ?_
        refine y_iconst (v := 0) hB dX7_due_32 rfl ?_
        refine ald_21 hB (by decide) (t1 := S 579 0) (by omega) rfl dX7_due_33 ?_
        refine y_icmp_eq hB 56 dX7_due_34 (by decide) (by omega) (by omega) (fun c_34 => ?_) (fun c_34 => ?_)
        · have hnc : ¬ mChk (S 579) p r := fun z => z.1 (by omega)
          refine y_iload_n hB 2 dX7_due_56 rfl rfl ?_
          refine y_istore_n (lv' := [(2, .int (iI (v))), (0, .ref (ad b (578))), (1, .int (iI (p))), (3, .int (iI (r)))]) hB dX7_due_57 rfl (by decide) rfl ?_
          refine y_iinc (v := r - 1) (lv' := [(3, .int (iI (r - 1))), (2, .int (iI (v))), (0, .ref (ad b (578))), (1, .int (iI (p)))]) hB 3 dX7_due_58 rfl (by omega) (by decide) rfl ?_
          refine y_goto hB 12 dX7_due_61 (by decide) ?_
          refine y_sub (lv' := [(0, .ref (ad b (578))), (1, .int (iI (p))), (2, .int (iI (v))), (3, .int (iI (r - 1)))]) [2, 3, 1, 0] rfl ?_
          exact ih_12 (r - 1) v (by omega) (by rcases hv with ⟨g1, g2⟩ | ⟨g1, g2, g3, g4⟩; exact Or.inl ⟨g1, fun j a1 a2 => by rcases (show j = r ∨ r < j by omega) with a3 | a3; rw [a3]; exact hnc; exact g2 j a3 a2⟩; exact Or.inr ⟨by omega, g2, g3, fun j a1 a2 => by rcases (show j = r ∨ r < j by omega) with a3 | a3; rw [a3]; exact hnc; exact g4 j a3 a2⟩) (by omega)
        · refine y_aload_n hB 0 dX7_due_37 rfl rfl ?_
          refine y_iload_n hB 1 dX7_due_38 rfl rfl ?_
          refine y_iload_n hB 3 dX7_due_39 rfl rfl ?_
          refine y_aload_n hB 0 dX7_due_40 rfl rfl ?_
          refine gt_7_0 hB (by decide) (t1 := 579) (by omega) dX7_due_41 ?_
          refine y_iconst (v := 0) hB dX7_due_44 rfl ?_
          refine ald_21 hB (by decide) (t1 := S 579 0) (by omega) rfl dX7_due_45 ?_
          refine m_V hB msX7_isStaleOn q881 (tX7_isStaleOn _ G b C S p r (S 579 0) N hM hN (by omega) (by omega) (by omega)) (t := 20) (by decide) (by decide) rfl rfl rfl rfl rfl ⟨Nat.le_of_ble_eq_true rfl, Nat.le_of_ble_eq_true rfl⟩ (Nat.le_of_ble_eq_true rfl) ⟨rfl, rfl⟩ ⟨Nat.le_of_ble_eq_true rfl, Nat.le_of_ble_eq_true rfl⟩ dX7_due_46 (k_RI (fun v_46 h_46 => ?_))
          have hb_46 := mFst_b (S 579) p (S 579 0) r
          refine y_if_eq hB 56 dX7_due_49 (by decide) (by omega) (fun c_49 => ?_) (fun c_49 => ?_)
          · have hnc : ¬ mChk (S 579) p r := fun z => by have := z.2; omega
            refine y_iload_n hB 2 dX7_due_56 rfl rfl ?_
            refine y_istore_n (lv' := [(2, .int (iI (v))), (0, .ref (ad b (578))), (1, .int (iI (p))), (3, .int (iI (r)))]) hB dX7_due_57 rfl (by decide) rfl ?_
            refine y_iinc (v := r - 1) (lv' := [(3, .int (iI (r - 1))), (2, .int (iI (v))), (0, .ref (ad b (578))), (1, .int (iI (p)))]) hB 3 dX7_due_58 rfl (by omega) (by decide) rfl ?_
            refine y_goto hB 12 dX7_due_61 (by decide) ?_
            refine y_sub (lv' := [(0, .ref (ad b (578))), (1, .int (iI (p))), (2, .int (iI (v))), (3, .int (iI (r - 1)))]) [2, 3, 1, 0] rfl ?_
            exact ih_12 (r - 1) v (by omega) (by rcases hv with ⟨g1, g2⟩ | ⟨g1, g2, g3, g4⟩; exact Or.inl ⟨g1, fun j a1 a2 => by rcases (show j = r ∨ r < j by omega) with a3 | a3; rw [a3]; exact hnc; exact g2 j a3 a2⟩; exact Or.inr ⟨by omega, g2, g3, fun j a1 a2 => by rcases (show j = r ∨ r < j by omega) with a3 | a3; rw [a3]; exact hnc; exact g4 j a3 a2⟩) (by omega)
          · refine y_iload_n hB 3 dX7_due_52 rfl rfl ?_
            refine y_goto hB 57 dX7_due_53 (by decide) ?_
            refine y_istore_n (lv' := [(2, .int (iI (r))), (0, .ref (ad b (578))), (1, .int (iI (p))), (3, .int (iI (r)))]) hB dX7_due_57 rfl (by decide) rfl ?_
            refine y_iinc (v := r - 1) (lv' := [(3, .int (iI (r - 1))), (2, .int (iI (r))), (0, .ref (ad b (578))), (1, .int (iI (p)))]) hB 3 dX7_due_58 rfl (by omega) (by decide) rfl ?_
            refine y_goto hB 12 dX7_due_61 (by decide) ?_
            refine y_sub (lv' := [(0, .ref (ad b (578))), (1, .int (iI (p))), (2, .int (iI (r))), (3, .int (iI (r - 1)))]) [2, 3, 1, 0] rfl ?_
            exact ih_12 (r - 1) r (by omega) (Or.inr ⟨by omega, by omega, ⟨by omega, by omega⟩, fun j a1 a2 => by omega⟩) (by omega)
  refine y_sub (lv' := [(0, .ref (ad b (578))), (1, .int (iI (p))), (2, .int (iI (-5))), (3, .int (iI ((S 579 (32 * p + 19)) - 1)))]) [2, 3, 1, 0] rfl ?_
  exact LOOP_12 ((S 579 (32 * p + 19)).toNat + 1) (S 579 (32 * p + 19) - 1) (-5) (by omega) (Or.inl ⟨rfl, fun j a1 a2 => by omega⟩) (by omega)
set_option maxHeartbeats 4000000 in
theorem tX7_mostUrgent (l : Launch) (G : gG) (b : Nat) (C S : gM) (N : Int) (hM : MO (S 579) N) (hN : N ≤ 512) : Ct l G b yX7_mostUrgent cX7_mostUrgent 4 (some .int) rmX7_mostUrgent [.ref (ad b (578))] 586 (wM G b C S) (RI G b C S (fun v => isBest (mDue (S 579)) (mUrg (S 579)) (S 579 1) v)) := by
  refine CtK_of (by decide) (Nat.le_of_ble_eq_true rfl) q876 ?_
  intro x hl hB hE _
  subst hl
  show YM x G b 0 0 C S 0 [(0, .ref (ad b (578)))] []
  obtain ⟨hm1, hm0, hm2, hm3, hm4, hm5, hm6, hm7, hm8, hmt, hmp, hmz⟩ := id hM
  refine y_bipush (v := -5) hB dX7_mostUrgent_0 (by decide) ?_
  refine y_istore_n (lv' := [(1, .int (iI (-5))), (0, .ref (ad b (578)))]) hB dX7_mostUrgent_2 rfl (by decide) rfl ?_
  refine y_iconst (v := 0) hB dX7_mostUrgent_3 rfl ?_
  refine y_istore_n (lv' := [(2, .int (iI (0))), (1, .int (iI (-5))), (0, .ref (ad b (578)))]) hB dX7_mostUrgent_4 rfl (by decide) rfl ?_
  have LOOP_5 : ∀ (fu : Nat) (i v : Int), (0 ≤ i ∧ i ≤ S 579 1) → (isBest (mDue (S 579)) (mUrg (S 579)) i v) → S 579 1 - i < (fu : Int) → YM x G b 0 0 C S 5 [(0, .ref (ad b (578))), (1, .int (iI (v))), (2, .int (iI (i)))] [] := by
    intro fu
    induction fu with
    | zero => intro i v hi hb hm_5; exfalso; omega
    | succ fu ih_5 =>
      intro i v hi hb hm_5
      have hvr : v = -5 ∨ (0 ≤ v ∧ v < i) := by rcases hb with ⟨g1, g2⟩ | ⟨g1, g2, g3⟩; exact Or.inl g1; exact Or.inr ⟨g1, g2⟩
      refine y_iload_n hB 2 dX7_mostUrgent_5 rfl rfl ?_
      refine y_aload_n hB 0 dX7_mostUrgent_6 rfl rfl ?_
      refine gt_7_0 hB (by decide) (t1 := 579) (by omega) dX7_mostUrgent_7 ?_
      refine y_iconst (v := 1) hB dX7_mostUrgent_10 rfl ?_
      refine ald_21 hB (by decide) (t1 := S 579 1) (by omega) rfl dX7_mostUrgent_11 ?_
      refine y_icmp_ge hB 75 dX7_mostUrgent_12 (by decide) (by omega) (by omega) (fun c_12 => ?_) (fun c_12 => ?_)
      · refine y_iload_n hB 1 dX7_mostUrgent_75 rfl rfl ?_
        exact m_ri hB hE dX7_mostUrgent_76 rfl (by rw [show S 579 1 = i by omega]; exact hb)
      · obtain ⟨hp1, hp2, hp3, hp4, hp5, hp6, hp7, hpf⟩ := id (hmp i (by omega) (by omega))
        have hub := mUrg_b (hmp i (by omega) (by omega))
        refine y_aload_n hB 0 dX7_mostUrgent_15 rfl rfl ?_
        refine y_iload_n hB 2 dX7_mostUrgent_16 rfl rfl ?_
        refine y_iconst (v := 2) hB dX7_mostUrgent_17 rfl ?_
        refine m_V hB msX7_of q842 (tX7_of _ G b C S i 2 (32 * i + 18) (S 579 (32 * i + 18)) (by omega) (by omega) rfl) (t := 20) (by decide) (by decide) rfl rfl rfl rfl rfl ⟨Nat.le_of_ble_eq_true rfl, Nat.le_of_ble_eq_true rfl⟩ (Nat.le_of_ble_eq_true rfl) ⟨rfl, rfl⟩ ⟨Nat.le_of_ble_eq_true rfl, Nat.le_of_ble_eq_true rfl⟩ dX7_mostUrgent_18 (k_RI (fun v_18 h_18 => ?_))
        obtain rfl := h_18
        refine y_if_ne hB 38 dX7_mostUrgent_21 (by decide) (by omega) (fun c_21 => ?_) (fun c_21 => ?_)
        · have hnd : ¬ mDue (S 579) i := fun z => by have := z.1; omega
          have hb2 := isBest_no hb hi.1 hnd
          refine y_iconst (v := 0) hB dX7_mostUrgent_38 rfl ?_
          refine y_istore_n (lv' := [(3, .int (iI (0))), (0, .ref (ad b (578))), (1, .int (iI (v))), (2, .int (iI (i)))]) hB dX7_mostUrgent_39 rfl (by decide) rfl ?_
          refine y_iload_n hB 0 dX7_mostUrgent_40 rfl rfl ?_
          refine y_if_eq hB 67 dX7_mostUrgent_41 (by decide) (by omega) (fun c_41 => ?_) (fun c_41 => ?_)
          · refine y_iload_n hB 2 dX7_mostUrgent_67 rfl rfl ?_
            refine y_istore_n (lv' := [(1, .int (iI (v))), (3, .int (iI (0))), (0, .ref (ad b (578))), (2, .int (iI (i)))]) hB dX7_mostUrgent_68 rfl (by decide) rfl ?_
            refine y_iinc (v := i + 1) (lv' := [(2, .int (iI (i + 1))), (1, .int (iI (v))), (3, .int (iI (0))), (0, .ref (ad b (578)))]) hB 3 dX7_mostUrgent_69 rfl (by omega) (by decide) rfl ?_
            refine y_goto hB 5 dX7_mostUrgent_72 (by decide) ?_
            refine y_sub (lv' := [(0, .ref (ad b (578))), (1, .int (iI (v))), (2, .int (iI (i + 1)))]) [3, 1, 0] rfl ?_
            exact ih_5 (i + 1) v (by omega) hb2 (by omega)
          · exfalso
            omega
        · refine y_aload_n hB 0 dX7_mostUrgent_24 rfl rfl ?_
          refine y_iload_n hB 2 dX7_mostUrgent_25 rfl rfl ?_
          refine m_V hB msX7_due q877 (tX7_due _ G b C S i N hM hN (by omega)) (t := 20) (by decide) (by decide) rfl rfl rfl rfl rfl ⟨Nat.le_of_ble_eq_true rfl, Nat.le_of_ble_eq_true rfl⟩ (Nat.le_of_ble_eq_true rfl) ⟨rfl, rfl⟩ ⟨Nat.le_of_ble_eq_true rfl, Nat.le_of_ble_eq_true rfl⟩ dX7_mostUrgent_26 (k_RI (fun v_26 h_26 => ?_))
          have hdu := mDue_iff h_26 (by omega)
          have hv26 : -5 ≤ v_26 ∧ v_26 ≤ 8 := by rcases h_26 with ⟨g1, g2⟩ | ⟨g1, g2, g3⟩ <;> omega
          refine y_bipush (v := -5) hB dX7_mostUrgent_29 (by decide) ?_
          refine y_icmp_eq hB 38 dX7_mostUrgent_31 (by decide) (by omega) (by omega) (fun c_31 => ?_) (fun c_31 => ?_)
          · have hnd : ¬ mDue (S 579) i := fun z => hdu.mp z (by omega)
            have hb2 := isBest_no hb hi.1 hnd
            refine y_iconst (v := 0) hB dX7_mostUrgent_38 rfl ?_
            refine y_istore_n (lv' := [(3, .int (iI (0))), (0, .ref (ad b (578))), (1, .int (iI (v))), (2, .int (iI (i)))]) hB dX7_mostUrgent_39 rfl (by decide) rfl ?_
            refine y_iload_n hB 0 dX7_mostUrgent_40 rfl rfl ?_
            refine y_if_eq hB 67 dX7_mostUrgent_41 (by decide) (by omega) (fun c_41 => ?_) (fun c_41 => ?_)
            · refine y_iload_n hB 2 dX7_mostUrgent_67 rfl rfl ?_
              refine y_istore_n (lv' := [(1, .int (iI (v))), (3, .int (iI (0))), (0, .ref (ad b (578))), (2, .int (iI (i)))]) hB dX7_mostUrgent_68 rfl (by decide) rfl ?_
              refine y_iinc (v := i + 1) (lv' := [(2, .int (iI (i + 1))), (1, .int (iI (v))), (3, .int (iI (0))), (0, .ref (ad b (578)))]) hB 3 dX7_mostUrgent_69 rfl (by omega) (by decide) rfl ?_
              refine y_goto hB 5 dX7_mostUrgent_72 (by decide) ?_
              refine y_sub (lv' := [(0, .ref (ad b (578))), (1, .int (iI (v))), (2, .int (iI (i + 1)))]) [3, 1, 0] rfl ?_
              exact ih_5 (i + 1) v (by omega) hb2 (by omega)
            · exfalso
              omega
          · have hdi : mDue (S 579) i := hdu.mpr (by omega)
            refine y_iconst (v := 1) hB dX7_mostUrgent_34 rfl ?_
            refine y_goto hB 39 dX7_mostUrgent_35 (by decide) ?_
            refine y_istore_n (lv' := [(3, .int (iI (1))), (0, .ref (ad b (578))), (1, .int (iI (v))), (2, .int (iI (i)))]) hB dX7_mostUrgent_39 rfl (by decide) rfl ?_
            refine y_iload_n hB 0 dX7_mostUrgent_40 rfl rfl ?_
            refine y_if_eq hB 67 dX7_mostUrgent_41 (by decide) (by omega) (fun c_41 => ?_) (fun c_41 => ?_)
            · exfalso
              omega
            · refine y_iload_n hB 2 dX7_mostUrgent_44 rfl rfl ?_
              refine y_bipush (v := -5) hB dX7_mostUrgent_45 (by decide) ?_
              refine y_icmp_eq hB 63 dX7_mostUrgent_47 (by decide) (by omega) (by omega) (fun c_47 => ?_) (fun c_47 => ?_)
              · refine y_iload_n hB 3 dX7_mostUrgent_63 rfl rfl ?_
                refine y_goto hB 68 dX7_mostUrgent_64 (by decide) ?_
                refine y_istore_n (lv' := [(1, .int (iI (i))), (3, .int (iI (1))), (0, .ref (ad b (578))), (2, .int (iI (i)))]) hB dX7_mostUrgent_68 rfl (by decide) rfl ?_
                refine y_iinc (v := i + 1) (lv' := [(2, .int (iI (i + 1))), (1, .int (iI (i))), (3, .int (iI (1))), (0, .ref (ad b (578)))]) hB 3 dX7_mostUrgent_69 rfl (by omega) (by decide) rfl ?_
                refine y_goto hB 5 dX7_mostUrgent_72 (by decide) ?_
                refine y_sub (lv' := [(0, .ref (ad b (578))), (1, .int (iI (i))), (2, .int (iI (i + 1)))]) [3, 1, 0] rfl ?_
                exact ih_5 (i + 1) i (by omega) (isBest_new hb hi.1 hdi (by omega)) (by omega)
              · have hvb := mUrg_b (hmp v (by omega) (by omega))
                refine y_aload_n hB 1 dX7_mostUrgent_50 rfl rfl ?_
                refine y_iload_n hB 3 dX7_mostUrgent_51 rfl rfl ?_
                refine m_V hB msX7_urgency q891 (tX7_urgency _ G b C S i N hM hN (by omega)) (t := 20) (by decide) (by decide) rfl rfl rfl rfl rfl ⟨Nat.le_of_ble_eq_true rfl, Nat.le_of_ble_eq_true rfl⟩ (Nat.le_of_ble_eq_true rfl) ⟨rfl, rfl⟩ ⟨Nat.le_of_ble_eq_true rfl, Nat.le_of_ble_eq_true rfl⟩ dX7_mostUrgent_52 (k_RI (fun v_52 h_52 => ?_))
                refine y_aload_n hB 1 dX7_mostUrgent_55 rfl rfl ?_
                refine y_iload_n hB 2 dX7_mostUrgent_56 rfl rfl ?_
                refine m_V hB msX7_urgency q891 (tX7_urgency _ G b C S v N hM hN (by omega)) (t := 20) (by decide) (by decide) rfl rfl rfl rfl rfl ⟨Nat.le_of_ble_eq_true rfl, Nat.le_of_ble_eq_true rfl⟩ (Nat.le_of_ble_eq_true rfl) ⟨rfl, rfl⟩ ⟨Nat.le_of_ble_eq_true rfl, Nat.le_of_ble_eq_true rfl⟩ dX7_mostUrgent_57 (k_RI (fun v_57 h_57 => ?_))
                refine y_icmp_le hB 67 dX7_mostUrgent_60 (by decide) (by omega) (by omega) (fun c_60 => ?_) (fun c_60 => ?_)
                · have hb2 := isBest_old hb hi.1 (by omega) (by omega)
                  refine y_iload_n hB 2 dX7_mostUrgent_67 rfl rfl ?_
                  refine y_istore_n (lv' := [(1, .int (iI (v))), (3, .int (iI (1))), (0, .ref (ad b (578))), (2, .int (iI (i)))]) hB dX7_mostUrgent_68 rfl (by decide) rfl ?_
                  refine y_iinc (v := i + 1) (lv' := [(2, .int (iI (i + 1))), (1, .int (iI (v))), (3, .int (iI (1))), (0, .ref (ad b (578)))]) hB 3 dX7_mostUrgent_69 rfl (by omega) (by decide) rfl ?_
                  refine y_goto hB 5 dX7_mostUrgent_72 (by decide) ?_
                  refine y_sub (lv' := [(0, .ref (ad b (578))), (1, .int (iI (v))), (2, .int (iI (i + 1)))]) [3, 1, 0] rfl ?_
                  exact ih_5 (i + 1) v (by omega) hb2 (by omega)
                · refine y_iload_n hB 3 dX7_mostUrgent_63 rfl rfl ?_
                  refine y_goto hB 68 dX7_mostUrgent_64 (by decide) ?_
                  refine y_istore_n (lv' := [(1, .int (iI (i))), (3, .int (iI (1))), (0, .ref (ad b (578))), (2, .int (iI (i)))]) hB dX7_mostUrgent_68 rfl (by decide) rfl ?_
                  refine y_iinc (v := i + 1) (lv' := [(2, .int (iI (i + 1))), (1, .int (iI (i))), (3, .int (iI (1))), (0, .ref (ad b (578)))]) hB 3 dX7_mostUrgent_69 rfl (by omega) (by decide) rfl ?_
                  refine y_goto hB 5 dX7_mostUrgent_72 (by decide) ?_
                  refine y_sub (lv' := [(0, .ref (ad b (578))), (1, .int (iI (i))), (2, .int (iI (i + 1)))]) [3, 1, 0] rfl ?_
                  exact ih_5 (i + 1) i (by omega) (isBest_new hb hi.1 hdi (by omega)) (by omega)
  refine y_sub (lv' := [(0, .ref (ad b (578))), (1, .int (iI (-5))), (2, .int (iI (0)))]) [2, 1, 0] rfl ?_
  exact LOOP_5 ((S 579 1).toNat + 1) 0 (-5) (by omega) (isBest_0 _ _) (by omega)
set_option maxHeartbeats 4000000 in
theorem tX7_isAhead (l : Launch) (G : gG) (b : Nat) (C S : gM) (u t N : Int) (hM : MO (S 579) N) (hN : N ≤ 512) (hu : 0 ≤ u ∧ u < 20) (ht : 0 ≤ t ∧ t < 20) : Ct l G b yX7_isAhead cX7_isAhead 4 (some .boolean) rmX7_isAhead [.ref (ad b (578)), .int (iI (u)), .int (iI (t))] 586 (wM G b C S) (RI G b C S (fun v => (v = 1 ∧ mAh (S 579) u t) ∨ (v = 0 ∧ ¬ mAh (S 579) u t))) := by
  refine CtK_of (by decide) (Nat.le_of_ble_eq_true rfl) q941 ?_
  intro x hl hB hE _
  subst hl
  show YM x G b 0 0 C S 0 [(0, .ref (ad b (578))), (1, .int (iI (u))), (2, .int (iI (t)))] []
  obtain ⟨hm1, hm0, hm2, hm3, hm4, hm5, hm6, hm7, hm8, hmt, hmp, hmz⟩ := id hM
  have hpu := hmp u hu.1 hu.2
  have hpt := hmp t ht.1 ht.2
  obtain ⟨hu1, hu2, hu3, hu4, hu5, hu6⟩ := hpu
  obtain ⟨ht1, ht2, ht3, ht4, ht5, ht6⟩ := hpt
  refine y_aload_n hB 0 dX7_isAhead_0 rfl rfl ?_
  refine y_iload_n hB 2 dX7_isAhead_1 rfl rfl ?_
  refine y_iconst (v := 1) hB dX7_isAhead_2 rfl ?_
  refine m_V hB msX7_of q842 (tX7_of _ G b C S t 1 (32 * t + 17) (S 579 (32 * t + 17)) (by omega) (by omega) rfl) (t := 20) (by decide) (by decide) rfl rfl rfl rfl rfl ⟨Nat.le_of_ble_eq_true rfl, Nat.le_of_ble_eq_true rfl⟩ (Nat.le_of_ble_eq_true rfl) ⟨rfl, rfl⟩ ⟨Nat.le_of_ble_eq_true rfl, Nat.le_of_ble_eq_true rfl⟩ dX7_isAhead_3 (k_RI (fun v_3 h_3 => ?_))
  obtain rfl := h_3
  refine y_aload_n hB 0 dX7_isAhead_6 rfl rfl ?_
  refine y_iload_n hB 1 dX7_isAhead_7 rfl rfl ?_
  refine y_iconst (v := 1) hB dX7_isAhead_8 rfl ?_
  refine m_V hB msX7_of q842 (tX7_of _ G b C S u 1 (32 * u + 17) (S 579 (32 * u + 17)) (by omega) (by omega) rfl) (t := 20) (by decide) (by decide) rfl rfl rfl rfl rfl ⟨Nat.le_of_ble_eq_true rfl, Nat.le_of_ble_eq_true rfl⟩ (Nat.le_of_ble_eq_true rfl) ⟨rfl, rfl⟩ ⟨Nat.le_of_ble_eq_true rfl, Nat.le_of_ble_eq_true rfl⟩ dX7_isAhead_9 (k_RI (fun v_9 h_9 => ?_))
  obtain rfl := h_9
  refine y_isub (t := (S 579 (32 * t + 17)) - (S 579 (32 * u + 17))) hB dX7_isAhead_12 (by omega) ?_
  refine y_istore_n (lv' := [(3, .int (iI ((S 579 (32 * t + 17)) - (S 579 (32 * u + 17))))), (0, .ref (ad b (578))), (1, .int (iI (u))), (2, .int (iI (t)))]) hB dX7_isAhead_13 rfl (by decide) rfl ?_
  refine y_iload_n hB 0 dX7_isAhead_14 rfl rfl ?_
  refine y_if_eq hB 22 dX7_isAhead_15 (by decide) (by omega) (fun c_15 => ?_) (fun c_15 => ?_)
  · refine y_aload_n hB 1 dX7_isAhead_22 rfl rfl ?_
    refine y_iload_n hB 2 dX7_isAhead_23 rfl rfl ?_
    refine y_iconst (v := 4) hB dX7_isAhead_24 rfl ?_
    refine m_V hB msX7_of q842 (tX7_of _ G b C S u 4 (32 * u + 20) (S 579 (32 * u + 20)) (by omega) (by omega) rfl) (t := 20) (by decide) (by decide) rfl rfl rfl rfl rfl ⟨Nat.le_of_ble_eq_true rfl, Nat.le_of_ble_eq_true rfl⟩ (Nat.le_of_ble_eq_true rfl) ⟨rfl, rfl⟩ ⟨Nat.le_of_ble_eq_true rfl, Nat.le_of_ble_eq_true rfl⟩ dX7_isAhead_25 (k_RI (fun v_25 h_25 => ?_))
    obtain rfl := h_25
    refine y_aload_n hB 1 dX7_isAhead_28 rfl rfl ?_
    refine y_iload_n hB 3 dX7_isAhead_29 rfl rfl ?_
    refine y_iconst (v := 4) hB dX7_isAhead_30 rfl ?_
    refine m_V hB msX7_of q842 (tX7_of _ G b C S t 4 (32 * t + 20) (S 579 (32 * t + 20)) (by omega) (by omega) rfl) (t := 20) (by decide) (by decide) rfl rfl rfl rfl rfl ⟨Nat.le_of_ble_eq_true rfl, Nat.le_of_ble_eq_true rfl⟩ (Nat.le_of_ble_eq_true rfl) ⟨rfl, rfl⟩ ⟨Nat.le_of_ble_eq_true rfl, Nat.le_of_ble_eq_true rfl⟩ dX7_isAhead_31 (k_RI (fun v_31 h_31 => ?_))
    obtain rfl := h_31
    refine y_isub (t := -((S 579 (32 * t + 20))) + (S 579 (32 * u + 20))) hB dX7_isAhead_34 (by omega) ?_
    refine y_istore_n (lv' := [(3, .int (iI (-((S 579 (32 * t + 20))) + (S 579 (32 * u + 20))))), (0, .ref (ad b (578))), (1, .int (iI (u))), (2, .int (iI (t)))]) hB dX7_isAhead_35 rfl (by decide) rfl ?_
    refine y_iload_n hB 0 dX7_isAhead_36 rfl rfl ?_
    refine y_if_lt hB 49 dX7_isAhead_37 (by decide) (by omega) (fun c_37 => ?_) (fun c_37 => ?_)
    · refine y_iconst (v := 1) hB dX7_isAhead_49 rfl ?_
      refine y_goto hB 54 dX7_isAhead_50 (by decide) ?_
      exact m_ri hB hE dX7_isAhead_54 rfl (by unfold mAh; omega)
    · refine y_iload_n hB 0 dX7_isAhead_40 rfl rfl ?_
      refine y_if_ne hB 53 dX7_isAhead_41 (by decide) (by omega) (fun c_41 => ?_) (fun c_41 => ?_)
      · refine y_iconst (v := 0) hB dX7_isAhead_53 rfl ?_
        exact m_ri hB hE dX7_isAhead_54 rfl (by unfold mAh; omega)
      · refine y_iload_n hB 2 dX7_isAhead_44 rfl rfl ?_
        refine y_iload_n hB 3 dX7_isAhead_45 rfl rfl ?_
        refine y_icmp_ge hB 53 dX7_isAhead_46 (by decide) (by omega) (by omega) (fun c_46 => ?_) (fun c_46 => ?_)
        · refine y_iconst (v := 0) hB dX7_isAhead_53 rfl ?_
          exact m_ri hB hE dX7_isAhead_54 rfl (by unfold mAh; omega)
        · refine y_iconst (v := 1) hB dX7_isAhead_49 rfl ?_
          refine y_goto hB 54 dX7_isAhead_50 (by decide) ?_
          exact m_ri hB hE dX7_isAhead_54 rfl (by unfold mAh; omega)
  · refine y_iload_n hB 0 dX7_isAhead_18 rfl rfl ?_
    refine y_goto hB 35 dX7_isAhead_19 (by decide) ?_
    refine y_istore_n (lv' := [(3, .int (iI ((S 579 (32 * t + 17)) - (S 579 (32 * u + 17))))), (0, .ref (ad b (578))), (1, .int (iI (u))), (2, .int (iI (t)))]) hB dX7_isAhead_35 rfl (by decide) rfl ?_
    refine y_iload_n hB 0 dX7_isAhead_36 rfl rfl ?_
    refine y_if_lt hB 49 dX7_isAhead_37 (by decide) (by omega) (fun c_37 => ?_) (fun c_37 => ?_)
    · refine y_iconst (v := 1) hB dX7_isAhead_49 rfl ?_
      refine y_goto hB 54 dX7_isAhead_50 (by decide) ?_
      exact m_ri hB hE dX7_isAhead_54 rfl (by unfold mAh; omega)
    · refine y_iload_n hB 0 dX7_isAhead_40 rfl rfl ?_
      refine y_if_ne hB 53 dX7_isAhead_41 (by decide) (by omega) (fun c_41 => ?_) (fun c_41 => ?_)
      · refine y_iconst (v := 0) hB dX7_isAhead_53 rfl ?_
        exact m_ri hB hE dX7_isAhead_54 rfl (by unfold mAh; omega)
      · refine y_iload_n hB 2 dX7_isAhead_44 rfl rfl ?_
        refine y_iload_n hB 3 dX7_isAhead_45 rfl rfl ?_
        refine y_icmp_ge hB 53 dX7_isAhead_46 (by decide) (by omega) (by omega) (fun c_46 => ?_) (fun c_46 => ?_)
        · refine y_iconst (v := 0) hB dX7_isAhead_53 rfl ?_
          exact m_ri hB hE dX7_isAhead_54 rfl (by unfold mAh; omega)
        · refine y_iconst (v := 1) hB dX7_isAhead_49 rfl ?_
          refine y_goto hB 54 dX7_isAhead_50 (by decide) ?_
          exact m_ri hB hE dX7_isAhead_54 rfl (by unfold mAh; omega)
