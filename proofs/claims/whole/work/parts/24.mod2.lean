/-! rows copied; what an act leaves -/
def shf (S : gM) (n : Int) : gM := fun a => if a = 580 then (fun k => if 0 ≤ k ∧ k < n then S 580 (k + 656) else S 580 k) else S a
theorem shf_ne {S : gM} {n a : Int} (h : a ≠ 580) : shf S n a = S a := by unfold shf; rw [if_neg h]
theorem shf_0 (S : gM) : shf S 0 = S := by
  funext a k
  unfold shf
  by_cases h : a = 580
  · rw [if_pos h, h]; exact if_neg (by omega)
  · rw [if_neg h]
theorem shf_s {S : gM} {n : Int} (hn : 0 ≤ n) : up2 (shf S n) 580 n (shf S n 580 (n + 656)) = shf S (n + 1) := by
  funext a k
  by_cases h : a = 580
  · subst h
    rw [rd_at]
    have e : shf S n 580 (n + 656) = S 580 (n + 656) := by unfold shf; rw [if_pos rfl]; exact if_neg (by omega)
    by_cases hk : k = n
    · rw [if_pos hk, e]; unfold shf; rw [if_pos rfl, hk]; exact (if_pos (by omega)).symm
    · rw [if_neg hk]; unfold shf; rw [if_pos rfl, if_pos rfl]; exact ite_c (by omega)
  · rw [up2_ne _ _ _ h, shf_ne h, shf_ne h]
def cpB (S : gM) (h n : Int) : gM := fun a => if a = 580 then (fun k => if 656 * h ≤ k ∧ k < 656 * h + n then S 579 (k - 656 * h) else S 580 k) else S a
theorem cpB_ne {S : gM} {h n a : Int} (ha : a ≠ 580) : cpB S h n a = S a := by unfold cpB; rw [if_neg ha]
theorem cpB_0 (S : gM) (h : Int) : cpB S h 0 = S := by
  funext a k
  unfold cpB
  by_cases ha : a = 580
  · rw [if_pos ha, ha]; exact if_neg (by omega)
  · rw [if_neg ha]
theorem cpB_s {S : gM} {h n : Int} (hn : 0 ≤ n) : up2 (cpB S h n) 580 (656 * h + n) (cpB S h n 579 n) = cpB S h (n + 1) := by
  funext a k
  by_cases ha : a = 580
  · subst ha
    rw [rd_at, cpB_ne (by omega)]
    by_cases hk : k = 656 * h + n
    · rw [if_pos hk]; unfold cpB; rw [if_pos rfl, hk, show 656 * h + n - 656 * h = n by omega]; exact (if_pos (by omega)).symm
    · rw [if_neg hk]; unfold cpB; rw [if_pos rfl, if_pos rfl]; exact ite_c (by omega)
  · rw [up2_ne _ _ _ ha, cpB_ne ha, cpB_ne ha]
def recB (S : gM) : gM := if S 578 9 = 4 then up2 (shf S 1968) 578 9 3 else S
def recH (S : gM) : Int := if S 578 9 = 4 then 3 else S 578 9
def recS (S : gM) : gM := up2 (cpB (recB S) (recH S) 656) 578 9 (recH S + 1)
theorem recS_out {S : gM} {a : Int} (h : a ≠ 578 ∧ a ≠ 580) : recS S a = S a := by
  unfold recS recB
  rw [up2_ne _ _ _ h.1, cpB_ne h.2]
  by_cases c : S 578 9 = 4
  · rw [if_pos c, up2_ne _ _ _ h.1, shf_ne h.2]
  · rw [if_neg c]
def cpR (S : gM) (a c off n : Int) : gM := fun x => if x = a then (fun k => if 0 ≤ k ∧ k < n then S c (off + k) else S a k) else S x
theorem cpR_ne {S : gM} {a c off n x : Int} (h : x ≠ a) : cpR S a c off n x = S x := by unfold cpR; rw [if_neg h]
theorem cpR_0 (S : gM) (a c off : Int) : cpR S a c off 0 = S := by
  funext x k
  unfold cpR
  by_cases h : x = a
  · rw [if_pos h, h]; exact if_neg (by omega)
  · rw [if_neg h]
theorem cpR_s {S : gM} {a c off n w : Int} (h : c ≠ a) (hw : w = off + n) (hn : 0 ≤ n) : up2 (cpR S a c off n) a n (cpR S a c off n c w) = cpR S a c off (n + 1) := by
  funext x k
  by_cases hx : x = a
  · subst hx
    rw [rd_at, cpR_ne h, hw]
    by_cases hk : k = n
    · rw [if_pos hk]; unfold cpR; rw [if_pos rfl, hk]; exact (if_pos (by omega)).symm
    · rw [if_neg hk]; unfold cpR; rw [if_pos rfl, if_pos rfl]; exact ite_c (by omega)
  · rw [up2_ne _ _ _ hx, cpR_ne hx, cpR_ne hx]
def shM (S : gM) (lo n : Int) : gM := fun a => if a = 579 then (fun k => if lo ≤ k ∧ k < n then S 579 (k + 3) else S 579 k) else S a
theorem shM_ne {S : gM} {lo n a : Int} (h : a ≠ 579) : shM S lo n a = S a := by unfold shM; rw [if_neg h]
theorem shM_lt {S : gM} {lo n k : Int} (h : k < lo ∨ n ≤ k) : shM S lo n 579 k = S 579 k := by unfold shM; rw [if_pos rfl]; exact if_neg (by omega)
theorem shM_0 (S : gM) (lo : Int) : shM S lo lo = S := by
  funext a k
  by_cases h : a = 579
  · subst h; exact shM_lt (by omega)
  · rw [shM_ne h]
theorem shM_s {S : gM} {lo n : Int} (hn : lo ≤ n) : up2 (shM S lo n) 579 n (shM S lo n 579 (n + 3)) = shM S lo (n + 1) := by
  funext a k
  by_cases h : a = 579
  · subst h
    rw [rd_at, shM_lt (by omega)]
    by_cases hk : k = n
    · rw [if_pos hk]; unfold shM; rw [if_pos rfl, hk]; exact (if_pos (by omega)).symm
    · rw [if_neg hk]; unfold shM; rw [if_pos rfl, if_pos rfl]; exact ite_c (by omega)
  · rw [up2_ne _ _ _ h, shM_ne h, shM_ne h]
set_option maxHeartbeats 4000000 in
theorem tX7_record (l : Launch) (G : gG) (b : Nat) (C S : gM) (h4 : 0 ≤ S 578 9 ∧ S 578 9 ≤ 4) : Ct l G b yX7_record cX7_record 2 none rmX7_record [.ref (ad b (578))] 586 (wM G b C S) (SV G b C (fun S' => S' = recS S)) := by
  refine CtK_of (by decide) (Nat.le_of_ble_eq_true rfl) q798 ?_
  intro x hl hB hE _
  subst hl
  show YM x G b 0 0 C S 0 [(0, .ref (ad b (578)))] []
  refine y_aload_n hB 0 dX7_record_0 rfl rfl ?_
  refine gt_7_9 hB (by decide) (t1 := S 578 9) rfl dX7_record_1 ?_
  refine y_iconst (v := 4) hB dX7_record_4 rfl ?_
  refine y_icmp_ne hB 49 dX7_record_5 (by decide) (by omega) (by omega) (fun c_5 => ?_) (fun c_5 => ?_)
  · have eB : recB S = S := if_neg (by omega)
    have eH : recH S = S 578 9 := if_neg (by omega)
    have e39 : S 578 9 = recH S := eH.symm
    rw [← eB]
    have hS1 : recB S 578 9 = recH S := by rw [eB, eH]
    have hh3 : 0 ≤ recH S ∧ recH S ≤ 3 := by omega
    refine y_iconst (v := 0) hB dX7_record_49 rfl ?_
    refine y_istore_n (lv' := [(1, .int (iI (0))), (0, .ref (ad b (578)))]) hB dX7_record_50 rfl (by decide) rfl ?_
    have LOOP_51 : ∀ (fu : Nat) (j : Int), (0 ≤ j ∧ j ≤ 656) → 656 - j < (fu : Int) → YM x G b 0 0 C (cpB (recB S) (recH S) j) 51 [(0, .ref (ad b (578))), (1, .int (iI (j)))] [] := by
      intro fu
      induction fu with
      | zero => intro j hj hm_51; exfalso; omega
      | succ fu ih_51 =>
        intro j hj hm_51
        have eh : cpB (recB S) (recH S) j 578 9 = recH S := by rw [cpB_ne (by omega)]; exact hS1
        refine y_iload_n hB 1 dX7_record_51 rfl rfl ?_
        refine y_sipush (v := 656) hB dX7_record_52 (by decide) ?_
        refine y_icmp_ge hB 85 dX7_record_55 (by decide) (by omega) (by omega) (fun c_55 => ?_) (fun c_55 => ?_)
        · refine y_aload_n hB 0 dX7_record_85 rfl rfl ?_
          refine y_dup hB dX7_record_86 rfl ?_
          refine gt_7_9 hB (by decide) (t1 := (cpB (recB S) (recH S) j) 578 9) rfl dX7_record_87 ?_
          refine y_iconst (v := 1) hB dX7_record_90 rfl ?_
          refine y_iadd (t := (cpB (recB S) (recH S) j) 578 9 + 1) hB dX7_record_91 (by omega) ?_
          refine pt_7_9 hB (by decide) dX7_record_92 ?_
          exact m_sv hB hE dX7_record_95 (by rw [eh, show j = 656 by omega]; rfl)
        · refine y_aload_n hB 0 dX7_record_58 rfl rfl ?_
          refine gt_7_1 hB (by decide) (t1 := 580) (by omega) dX7_record_59 ?_
          refine y_sipush (v := 656) hB dX7_record_62 (by decide) ?_
          refine y_aload_n hB 0 dX7_record_65 rfl rfl ?_
          refine gt_7_9 hB (by decide) (t1 := (cpB (recB S) (recH S) j) 578 9) rfl dX7_record_66 ?_
          refine y_imul (t := 656 * ((cpB (recB S) (recH S) j) 578 9)) hB dX7_record_69 (by omega) ?_
          refine y_iload_n hB 1 dX7_record_70 rfl rfl ?_
          refine y_iadd (t := 656 * ((cpB (recB S) (recH S) j) 578 9) + j) hB dX7_record_71 (by omega) ?_
          refine y_aload_n hB 0 dX7_record_72 rfl rfl ?_
          refine gt_7_0 hB (by decide) (t1 := 579) (by omega) dX7_record_73 ?_
          refine y_iload_n hB 1 dX7_record_76 rfl rfl ?_
          refine ald_21 hB (by decide) (t1 := (cpB (recB S) (recH S) j) 579 j) (by omega) rfl dX7_record_77 ?_
          refine ast_22 hB (by decide) (by omega) dX7_record_78 ?_
          refine y_iinc (v := j + 1) (lv' := [(1, .int (iI (j + 1))), (0, .ref (ad b (578)))]) hB 1 dX7_record_79 rfl (by omega) (by decide) rfl ?_
          refine y_goto hB 51 dX7_record_82 (by decide) ?_
          refine y_sub (lv' := [(0, .ref (ad b (578))), (1, .int (iI (j + 1)))]) [1, 0] rfl ?_
          rw [eh, cpB_s hj.1]
          exact ih_51 (j + 1) (by omega) (by omega)
    refine y_sub (lv' := [(0, .ref (ad b (578))), (1, .int (iI (0)))]) [1, 0] rfl ?_
    rw [← cpB_0 (recB S) (recH S)]
    exact LOOP_51 (((656 : Int)).toNat + 1) 0 (by omega) (by omega)
  · refine y_iconst (v := 0) hB dX7_record_8 rfl ?_
    refine y_istore_n (lv' := [(1, .int (iI (0))), (0, .ref (ad b (578)))]) hB dX7_record_9 rfl (by decide) rfl ?_
    have LOOP_10 : ∀ (fu : Nat) (i : Int), (0 ≤ i ∧ i ≤ 1968) → 1968 - i < (fu : Int) → YM x G b 0 0 C (shf S i) 10 [(0, .ref (ad b (578))), (1, .int (iI (i)))] [] := by
      intro fu
      induction fu with
      | zero => intro i hi hm_10; exfalso; omega
      | succ fu ih_10 =>
        intro i hi hm_10
        have e9 : shf S i 578 9 = S 578 9 := by rw [shf_ne (by omega)]
        refine y_iload_n hB 1 dX7_record_10 rfl rfl ?_
        refine y_sipush (v := 1968) hB dX7_record_11 (by decide) ?_
        refine y_icmp_ge hB 39 dX7_record_14 (by decide) (by omega) (by omega) (fun c_14 => ?_) (fun c_14 => ?_)
        · refine y_aload_n hB 0 dX7_record_39 rfl rfl ?_
          refine y_dup hB dX7_record_40 rfl ?_
          refine gt_7_9 hB (by decide) (t1 := (shf S i) 578 9) rfl dX7_record_41 ?_
          refine y_iconst (v := 1) hB dX7_record_44 rfl ?_
          refine y_isub (t := (shf S i) 578 9 - 1) hB dX7_record_45 (by omega) ?_
          refine pt_7_9 hB (by decide) dX7_record_46 ?_
          have eB : recB S = up2 (shf S i) 578 9 ((shf S i) 578 9 - 1) := by unfold recB; rw [if_pos (by omega), show i = 1968 by omega, show shf S 1968 578 9 - 1 = 3 by rw [shf_ne (by omega)]; omega]
          have eH : recH S = 3 := if_pos (by omega)
          rw [← eB]
          have hS1 : recB S 578 9 = recH S := by rw [eB, eH]; rw [rd_hit rfl rfl, shf_ne (by omega)]; omega
          have hh3 : 0 ≤ recH S ∧ recH S ≤ 3 := by omega
          refine y_iconst (v := 0) hB dX7_record_49 rfl ?_
          refine y_istore_n (lv' := [(1, .int (iI (0))), (0, .ref (ad b (578)))]) hB dX7_record_50 rfl (by decide) rfl ?_
          have LOOP_51 : ∀ (fu : Nat) (j : Int), (0 ≤ j ∧ j ≤ 656) → 656 - j < (fu : Int) → YM x G b 0 0 C (cpB (recB S) (recH S) j) 51 [(0, .ref (ad b (578))), (1, .int (iI (j)))] [] := by
            intro fu
            induction fu with
            | zero => intro j hj hm_51; exfalso; omega
            | succ fu ih_51 =>
              intro j hj hm_51
              have eh : cpB (recB S) (recH S) j 578 9 = recH S := by rw [cpB_ne (by omega)]; exact hS1
              refine y_iload_n hB 1 dX7_record_51 rfl rfl ?_
              refine y_sipush (v := 656) hB dX7_record_52 (by decide) ?_
              refine y_icmp_ge hB 85 dX7_record_55 (by decide) (by omega) (by omega) (fun c_55 => ?_) (fun c_55 => ?_)
              · refine y_aload_n hB 0 dX7_record_85 rfl rfl ?_
                refine y_dup hB dX7_record_86 rfl ?_
                refine gt_7_9 hB (by decide) (t1 := (cpB (recB S) (recH S) j) 578 9) rfl dX7_record_87 ?_
                refine y_iconst (v := 1) hB dX7_record_90 rfl ?_
                refine y_iadd (t := (cpB (recB S) (recH S) j) 578 9 + 1) hB dX7_record_91 (by omega) ?_
                refine pt_7_9 hB (by decide) dX7_record_92 ?_
                exact m_sv hB hE dX7_record_95 (by rw [eh, show j = 656 by omega]; rfl)
              · refine y_aload_n hB 0 dX7_record_58 rfl rfl ?_
                refine gt_7_1 hB (by decide) (t1 := 580) (by omega) dX7_record_59 ?_
                refine y_sipush (v := 656) hB dX7_record_62 (by decide) ?_
                refine y_aload_n hB 0 dX7_record_65 rfl rfl ?_
                refine gt_7_9 hB (by decide) (t1 := (cpB (recB S) (recH S) j) 578 9) rfl dX7_record_66 ?_
                refine y_imul (t := 656 * ((cpB (recB S) (recH S) j) 578 9)) hB dX7_record_69 (by omega) ?_
                refine y_iload_n hB 1 dX7_record_70 rfl rfl ?_
                refine y_iadd (t := 656 * ((cpB (recB S) (recH S) j) 578 9) + j) hB dX7_record_71 (by omega) ?_
                refine y_aload_n hB 0 dX7_record_72 rfl rfl ?_
                refine gt_7_0 hB (by decide) (t1 := 579) (by omega) dX7_record_73 ?_
                refine y_iload_n hB 1 dX7_record_76 rfl rfl ?_
                refine ald_21 hB (by decide) (t1 := (cpB (recB S) (recH S) j) 579 j) (by omega) rfl dX7_record_77 ?_
                refine ast_22 hB (by decide) (by omega) dX7_record_78 ?_
                refine y_iinc (v := j + 1) (lv' := [(1, .int (iI (j + 1))), (0, .ref (ad b (578)))]) hB 1 dX7_record_79 rfl (by omega) (by decide) rfl ?_
                refine y_goto hB 51 dX7_record_82 (by decide) ?_
                refine y_sub (lv' := [(0, .ref (ad b (578))), (1, .int (iI (j + 1)))]) [1, 0] rfl ?_
                rw [eh, cpB_s hj.1]
                exact ih_51 (j + 1) (by omega) (by omega)
          refine y_sub (lv' := [(0, .ref (ad b (578))), (1, .int (iI (0)))]) [1, 0] rfl ?_
          rw [← cpB_0 (recB S) (recH S)]
          exact LOOP_51 (((656 : Int)).toNat + 1) 0 (by omega) (by omega)
        · refine y_aload_n hB 0 dX7_record_17 rfl rfl ?_
          refine gt_7_1 hB (by decide) (t1 := 580) (by omega) dX7_record_18 ?_
          refine y_iload_n hB 1 dX7_record_21 rfl rfl ?_
          refine y_aload_n hB 0 dX7_record_22 rfl rfl ?_
          refine gt_7_1 hB (by decide) (t1 := 580) (by omega) dX7_record_23 ?_
          refine y_sipush (v := 656) hB dX7_record_26 (by decide) ?_
          refine y_iload_n hB 1 dX7_record_29 rfl rfl ?_
          refine y_iadd (t := i + 656) hB dX7_record_30 (by omega) ?_
          refine ald_22 hB (by decide) (t1 := (shf S i) 580 (i + 656)) (by omega) rfl dX7_record_31 ?_
          refine ast_22 hB (by decide) (by omega) dX7_record_32 ?_
          refine y_iinc (v := i + 1) (lv' := [(1, .int (iI (i + 1))), (0, .ref (ad b (578)))]) hB 1 dX7_record_33 rfl (by omega) (by decide) rfl ?_
          refine y_goto hB 10 dX7_record_36 (by decide) ?_
          refine y_sub (lv' := [(0, .ref (ad b (578))), (1, .int (iI (i + 1)))]) [1, 0] rfl ?_
          rw [shf_s hi.1]
          exact ih_10 (i + 1) (by omega) (by omega)
    refine y_sub (lv' := [(0, .ref (ad b (578))), (1, .int (iI (0)))]) [1, 0] rfl ?_
    rw [← shf_0 S]
    exact LOOP_10 (((1968 : Int)).toNat + 1) 0 (by omega) (by omega)
set_option maxHeartbeats 4000000 in
theorem tX7_come (l : Launch) (G : gG) (b : Nat) (C S : gM) (u t n : Int) (hn : S 579 1 = n) (h1 : 0 ≤ n ∧ n < 20) : Ct l G b yX7_come cX7_come 4 (some .int) rmX7_come [.ref (ad b (578)), .int (iI (u)), .int (iI (t))] 586 (wM G b C S) (SI G b C (fun v S' => v = n ∧ S' = up2 (up2 (up2 (up2 S 579 (32 * n + 16) u) 579 (32 * n + 17) t) 579 (32 * n + 22) (-5)) 579 1 (n + 1))) := by
  refine CtK_of (by decide) (Nat.le_of_ble_eq_true rfl) q802 ?_
  intro x hl hB hE _
  subst hl
  show YM x G b 0 0 C S 0 [(0, .ref (ad b (578))), (1, .int (iI (u))), (2, .int (iI (t)))] []
  subst hn
  refine y_aload_n hB 0 dX7_come_0 rfl rfl ?_
  refine gt_7_0 hB (by decide) (t1 := 579) (by omega) dX7_come_1 ?_
  refine y_iconst (v := 1) hB dX7_come_4 rfl ?_
  refine ald_21 hB (by decide) (t1 := S 579 1) (by omega) rfl dX7_come_5 ?_
  refine m_S hB msX7_p q803 (tX7_p _ G b C S (S 579 1) (32 * S 579 1 + 16) (by omega)) rfl rfl ⟨Nat.le_of_ble_eq_true rfl, Nat.le_of_ble_eq_true rfl⟩ (Nat.le_of_ble_eq_true rfl) ⟨rfl, rfl⟩ ⟨Nat.le_of_ble_eq_true rfl, Nat.le_of_ble_eq_true rfl⟩ dX7_come_6 (k_RI (fun v_6 h_6 => ?_))
  obtain rfl := h_6
  refine y_istore_n (lv' := [(3, .int (iI (32 * S 579 1 + 16))), (0, .ref (ad b (578))), (1, .int (iI (u))), (2, .int (iI (t)))]) hB dX7_come_9 rfl (by decide) rfl ?_
  refine y_aload_n hB 1 dX7_come_10 rfl rfl ?_
  refine gt_7_0 hB (by decide) (t1 := 579) (by omega) dX7_come_11 ?_
  refine y_iload_n hB 0 dX7_come_14 rfl rfl ?_
  refine y_iconst (v := 0) hB dX7_come_15 rfl ?_
  refine y_iadd (t := 32 * S 579 1 + 16) hB dX7_come_16 (by omega) ?_
  refine y_iload_n hB 2 dX7_come_17 rfl rfl ?_
  refine ast_21 hB (by decide) (by omega) dX7_come_18 ?_
  refine y_aload_n hB 1 dX7_come_19 rfl rfl ?_
  refine gt_7_0 hB (by decide) (t1 := 579) (by omega) dX7_come_20 ?_
  refine y_iload_n hB 0 dX7_come_23 rfl rfl ?_
  refine y_iconst (v := 1) hB dX7_come_24 rfl ?_
  refine y_iadd (t := 32 * S 579 1 + 17) hB dX7_come_25 (by omega) ?_
  refine y_iload_n hB 3 dX7_come_26 rfl rfl ?_
  refine ast_21 hB (by decide) (by omega) dX7_come_27 ?_
  refine y_aload_n hB 1 dX7_come_28 rfl rfl ?_
  refine gt_7_0 hB (by decide) (t1 := 579) (by omega) dX7_come_29 ?_
  refine y_iload_n hB 0 dX7_come_32 rfl rfl ?_
  refine y_bipush (v := 6) hB dX7_come_33 (by decide) ?_
  refine y_iadd (t := 32 * S 579 1 + 22) hB dX7_come_35 (by omega) ?_
  refine y_bipush (v := -5) hB dX7_come_36 (by decide) ?_
  refine ast_21 hB (by decide) (by omega) dX7_come_38 ?_
  refine y_aload_n hB 1 dX7_come_39 rfl rfl ?_
  refine gt_7_0 hB (by decide) (t1 := 579) (by omega) dX7_come_40 ?_
  refine y_iconst (v := 1) hB dX7_come_43 rfl ?_
  refine y_dup2 hB dX7_come_44 rfl rfl ?_
  refine ald_21 hB (by decide) (t1 := S 579 1) (by omega) ((rd_i (by omega)).trans ((rd_i (by omega)).trans (rd_i (by omega)))) dX7_come_45 ?_
  refine y_iconst (v := 1) hB dX7_come_46 rfl ?_
  refine y_iadd (t := S 579 1 + 1) hB dX7_come_47 (by omega) ?_
  refine ast_21 hB (by decide) (by omega) dX7_come_48 ?_
  refine y_aload_n hB 1 dX7_come_49 rfl rfl ?_
  refine gt_7_0 hB (by decide) (t1 := 579) (by omega) dX7_come_50 ?_
  refine y_iconst (v := 1) hB dX7_come_53 rfl ?_
  refine ald_21 hB (by decide) (t1 := S 579 1 + 1) (by omega) (rd_hit (by omega) (by omega)) dX7_come_54 ?_
  refine y_iconst (v := 1) hB dX7_come_55 rfl ?_
  refine y_isub (t := S 579 1) hB dX7_come_56 (by omega) ?_
  exact m_si hB hE dX7_come_57 rfl (⟨by omega, rfl⟩)
set_option maxHeartbeats 4000000 in
theorem tX7_add (l : Launch) (G : gG) (b : Nat) (C S : gM) (p u t n : Int) (hp : 0 ≤ p ∧ p < 20) (hn : S 579 (32 * p + 19) = n) (h1 : 0 ≤ n ∧ n < 8) : Ct l G b yX7_add cX7_add 5 none rmX7_add [.ref (ad b (578)), .int (iI (p)), .int (iI (u)), .int (iI (t))] 586 (wM G b C S) (SV G b C (fun S' => S' = up2 (up2 (up2 (up2 S 579 (32 * p + 3 * n + 24) u) 579 (32 * p + 3 * n + 25) t) 579 (32 * p + 3 * n + 26) (S 579 0)) 579 (32 * p + 19) (n + 1))) := by
  refine CtK_of (by decide) (Nat.le_of_ble_eq_true rfl) q841 ?_
  intro x hl hB hE _
  subst hl
  show YM x G b 0 0 C S 0 [(0, .ref (ad b (578))), (1, .int (iI (p))), (2, .int (iI (u))), (3, .int (iI (t)))] []
  subst hn
  refine y_iload_n hB 1 dX7_add_0 rfl rfl ?_
  refine y_aload_n hB 0 dX7_add_1 rfl rfl ?_
  refine y_iload_n hB 1 dX7_add_2 rfl rfl ?_
  refine y_iconst (v := 3) hB dX7_add_3 rfl ?_
  refine m_V hB msX7_of q842 (tX7_of _ G b C S p 3 (32 * p + 19) (S 579 (32 * p + 19)) (by omega) (by omega) rfl) (t := 20) (by decide) (by decide) rfl rfl rfl rfl rfl ⟨Nat.le_of_ble_eq_true rfl, Nat.le_of_ble_eq_true rfl⟩ (Nat.le_of_ble_eq_true rfl) ⟨rfl, rfl⟩ ⟨Nat.le_of_ble_eq_true rfl, Nat.le_of_ble_eq_true rfl⟩ dX7_add_4 (k_RI (fun v_4 h_4 => ?_))
  obtain rfl := h_4
  refine m_S hB msX7_f q846 (tX7_f _ G b C S p (S 579 (32 * p + 19)) (3 * S 579 (32 * p + 19) + 32 * p + 24) (by omega)) rfl rfl ⟨Nat.le_of_ble_eq_true rfl, Nat.le_of_ble_eq_true rfl⟩ (Nat.le_of_ble_eq_true rfl) ⟨rfl, rfl⟩ ⟨Nat.le_of_ble_eq_true rfl, Nat.le_of_ble_eq_true rfl⟩ dX7_add_7 (k_RI (fun v_7 h_7 => ?_))
  obtain rfl := h_7
  refine y_istore (lv' := [(4, .int (iI (3 * S 579 (32 * p + 19) + 32 * p + 24))), (0, .ref (ad b (578))), (1, .int (iI (p))), (2, .int (iI (u))), (3, .int (iI (t)))]) hB dX7_add_10 (by decide) rfl ?_
  refine y_aload_n hB 1 dX7_add_12 rfl rfl ?_
  refine gt_7_0 hB (by decide) (t1 := 579) (by omega) dX7_add_13 ?_
  refine y_iload hB 0 dX7_add_16 rfl ?_
  refine y_iload_n hB 3 dX7_add_18 rfl rfl ?_
  refine ast_21 hB (by decide) (by omega) dX7_add_19 ?_
  refine y_aload_n hB 1 dX7_add_20 rfl rfl ?_
  refine gt_7_0 hB (by decide) (t1 := 579) (by omega) dX7_add_21 ?_
  refine y_iload hB 0 dX7_add_24 rfl ?_
  refine y_iconst (v := 1) hB dX7_add_26 rfl ?_
  refine y_iadd (t := 3 * S 579 (32 * p + 19) + 32 * p + 25) hB dX7_add_27 (by omega) ?_
  refine y_iload_n hB 4 dX7_add_28 rfl rfl ?_
  refine ast_21 hB (by decide) (by omega) dX7_add_29 ?_
  refine y_aload_n hB 1 dX7_add_30 rfl rfl ?_
  refine gt_7_0 hB (by decide) (t1 := 579) (by omega) dX7_add_31 ?_
  refine y_iload hB 0 dX7_add_34 rfl ?_
  refine y_iconst (v := 2) hB dX7_add_36 rfl ?_
  refine y_iadd (t := 3 * S 579 (32 * p + 19) + 32 * p + 26) hB dX7_add_37 (by omega) ?_
  refine y_aload_n hB 1 dX7_add_38 rfl rfl ?_
  refine gt_7_0 hB (by decide) (t1 := 579) (by omega) dX7_add_39 ?_
  refine y_iconst (v := 0) hB dX7_add_42 rfl ?_
  refine ald_21 hB (by decide) (t1 := S 579 0) (by omega) ((rd_i (by omega)).trans (rd_i (by omega))) dX7_add_43 ?_
  refine ast_21 hB (by decide) (by omega) dX7_add_44 ?_
  refine y_aload_n hB 1 dX7_add_45 rfl rfl ?_
  refine gt_7_0 hB (by decide) (t1 := 579) (by omega) dX7_add_46 ?_
  refine y_iload_n hB 2 dX7_add_49 rfl rfl ?_
  refine m_S hB msX7_p q803 (tX7_p _ G b C (up2 (up2 (up2 S 579 (3 * S 579 (32 * p + 19) + 32 * p + 24) u) 579 (3 * S 579 (32 * p + 19) + 32 * p + 25) t) 579 (3 * S 579 (32 * p + 19) + 32 * p + 26) (S 579 0)) p (32 * p + 16) (by omega)) rfl rfl ⟨Nat.le_of_ble_eq_true rfl, Nat.le_of_ble_eq_true rfl⟩ (Nat.le_of_ble_eq_true rfl) ⟨rfl, rfl⟩ ⟨Nat.le_of_ble_eq_true rfl, Nat.le_of_ble_eq_true rfl⟩ dX7_add_50 (k_RI (fun v_50 h_50 => ?_))
  obtain rfl := h_50
  refine y_iconst (v := 3) hB dX7_add_53 rfl ?_
  refine y_iadd (t := 32 * p + 19) hB dX7_add_54 (by omega) ?_
  refine y_dup2 hB dX7_add_55 rfl rfl ?_
  refine ald_21 hB (by decide) (t1 := S 579 (32 * p + 19)) (by omega) ((rd_i (by omega)).trans ((rd_i (by omega)).trans (rd_i (by omega)))) dX7_add_56 ?_
  refine y_iconst (v := 1) hB dX7_add_57 rfl ?_
  refine y_iadd (t := (S 579 (32 * p + 19)) + 1) hB dX7_add_58 (by omega) ?_
  refine ast_21 hB (by decide) (by omega) dX7_add_59 ?_
  exact m_sv hB hE dX7_add_60 (by rw [show 3 * S 579 (32 * p + 19) + 32 * p + 24 = 32 * p + 3 * S 579 (32 * p + 19) + 24 by omega, show 3 * S 579 (32 * p + 19) + 32 * p + 25 = 32 * p + 3 * S 579 (32 * p + 19) + 25 by omega, show 3 * S 579 (32 * p + 19) + 32 * p + 26 = 32 * p + 3 * S 579 (32 * p + 19) + 26 by omega])
