set_option maxHeartbeats 4000000 in
theorem tX5_clear (l : Launch) (G : gG) (b : Nat) (C S : gM) (r : Int) (hr : isRk r) : Ct l G b yX5_clear cX5_clear 1 none rmX5_clear [.ref (ad b (r))] 578 (wM G b C S) (WV G b S (fun C' => C' = up2 C r 2 0)) := by
  refine CtK_of (by decide) (Nat.le_of_ble_eq_true rfl) q426 ?_
  intro x hl hB hE _
  subst hl
  show YM x G b 0 0 C S 0 [(0, .ref (ad b (r)))] []
  refine y_aload_n hB 0 dX5_clear_0 rfl rfl ?_
  refine y_iconst (v := 0) hB dX5_clear_1 rfl ?_
  refine pt_5_2 hB (hr).1 dX5_clear_2 ?_
  exact m_wv hB hE dX5_clear_5 (rfl)
set_option maxHeartbeats 4000000 in
theorem tX5_size (l : Launch) (G : gG) (b : Nat) (C S : gM) (r : Int) (hr : isRk r) : Ct l G b yX5_size cX5_size 1 (some .int) rmX5_size [.ref (ad b (r))] 578 (wM G b C S) (RI G b C S (fun v => v = C r 2)) := by
  refine CtK_of (by decide) (Nat.le_of_ble_eq_true rfl) q443 ?_
  intro x hl hB hE _
  subst hl
  show YM x G b 0 0 C S 0 [(0, .ref (ad b (r)))] []
  refine y_aload_n hB 0 dX5_size_0 rfl rfl ?_
  refine gt_5_2 hB (hr).1 (t1 := C r 2) rfl dX5_size_1 ?_
  exact m_ri hB hE dX5_size_4 rfl (rfl)
set_option maxHeartbeats 4000000 in
theorem tX5_personAt (l : Launch) (G : gG) (b : Nat) (C S : gM) (r u : Int) (hr : isRk r) (hs : 0 ≤ C r 2 ∧ C r 2 ≤ 20) (hu : -2147483648 ≤ u ∧ u ≤ 2147483647) : Ct l G b yX5_personAt cX5_personAt 2 (some .int) rmX5_personAt [.ref (ad b (r)), .int (iI (u))] 578 (wM G b C S) (RI G b C S (fun v => (0 ≤ u ∧ u < C r 2 ∧ v = C (r + 1) u) ∨ (¬ (0 ≤ u ∧ u < C r 2) ∧ v = -5))) := by
  refine CtK_of (by decide) (Nat.le_of_ble_eq_true rfl) q447 ?_
  intro x hl hB hE _
  subst hl
  show YM x G b 0 0 C S 0 [(0, .ref (ad b (r))), (1, .int (iI (u)))] []
  refine y_iload_n hB 1 dX5_personAt_0 rfl rfl ?_
  refine y_if_lt hB 27 dX5_personAt_1 (by decide) (by omega) (fun c_1 => ?_) (fun c_1 => ?_)
  · refine y_bipush (v := -5) hB dX5_personAt_27 (by decide) ?_
    exact m_ri hB hE dX5_personAt_29 rfl (by omega)
  · refine y_iload_n hB 1 dX5_personAt_4 rfl rfl ?_
    refine y_aload_n hB 0 dX5_personAt_5 rfl rfl ?_
    refine gt_5_2 hB (hr).1 (t1 := C r 2) rfl dX5_personAt_6 ?_
    refine y_icmp_ge hB 27 dX5_personAt_9 (by decide) (by omega) (by omega) (fun c_9 => ?_) (fun c_9 => ?_)
    · refine y_bipush (v := -5) hB dX5_personAt_27 (by decide) ?_
      exact m_ri hB hE dX5_personAt_29 rfl (by omega)
    · refine y_iload_n hB 1 dX5_personAt_12 rfl rfl ?_
      refine y_bipush (v := 20) hB dX5_personAt_13 (by decide) ?_
      refine y_icmp_ge hB 27 dX5_personAt_15 (by decide) (by omega) (by omega) (fun c_15 => ?_) (fun c_15 => ?_)
      · exfalso
        omega
      · refine y_aload_n hB 0 dX5_personAt_18 rfl rfl ?_
        refine gt_5_0 hB (hr).1 (t1 := r + 1) (by omega) dX5_personAt_19 ?_
        refine y_iload_n hB 1 dX5_personAt_22 rfl rfl ?_
        refine ald_13 hB (hr).2.1 (t1 := C (r + 1) u) (by omega) rfl dX5_personAt_23 ?_
        refine y_goto hB 29 dX5_personAt_24 (by decide) ?_
        exact m_ri hB hE dX5_personAt_29 rfl (by omega)
set_option maxHeartbeats 4000000 in
theorem tX5_enter (l : Launch) (G : gG) (b : Nat) (C S : gM) (r p k : Int) (hr : isRk r) (hs : 0 ≤ C r 2 ∧ C r 2 < 20) (hk : -2147483648 ≤ k ∧ k ≤ 2147483647) (hks : ∀ j : Int, 0 ≤ j → j < C r 2 → -2147483648 ≤ C (r + 2) j ∧ C (r + 2) j ≤ 2147483647) : Ct l G b yX5_enter cX5_enter 4 none rmX5_enter [.ref (ad b (r)), .int (iI (p)), .int (iI (k))] 578 (wM G b C S) (WV G b S (fun C' => ∃ t : Int, (0 ≤ t ∧ t ≤ C r 2) ∧ (∀ j, t ≤ j → j < C r 2 → C (r + 2) j < k) ∧ (t = 0 ∨ ¬ C (r + 2) (t - 1) < k) ∧ C' = entM C r t (C r 2) p k)) := by
  refine CtK_of (by decide) (Nat.le_of_ble_eq_true rfl) q438 ?_
  intro x hl hB hE _
  subst hl
  show YM x G b 0 0 C S 0 [(0, .ref (ad b (r))), (1, .int (iI (p))), (2, .int (iI (k)))] []
  refine y_aload_n hB 0 dX5_enter_0 rfl rfl ?_
  refine gt_5_2 hB (hr).1 (t1 := C r 2) rfl dX5_enter_1 ?_
  refine y_if_lt hB 16 dX5_enter_4 (by decide) (by omega) (fun c_4 => ?_) (fun c_4 => ?_)
  · exfalso
    omega
  · refine y_aload_n hB 0 dX5_enter_7 rfl rfl ?_
    refine gt_5_2 hB (hr).1 (t1 := C r 2) rfl dX5_enter_8 ?_
    refine y_bipush (v := 20) hB dX5_enter_11 (by decide) ?_
    refine y_icmp_lt hB 17 dX5_enter_13 (by decide) (by omega) (by omega) (fun c_13 => ?_) (fun c_13 => ?_)
    · refine y_aload_n hB 0 dX5_enter_17 rfl rfl ?_
      refine gt_5_2 hB (hr).1 (t1 := C r 2) rfl dX5_enter_18 ?_
      refine y_istore_n (lv' := [(3, .int (iI (C r 2))), (0, .ref (ad b (r))), (1, .int (iI (p))), (2, .int (iI (k)))]) hB dX5_enter_21 rfl (by decide) rfl ?_
      have LOOP_22 : ∀ (fu : Nat) (t : Int), (0 ≤ t ∧ t ≤ C r 2) → (∀ j, t ≤ j → j < C r 2 → C (r + 2) j < k) → t < (fu : Int) → YM x G b 0 0 (insM C r t (C r 2)) S 22 [(0, .ref (ad b (r))), (1, .int (iI (p))), (2, .int (iI (k))), (3, .int (iI (t)))] [] := by
        intro fu
        induction fu with
        | zero => intro t ht hv hm_22; exfalso; omega
        | succ fu ih_22 =>
          intro t ht hv hm_22
          have e0 : insM C r t (C r 2) r 2 = C r 2 := by rw [insM_out (by omega)]
          have e1 : insM C r t (C r 2) (r + 2) (t - 1) = C (r + 2) (t - 1) := by rw [insM_in (Or.inr rfl), if_neg (by omega)]
          refine y_iload_n hB 3 dX5_enter_22 rfl rfl ?_
          refine y_if_le hB 72 dX5_enter_23 (by decide) (by omega) (fun c_23 => ?_) (fun c_23 => ?_)
          · refine y_aload_n hB 0 dX5_enter_72 rfl rfl ?_
            refine gt_5_0 hB (hr).1 (t1 := r + 1) (by omega) dX5_enter_73 ?_
            refine y_iload_n hB 3 dX5_enter_76 rfl rfl ?_
            refine y_iload_n hB 1 dX5_enter_77 rfl rfl ?_
            refine ast_13 hB (hr).2.1 (by omega) dX5_enter_78 ?_
            refine y_aload_n hB 0 dX5_enter_79 rfl rfl ?_
            refine gt_5_1 hB (hr).1 (t1 := r + 2) (by omega) dX5_enter_80 ?_
            refine y_iload_n hB 3 dX5_enter_83 rfl rfl ?_
            refine y_iload_n hB 2 dX5_enter_84 rfl rfl ?_
            refine ast_13 hB (hr).2.2 (by omega) dX5_enter_85 ?_
            refine y_aload_n hB 0 dX5_enter_86 rfl rfl ?_
            refine y_dup hB dX5_enter_87 rfl ?_
            refine gt_5_2 hB (hr).1 (t1 := (insM C r t (C r 2)) r 2) ((rd_k (by omega)).trans (rd_k (by omega))) dX5_enter_88 ?_
            refine y_iconst (v := 1) hB dX5_enter_91 rfl ?_
            refine y_iadd (t := (insM C r t (C r 2)) r 2 + 1) hB dX5_enter_92 (by omega) ?_
            refine pt_5_2 hB (hr).1 dX5_enter_93 ?_
            exact m_wv hB hE dX5_enter_96 (⟨t, ht, hv, (by omega), (by rw [e0]; rfl)⟩)
          · refine y_aload_n hB 0 dX5_enter_26 rfl rfl ?_
            refine gt_5_1 hB (hr).1 (t1 := r + 2) (by omega) dX5_enter_27 ?_
            refine y_iload_n hB 3 dX5_enter_30 rfl rfl ?_
            refine y_iconst (v := 1) hB dX5_enter_31 rfl ?_
            refine y_isub (t := t - 1) hB dX5_enter_32 (by omega) ?_
            refine ald_13 hB (hr).2.2 (t1 := (insM C r t (C r 2)) (r + 2) (t - 1)) (by omega) rfl dX5_enter_33 ?_
            refine y_iload_n hB 2 dX5_enter_34 rfl rfl ?_
            refine y_icmp_ge hB 72 dX5_enter_35 (by decide) (by have h9 := hks (t - 1) (by omega) (by omega); omega) (by omega) (fun c_35 => ?_) (fun c_35 => ?_)
            · refine y_aload_n hB 0 dX5_enter_72 rfl rfl ?_
              refine gt_5_0 hB (hr).1 (t1 := r + 1) (by omega) dX5_enter_73 ?_
              refine y_iload_n hB 3 dX5_enter_76 rfl rfl ?_
              refine y_iload_n hB 1 dX5_enter_77 rfl rfl ?_
              refine ast_13 hB (hr).2.1 (by omega) dX5_enter_78 ?_
              refine y_aload_n hB 0 dX5_enter_79 rfl rfl ?_
              refine gt_5_1 hB (hr).1 (t1 := r + 2) (by omega) dX5_enter_80 ?_
              refine y_iload_n hB 3 dX5_enter_83 rfl rfl ?_
              refine y_iload_n hB 2 dX5_enter_84 rfl rfl ?_
              refine ast_13 hB (hr).2.2 (by omega) dX5_enter_85 ?_
              refine y_aload_n hB 0 dX5_enter_86 rfl rfl ?_
              refine y_dup hB dX5_enter_87 rfl ?_
              refine gt_5_2 hB (hr).1 (t1 := (insM C r t (C r 2)) r 2) ((rd_k (by omega)).trans (rd_k (by omega))) dX5_enter_88 ?_
              refine y_iconst (v := 1) hB dX5_enter_91 rfl ?_
              refine y_iadd (t := (insM C r t (C r 2)) r 2 + 1) hB dX5_enter_92 (by omega) ?_
              refine pt_5_2 hB (hr).1 dX5_enter_93 ?_
              exact m_wv hB hE dX5_enter_96 (⟨t, ht, hv, (by omega), (by rw [e0]; rfl)⟩)
            · refine y_aload_n hB 0 dX5_enter_38 rfl rfl ?_
              refine gt_5_0 hB (hr).1 (t1 := r + 1) (by omega) dX5_enter_39 ?_
              refine y_iload_n hB 3 dX5_enter_42 rfl rfl ?_
              refine y_aload_n hB 0 dX5_enter_43 rfl rfl ?_
              refine gt_5_0 hB (hr).1 (t1 := r + 1) (by omega) dX5_enter_44 ?_
              refine y_iload_n hB 3 dX5_enter_47 rfl rfl ?_
              refine y_iconst (v := 1) hB dX5_enter_48 rfl ?_
              refine y_isub (t := t - 1) hB dX5_enter_49 (by omega) ?_
              refine ald_13 hB (hr).2.1 (t1 := (insM C r t (C r 2)) (r + 1) (t - 1)) (by omega) rfl dX5_enter_50 ?_
              refine ast_13 hB (hr).2.1 (by omega) dX5_enter_51 ?_
              refine y_aload_n hB 0 dX5_enter_52 rfl rfl ?_
              refine gt_5_1 hB (hr).1 (t1 := r + 2) (by omega) dX5_enter_53 ?_
              refine y_iload_n hB 3 dX5_enter_56 rfl rfl ?_
              refine y_aload_n hB 0 dX5_enter_57 rfl rfl ?_
              refine gt_5_1 hB (hr).1 (t1 := r + 2) (by omega) dX5_enter_58 ?_
              refine y_iload_n hB 3 dX5_enter_61 rfl rfl ?_
              refine y_iconst (v := 1) hB dX5_enter_62 rfl ?_
              refine y_isub (t := t - 1) hB dX5_enter_63 (by omega) ?_
              refine ald_13 hB (hr).2.2 (t1 := (insM C r t (C r 2)) (r + 2) (t - 1)) (by omega) (rd_k (by omega)) dX5_enter_64 ?_
              refine ast_13 hB (hr).2.2 (by omega) dX5_enter_65 ?_
              refine y_iinc (v := t - 1) (lv' := [(3, .int (iI (t - 1))), (0, .ref (ad b (r))), (1, .int (iI (p))), (2, .int (iI (k)))]) hB 3 dX5_enter_66 rfl (by omega) (by decide) rfl ?_
              refine y_goto hB 22 dX5_enter_69 (by decide) ?_
              refine y_sub (lv' := [(0, .ref (ad b (r))), (1, .int (iI (p))), (2, .int (iI (k))), (3, .int (iI (t - 1)))]) [1, 2, 3, 0] rfl ?_
              rw [insM_s C r t (C r 2) ht.2]
              exact ih_22 (t - 1) (by omega) (fun j a1 a2 => (by rcases (show j = t - 1 ∨ t ≤ j by omega) with a3 | a3; rw [a3]; omega; exact hv j a3 a2)) (by omega)
      refine y_sub (lv' := [(0, .ref (ad b (r))), (1, .int (iI (p))), (2, .int (iI (k))), (3, .int (iI (C r 2)))]) [1, 2, 3, 0] rfl ?_
      have hz_22 := LOOP_22 ((C r 2).toNat + 1) (C r 2) (by omega) (fun j a1 a2 => by omega) (by omega)
      rw [insM_0] at hz_22
      exact hz_22
    · exfalso
      omega
set_option maxHeartbeats 4000000 in
theorem tX0_rankUrgencies (l : Launch) (G : gG) (b : Nat) (C S : gM) (o r N : Int) (ho : isDesk o) (hr : isRk r) (hd : o + 84 ≤ r) (hD : DkOk C o N) (hN : N ≤ 512) : Ct l G b yX0_rankUrgencies cX0_rankUrgencies 4 none rmX0_rankUrgencies [.ref (ad b (o)), .ref (ad b (r))] 578 (wM G b C S) (WV G b S (fun C' => Rkd C' r (fun i => C (4 * i + o + 4) 2 = 0) (urgP C o) (C o 3) ∧ ∀ a, a < r ∨ r + 2 < a → C' a = C a)) := by
  refine CtK_of (by decide) (Nat.le_of_ble_eq_true rfl) q553 ?_
  intro x hl hB hE _
  subst hl
  show YM x G b 0 0 C S 0 [(0, .ref (ad b (o))), (1, .ref (ad b (r)))] []
  obtain ⟨hd3, hd4, hd5, hd6, hs0, hs1, hs2, hs3, hs4, htr, hlv⟩ := id hD
  refine y_aload_n hB 1 dX0_rankUrgencies_0 rfl rfl ?_
  refine m_V hB msX5_clear q554 (tX5_clear _ G b C S r hr) (t := 12) (hr).1 (by decide) rfl rfl rfl rfl rfl ⟨Nat.le_of_ble_eq_true rfl, Nat.le_of_ble_eq_true rfl⟩ (Nat.le_of_ble_eq_true rfl) ⟨rfl, rfl⟩ ⟨Nat.le_of_ble_eq_true rfl, Nat.le_of_ble_eq_true rfl⟩ dX0_rankUrgencies_1 (k_WV (fun C_1 h_1 => ?_))
  obtain rfl := h_1
  refine y_iconst (v := 0) hB dX0_rankUrgencies_4 rfl ?_
  refine y_istore_n (lv' := [(2, .int (iI (0))), (0, .ref (ad b (o))), (1, .ref (ad b (r)))]) hB dX0_rankUrgencies_5 rfl (by decide) rfl ?_
  have LOOP_6 : ∀ (fu : Nat) (i : Int) (CM : gM), (0 ≤ i ∧ i ≤ C o 3) → (Rkd CM r (fun i => C (4 * i + o + 4) 2 = 0) (urgP C o) i) → (∀ a, a < r ∨ r + 2 < a → CM a = C a) → C o 3 - i < (fu : Int) → YM x G b 0 0 CM S 6 [(0, .ref (ad b (o))), (1, .ref (ad b (r))), (2, .int (iI (i)))] [] := by
    intro fu
    induction fu with
    | zero => intro i CM hi hk hm hm_6; exfalso; omega
    | succ fu ih_6 =>
      intro i CM hi hk hm hm_6
      have hk1 := hk.1
      have ag : agD C CM o := fun a a1 a2 => hm a (by omega)
      have hDM : DkOk CM o N := DkOk_ag ag hD
      have eo : CM o = C o := ag o (by omega) (by omega)
      have e3 : CM o 3 = C o 3 := by rw [eo]
      refine y_iload_n hB 2 dX0_rankUrgencies_6 rfl rfl ?_
      refine y_aload_n hB 0 dX0_rankUrgencies_7 rfl rfl ?_
      refine gt_0_3 hB (ho).1 (t1 := CM o 3) rfl dX0_rankUrgencies_8 ?_
      refine y_icmp_ge hB 48 dX0_rankUrgencies_11 (by decide) (by omega) (by omega) (fun c_11 => ?_) (fun c_11 => ?_)
      · exact m_wv hB hE dX0_rankUrgencies_48 (by rw [show C o 3 = i by omega]; exact ⟨hk, hm⟩)
      · refine y_aload_n hB 0 dX0_rankUrgencies_14 rfl rfl ?_
        refine y_iload_n hB 2 dX0_rankUrgencies_15 rfl rfl ?_
        refine m_V hB msX0_lifeOf q214 (tX0_lifeOf _ G b CM S o i (4 * i + o + 4) ho (by omega) (by omega) (by omega)) (t := 1) (ho).1 (by decide) rfl rfl rfl rfl rfl ⟨Nat.le_of_ble_eq_true rfl, Nat.le_of_ble_eq_true rfl⟩ (Nat.le_of_ble_eq_true rfl) ⟨rfl, rfl⟩ ⟨Nat.le_of_ble_eq_true rfl, Nat.le_of_ble_eq_true rfl⟩ dX0_rankUrgencies_16 (k_RR ?_)
        have hq_16 : isLife (4 * i + o + 4) := life_at ho (i := i) (by omega) (by omega)
        have eq : CM (4 * i + o + 4) = C (4 * i + o + 4) := ag _ (by omega) (by omega)
        have hl_16 : LfOk CM (4 * i + o + 4) (CM o 4) := hDM.2.2.2.2.2.2.2.2.2.2 i (by omega) (by omega)
        have hc_16 := hl_16.2.2.1
        refine y_astore_n (lv' := [(3, .ref (ad b (4 * i + o + 4))), (0, .ref (ad b (o))), (1, .ref (ad b (r))), (2, .int (iI (i)))]) hB dX0_rankUrgencies_19 rfl (by decide) rfl ?_
        refine y_aload_n hB 0 dX0_rankUrgencies_20 rfl rfl ?_
        refine y_ifnull hB dX0_rankUrgencies_21 ?_
        refine y_aload_n hB 0 dX0_rankUrgencies_24 rfl rfl ?_
        refine y_iconst (v := 0) hB dX0_rankUrgencies_25 rfl ?_
        refine m_V hB msX2_isIn q244 (tX2_isIn _ G b CM S (4 * i + o + 4) 0 (hq_16).1 (by omega) (by omega)) (t := 5) (hq_16).1 (by decide) rfl rfl rfl rfl rfl ⟨Nat.le_of_ble_eq_true rfl, Nat.le_of_ble_eq_true rfl⟩ (Nat.le_of_ble_eq_true rfl) ⟨rfl, rfl⟩ ⟨Nat.le_of_ble_eq_true rfl, Nat.le_of_ble_eq_true rfl⟩ dX0_rankUrgencies_26 (k_RI (fun v_26 h_26 => ?_))
        rw [eq] at h_26
        refine y_if_eq hB 42 dX0_rankUrgencies_29 (by decide) (by omega) (fun c_29 => ?_) (fun c_29 => ?_)
        · refine y_iinc (v := i + 1) (lv' := [(2, .int (iI (i + 1))), (3, .ref (ad b (4 * i + o + 4))), (0, .ref (ad b (o))), (1, .ref (ad b (r)))]) hB 3 dX0_rankUrgencies_42 rfl (by omega) (by decide) rfl ?_
          refine y_goto hB 6 dX0_rankUrgencies_45 (by decide) ?_
          refine y_sub (lv' := [(0, .ref (ad b (o))), (1, .ref (ad b (r))), (2, .int (iI (i + 1)))]) [2, 3, 0] rfl ?_
          exact ih_6 (i + 1) _ (by omega) (Rkd_no hk hi.1 (by omega)) hm (by omega)
        · refine y_aload_n hB 2 dX0_rankUrgencies_32 rfl rfl ?_
          refine y_iload_n hB 3 dX0_rankUrgencies_33 rfl rfl ?_
          refine y_aload_n hB 1 dX0_rankUrgencies_34 rfl rfl ?_
          refine y_aload_n hB 0 dX0_rankUrgencies_35 rfl rfl ?_
          refine m_V hB msX0_urgencyOf q296 (tX0_urgencyOf _ G b CM S o (4 * i + o + 4) N ho hq_16 hDM hl_16 hN) (t := 1) (ho).1 (by decide) rfl rfl rfl rfl rfl ⟨Nat.le_of_ble_eq_true rfl, Nat.le_of_ble_eq_true rfl⟩ (Nat.le_of_ble_eq_true rfl) ⟨rfl, rfl⟩ ⟨Nat.le_of_ble_eq_true rfl, Nat.le_of_ble_eq_true rfl⟩ dX0_rankUrgencies_36 (k_RI (fun v_36 h_36 => ?_))
          have huq : v_36 = urgP C o i := by rw [h_36]; exact urg_ag ag (by omega)
          have hub := urg_b (o := o) hl_16
          refine m_V hB msX5_enter q555 (tX5_enter _ G b CM S r i v_36 hr (by omega) (by omega) (fun j a1 a2 => (by have h9 := (hk.2.1 j a1 a2); have h8 := urg_b (o := o) (hlv (CM (r + 1) j) h9.1 (by omega)); have h7 : urgP C o (CM (r + 1) j) = urg C o (4 * CM (r + 1) j + o + 4) := rfl; omega))) (t := 12) (hr).1 (by decide) rfl rfl rfl rfl rfl ⟨Nat.le_of_ble_eq_true rfl, Nat.le_of_ble_eq_true rfl⟩ (Nat.le_of_ble_eq_true rfl) ⟨rfl, rfl⟩ ⟨Nat.le_of_ble_eq_true rfl, Nat.le_of_ble_eq_true rfl⟩ dX0_rankUrgencies_39 (k_WV (fun C_39 h_39 => ?_))
          refine y_iinc (v := i + 1) (lv' := [(2, .int (iI (i + 1))), (3, .ref (ad b (4 * i + o + 4))), (0, .ref (ad b (o))), (1, .ref (ad b (r)))]) hB 3 dX0_rankUrgencies_42 rfl (by omega) (by decide) rfl ?_
          refine y_goto hB 6 dX0_rankUrgencies_45 (by decide) ?_
          refine y_sub (lv' := [(0, .ref (ad b (o))), (1, .ref (ad b (r))), (2, .int (iI (i + 1)))]) [2, 3, 0] rfl ?_
          exact ih_6 (i + 1) _ (by omega) (by obtain ⟨t, g1, g2, g3, g4⟩ := h_39; rw [g4, huq]; exact Rkd_in hk hi.1 (by omega) g1 (by rw [← huq]; exact g2) (by rw [← huq]; exact g3)) (fun a a1 => (by obtain ⟨t, g1, g2, g3, g4⟩ := h_39; rw [g4, entM_out (by omega) (by omega) (by omega)]; exact hm a a1)) (by omega)
  refine y_sub (lv' := [(0, .ref (ad b (o))), (1, .ref (ad b (r))), (2, .int (iI (0)))]) [1, 2, 0] rfl ?_
  exact LOOP_6 ((C o 3).toNat + 1) 0 _ (by omega) (Rkd_0 _ _ (by rw [rd_hit rfl rfl])) (fun a a1 => (by rw [up2_ne _ _ _ (by omega)])) (by omega)
