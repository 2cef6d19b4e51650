/-! what the other class tells -/
theorem LyD_b {S S' : gM} (h : LyD S S') : 0 ≤ S' 578 5 ∧ S' 578 5 ≤ 20 := by
  obtain ⟨e, m, h1, h2, h3, -⟩ := h
  have := pgc_b e (mLn (S 579)) (S 579 5) m.toNat
  have h0 := h1.1
  rw [h3]
  unfold pgc
  omega
def mSrcT (f : Int → Int) (u t i j : Int) : Int := if f (32 * i + 3 * j + 24) = u then (if t = 1 then 1 else if t = 3 then f (32 * i + 3 * j + 25) else mFst f i (f 0) j) else 0
theorem mSrcT_b {f : Int → Int} {u t i j T : Int} (h : PO f i T) (hj : 0 ≤ j ∧ j < f (32 * i + 19)) : 0 ≤ mSrcT f u t i j ∧ mSrcT f u t i j ≤ 9 := by
  have h1 := (h.2.2.2.2.2.2.2 j hj.1 hj.2).2.1
  have h2 := mFst_b f i (f 0) j
  unfold mSrcT
  split
  · split
    · omega
    · split <;> omega
  · omega
set_option maxHeartbeats 4000000 in
theorem tX7_page (l : Launch) (G : gG) (b : Nat) (C S : gM) (u N : Int) (hu : -2147483648 ≤ u ∧ u ≤ 2147483647) (hM : MO (S 579) N) (hN : N ≤ 512) : Ct l G b yX7_page cX7_page 2 (some .int) rmX7_page [.ref (ad b (578)), .int (iI (u))] 586 (wM G b C S) (SI G b C (fun v S' => (u < 0 ∧ v = -2 ∧ S' = S) ∨ (0 ≤ u ∧ LyD S S' ∧ ((u < S' 578 5 ∧ v = S' 582 u) ∨ (¬ u < S' 578 5 ∧ v = -5))))) := by
  refine CtK_of (by decide) (Nat.le_of_ble_eq_true rfl) q1000 ?_
  intro x hl hB hE _
  subst hl
  show YM x G b 0 0 C S 0 [(0, .ref (ad b (578))), (1, .int (iI (u)))] []
  refine y_iload_n hB 1 dX7_page_0 rfl rfl ?_
  refine y_if_ge hB 7 dX7_page_1 (by decide) (by omega) (fun c_1 => ?_) (fun c_1 => ?_)
  · refine y_aload_n hB 0 dX7_page_7 rfl rfl ?_
    refine m_V hB msX7_layPage q926 (tX7_layPage _ G b C S N hM hN) (t := 20) (by decide) (by decide) rfl rfl rfl rfl rfl ⟨Nat.le_of_ble_eq_true rfl, Nat.le_of_ble_eq_true rfl⟩ (Nat.le_of_ble_eq_true rfl) ⟨rfl, rfl⟩ ⟨Nat.le_of_ble_eq_true rfl, Nat.le_of_ble_eq_true rfl⟩ dX7_page_8 (k_SV (fun S_8 h_8 => ?_))
    have hb_8 := LyD_b h_8
    refine y_iload_n hB 1 dX7_page_11 rfl rfl ?_
    refine y_aload_n hB 0 dX7_page_12 rfl rfl ?_
    refine gt_7_5 hB (by decide) (t1 := S_8 578 5) rfl dX7_page_13 ?_
    refine y_icmp_ge hB 28 dX7_page_16 (by decide) (by omega) (by omega) (fun c_16 => ?_) (fun c_16 => ?_)
    · refine y_bipush (v := -5) hB dX7_page_28 (by decide) ?_
      exact m_si hB hE dX7_page_30 rfl (Or.inr ⟨by omega, h_8, Or.inr ⟨by omega, rfl⟩⟩)
    · refine y_aload_n hB 0 dX7_page_19 rfl rfl ?_
      refine gt_7_3 hB (by decide) (t1 := 582) (by omega) dX7_page_20 ?_
      refine y_iload_n hB 1 dX7_page_23 rfl rfl ?_
      refine ald_24 hB (by decide) (t1 := S_8 582 u) (by omega) rfl dX7_page_24 ?_
      refine y_goto hB 30 dX7_page_25 (by decide) ?_
      exact m_si hB hE dX7_page_30 rfl (Or.inr ⟨by omega, h_8, Or.inl ⟨by omega, rfl⟩⟩)
  · refine y_bipush (v := -2) hB dX7_page_4 (by decide) ?_
    exact m_si hB hE dX7_page_6 rfl (Or.inl ⟨by omega, rfl, rfl⟩)
set_option maxHeartbeats 4000000 in
theorem tX7_freeLines (l : Launch) (G : gG) (b : Nat) (C S : gM) (N : Int) (hM : MO (S 579) N) (hN : N ≤ 512) : Ct l G b yX7_freeLines cX7_freeLines 1 (some .int) rmX7_freeLines [.ref (ad b (578))] 586 (wM G b C S) (SI G b C (fun v S' => LyD S S' ∧ v = S' 578 6)) := by
  refine CtK_of (by decide) (Nat.le_of_ble_eq_true rfl) q1024 ?_
  intro x hl hB hE _
  subst hl
  show YM x G b 0 0 C S 0 [(0, .ref (ad b (578)))] []
  refine y_aload_n hB 0 dX7_freeLines_0 rfl rfl ?_
  refine m_V hB msX7_layPage q926 (tX7_layPage _ G b C S N hM hN) (t := 20) (by decide) (by decide) rfl rfl rfl rfl rfl ⟨Nat.le_of_ble_eq_true rfl, Nat.le_of_ble_eq_true rfl⟩ (Nat.le_of_ble_eq_true rfl) ⟨rfl, rfl⟩ ⟨Nat.le_of_ble_eq_true rfl, Nat.le_of_ble_eq_true rfl⟩ dX7_freeLines_1 (k_SV (fun S_1 h_1 => ?_))
  refine y_aload_n hB 0 dX7_freeLines_4 rfl rfl ?_
  refine gt_7_6 hB (by decide) (t1 := S_1 578 6) rfl dX7_freeLines_5 ?_
  exact m_si hB hE dX7_freeLines_8 rfl (⟨h_1, rfl⟩)
set_option maxHeartbeats 4000000 in
theorem tX7_staleOn (l : Launch) (G : gG) (b : Nat) (C S : gM) (d N : Int) (hM : MO (S 579) N) (hN : N ≤ 512) (hd : S 579 0 ≤ d ∧ d ≤ 1520) : Ct l G b yX7_staleOn cX7_staleOn 4 (some .int) rmX7_staleOn [.ref (ad b (578)), .int (iI (d))] 586 (wM G b C S) (RI G b C S (fun v => v = smI (fun i => if S 579 (32 * i + 18) = 3 then 0 else mSt (S 579) i d) (S 579 1))) := by
  refine CtK_of (by decide) (Nat.le_of_ble_eq_true rfl) q1012 ?_
  intro x hl hB hE _
  subst hl
  show YM x G b 0 0 C S 0 [(0, .ref (ad b (578))), (1, .int (iI (d)))] []
  obtain ⟨hm1, hm0, hm2, hm3, hm4, hm5, hm6, hm7, hm8, hmt, hmp, hmz⟩ := id hM
  refine y_iconst (v := 0) hB dX7_staleOn_0 rfl ?_
  refine y_istore_n (lv' := [(2, .int (iI (0))), (0, .ref (ad b (578))), (1, .int (iI (d)))]) hB dX7_staleOn_1 rfl (by decide) rfl ?_
  refine y_iconst (v := 0) hB dX7_staleOn_2 rfl ?_
  refine y_istore_n (lv' := [(3, .int (iI (0))), (2, .int (iI (0))), (0, .ref (ad b (578))), (1, .int (iI (d)))]) hB dX7_staleOn_3 rfl (by decide) rfl ?_
  have LOOP_4 : ∀ (fu : Nat) (i s : Int), (0 ≤ i ∧ i ≤ S 579 1) → (s = smI (fun i => if S 579 (32 * i + 18) = 3 then 0 else mSt (S 579) i d) i) → (0 ≤ s ∧ s ≤ 8 * i) → S 579 1 - i < (fu : Int) → YM x G b 0 0 C S 4 [(0, .ref (ad b (578))), (1, .int (iI (d))), (2, .int (iI (s))), (3, .int (iI (i)))] [] := by
    intro fu
    induction fu with
    | zero => intro i s hi hv hs hm_4; exfalso; omega
    | succ fu ih_4 =>
      intro i s hi hv hs hm_4
      refine y_iload_n hB 3 dX7_staleOn_4 rfl rfl ?_
      refine y_aload_n hB 0 dX7_staleOn_5 rfl rfl ?_
      refine gt_7_0 hB (by decide) (t1 := 579) (by omega) dX7_staleOn_6 ?_
      refine y_iconst (v := 1) hB dX7_staleOn_9 rfl ?_
      refine ald_21 hB (by decide) (t1 := S 579 1) (by omega) rfl dX7_staleOn_10 ?_
      refine y_icmp_ge hB 43 dX7_staleOn_11 (by decide) (by omega) (by omega) (fun c_11 => ?_) (fun c_11 => ?_)
      · refine y_iload_n hB 2 dX7_staleOn_43 rfl rfl ?_
        exact m_ri hB hE dX7_staleOn_44 rfl (by rw [hv, show i = S 579 1 by omega])
      · obtain ⟨hp1, hp2, hp3, hp4, hp5, hp6, hp7, hpf⟩ := id (hmp i (by omega) (by omega))
        refine y_iload_n hB 2 dX7_staleOn_14 rfl rfl ?_
        refine y_aload_n hB 0 dX7_staleOn_15 rfl rfl ?_
        refine y_iload_n hB 3 dX7_staleOn_16 rfl rfl ?_
        refine y_iconst (v := 2) hB dX7_staleOn_17 rfl ?_
        refine m_V hB msX7_of q842 (tX7_of _ G b C S i 2 (32 * i + 18) (S 579 (32 * i + 18)) (by omega) (by omega) rfl) (t := 20) (by decide) (by decide) rfl rfl rfl rfl rfl ⟨Nat.le_of_ble_eq_true rfl, Nat.le_of_ble_eq_true rfl⟩ (Nat.le_of_ble_eq_true rfl) ⟨rfl, rfl⟩ ⟨Nat.le_of_ble_eq_true rfl, Nat.le_of_ble_eq_true rfl⟩ dX7_staleOn_18 (k_RI (fun v_18 h_18 => ?_))
        obtain rfl := h_18
        refine y_iconst (v := 3) hB dX7_staleOn_21 rfl ?_
        refine y_icmp_ne hB 29 dX7_staleOn_22 (by decide) (by omega) (by omega) (fun c_22 => ?_) (fun c_22 => ?_)
        · refine y_aload_n hB 0 dX7_staleOn_29 rfl rfl ?_
          refine y_iload_n hB 3 dX7_staleOn_30 rfl rfl ?_
          refine y_iload_n hB 1 dX7_staleOn_31 rfl rfl ?_
          refine m_V hB msX7_stale q895 (tX7_stale _ G b C S i d N hM hN (by omega) (by omega)) (t := 20) (by decide) (by decide) rfl rfl rfl rfl rfl ⟨Nat.le_of_ble_eq_true rfl, Nat.le_of_ble_eq_true rfl⟩ (Nat.le_of_ble_eq_true rfl) ⟨rfl, rfl⟩ ⟨Nat.le_of_ble_eq_true rfl, Nat.le_of_ble_eq_true rfl⟩ dX7_staleOn_32 (k_RI (fun v_32 h_32 => ?_))
          have hb_32 := mSt_b (f := S 579) (i := i) (d := d) hp4
          refine y_iadd (t := s + v_32) hB dX7_staleOn_35 (by omega) ?_
          refine y_istore_n (lv' := [(2, .int (iI (s + v_32))), (0, .ref (ad b (578))), (1, .int (iI (d))), (3, .int (iI (i)))]) hB dX7_staleOn_36 rfl (by decide) rfl ?_
          refine y_iinc (v := i + 1) (lv' := [(3, .int (iI (i + 1))), (2, .int (iI (s + v_32))), (0, .ref (ad b (578))), (1, .int (iI (d)))]) hB 3 dX7_staleOn_37 rfl (by omega) (by decide) rfl ?_
          refine y_goto hB 4 dX7_staleOn_40 (by decide) ?_
          refine y_sub (lv' := [(0, .ref (ad b (578))), (1, .int (iI (d))), (2, .int (iI (s + v_32))), (3, .int (iI (i + 1)))]) [2, 3, 1, 0] rfl ?_
          exact ih_4 (i + 1) _ (by omega) (by rw [smI_s _ hi.1, ← hv, if_neg (by omega), h_32]) (by omega) (by omega)
        · refine y_iconst (v := 0) hB dX7_staleOn_25 rfl ?_
          refine y_goto hB 35 dX7_staleOn_26 (by decide) ?_
          refine y_iadd (t := s) hB dX7_staleOn_35 (by omega) ?_
          refine y_istore_n (lv' := [(2, .int (iI (s))), (0, .ref (ad b (578))), (1, .int (iI (d))), (3, .int (iI (i)))]) hB dX7_staleOn_36 rfl (by decide) rfl ?_
          refine y_iinc (v := i + 1) (lv' := [(3, .int (iI (i + 1))), (2, .int (iI (s))), (0, .ref (ad b (578))), (1, .int (iI (d)))]) hB 3 dX7_staleOn_37 rfl (by omega) (by decide) rfl ?_
          refine y_goto hB 4 dX7_staleOn_40 (by decide) ?_
          refine y_sub (lv' := [(0, .ref (ad b (578))), (1, .int (iI (d))), (2, .int (iI (s))), (3, .int (iI (i + 1)))]) [2, 3, 1, 0] rfl ?_
          exact ih_4 (i + 1) s (by omega) (by rw [smI_s _ hi.1, ← hv, if_pos (by omega)]; omega) (by omega) (by omega)
  refine y_sub (lv' := [(0, .ref (ad b (578))), (1, .int (iI (d))), (2, .int (iI (0))), (3, .int (iI (0)))]) [2, 3, 1, 0] rfl ?_
  exact LOOP_4 ((S 579 1).toNat + 1) 0 0 (by omega) (smI_0 _).symm (by omega) (by omega)
set_option maxHeartbeats 4000000 in
theorem tX7_staleIn (l : Launch) (G : gG) (b : Nat) (C S : gM) (u N : Int) (hu : -2147483648 ≤ u ∧ u ≤ 2147483647) (hM : MO (S 579) N) (hN : N ≤ 512) : Ct l G b yX7_staleIn cX7_staleIn 2 (some .int) rmX7_staleIn [.ref (ad b (578)), .int (iI (u))] 586 (wM G b C S) (RI G b C S (fun v => ((¬ (0 ≤ u ∧ u ≤ 999)) ∧ v = -2) ∨ ((0 ≤ u ∧ u ≤ 999) ∧ v = smI (fun i => if S 579 (32 * i + 18) = 3 then 0 else mSt (S 579) i (S 579 0 + u)) (S 579 1)))) := by
  refine CtK_of (by decide) (Nat.le_of_ble_eq_true rfl) q1008 ?_
  intro x hl hB hE _
  subst hl
  show YM x G b 0 0 C S 0 [(0, .ref (ad b (578))), (1, .int (iI (u)))] []
  obtain ⟨hm1, hm0, hm2, hm3, hm4, hm5, hm6, hm7, hm8, hmt, hmp, hmz⟩ := id hM
  refine y_iload_n hB 1 dX7_staleIn_0 rfl rfl ?_
  refine y_iconst (v := 0) hB dX7_staleIn_1 rfl ?_
  refine y_sipush (v := 999) hB dX7_staleIn_2 (by decide) ?_
  refine m_S hB msX7_in q792 (tX7_in _ G b C S u 0 999 (by omega) (by omega) (by omega)) rfl rfl ⟨Nat.le_of_ble_eq_true rfl, Nat.le_of_ble_eq_true rfl⟩ (Nat.le_of_ble_eq_true rfl) ⟨rfl, rfl⟩ ⟨Nat.le_of_ble_eq_true rfl, Nat.le_of_ble_eq_true rfl⟩ dX7_staleIn_5 (k_RI (fun v_5 h_5 => ?_))
  refine y_if_eq hB 26 dX7_staleIn_8 (by decide) (by omega) (fun c_8 => ?_) (fun c_8 => ?_)
  · refine y_bipush (v := -2) hB dX7_staleIn_26 (by decide) ?_
    exact m_ri hB hE dX7_staleIn_28 rfl (Or.inl (⟨by omega, rfl⟩))
  · refine y_aload_n hB 0 dX7_staleIn_11 rfl rfl ?_
    refine y_aload_n hB 0 dX7_staleIn_12 rfl rfl ?_
    refine gt_7_0 hB (by decide) (t1 := 579) (by omega) dX7_staleIn_13 ?_
    refine y_iconst (v := 0) hB dX7_staleIn_16 rfl ?_
    refine ald_21 hB (by decide) (t1 := S 579 0) (by omega) rfl dX7_staleIn_17 ?_
    refine y_iload_n hB 1 dX7_staleIn_18 rfl rfl ?_
    refine y_iadd (t := S 579 0 + u) hB dX7_staleIn_19 (by omega) ?_
    refine m_V hB msX7_staleOn q1009 (tX7_staleOn _ G b C S (S 579 0 + u) N hM hN (by omega)) (t := 20) (by decide) (by decide) rfl rfl rfl rfl rfl ⟨Nat.le_of_ble_eq_true rfl, Nat.le_of_ble_eq_true rfl⟩ (Nat.le_of_ble_eq_true rfl) ⟨rfl, rfl⟩ ⟨Nat.le_of_ble_eq_true rfl, Nat.le_of_ble_eq_true rfl⟩ dX7_staleIn_20 (k_RI (fun v_20 h_20 => ?_))
    refine y_goto hB 28 dX7_staleIn_23 (by decide) ?_
    exact m_ri hB hE dX7_staleIn_28 rfl (Or.inr (⟨by omega, h_20⟩))
set_option maxHeartbeats 4000000 in
theorem tX7_facts (l : Launch) (G : gG) (b : Nat) (C S : gM) (N : Int) (hM : MO (S 579) N) (hN : N ≤ 512) : Ct l G b yX7_facts cX7_facts 3 (some .int) rmX7_facts [.ref (ad b (578))] 586 (wM G b C S) (RI G b C S (fun v => v = smI (fun i => S 579 (32 * i + 19)) (S 579 1))) := by
  refine CtK_of (by decide) (Nat.le_of_ble_eq_true rfl) q1020 ?_
  intro x hl hB hE _
  subst hl
  show YM x G b 0 0 C S 0 [(0, .ref (ad b (578)))] []
  obtain ⟨hm1, hm0, hm2, hm3, hm4, hm5, hm6, hm7, hm8, hmt, hmp, hmz⟩ := id hM
  refine y_iconst (v := 0) hB dX7_facts_0 rfl ?_
  refine y_istore_n (lv' := [(1, .int (iI (0))), (0, .ref (ad b (578)))]) hB dX7_facts_1 rfl (by decide) rfl ?_
  refine y_iconst (v := 0) hB dX7_facts_2 rfl ?_
  refine y_istore_n (lv' := [(2, .int (iI (0))), (1, .int (iI (0))), (0, .ref (ad b (578)))]) hB dX7_facts_3 rfl (by decide) rfl ?_
  have LOOP_4 : ∀ (fu : Nat) (i s : Int), (0 ≤ i ∧ i ≤ S 579 1) → (s = smI (fun i => S 579 (32 * i + 19)) i) → (0 ≤ s ∧ s ≤ 8 * i) → S 579 1 - i < (fu : Int) → YM x G b 0 0 C S 4 [(0, .ref (ad b (578))), (1, .int (iI (s))), (2, .int (iI (i)))] [] := by
    intro fu
    induction fu with
    | zero => intro i s hi hv hs hm_4; exfalso; omega
    | succ fu ih_4 =>
      intro i s hi hv hs hm_4
      refine y_iload_n hB 2 dX7_facts_4 rfl rfl ?_
      refine y_aload_n hB 0 dX7_facts_5 rfl rfl ?_
      refine gt_7_0 hB (by decide) (t1 := 579) (by omega) dX7_facts_6 ?_
      refine y_iconst (v := 1) hB dX7_facts_9 rfl ?_
      refine ald_21 hB (by decide) (t1 := S 579 1) (by omega) rfl dX7_facts_10 ?_
      refine y_icmp_ge hB 29 dX7_facts_11 (by decide) (by omega) (by omega) (fun c_11 => ?_) (fun c_11 => ?_)
      · refine y_iload_n hB 1 dX7_facts_29 rfl rfl ?_
        exact m_ri hB hE dX7_facts_30 rfl (by rw [hv, show i = S 579 1 by omega])
      · obtain ⟨hp1, hp2, hp3, hp4, hp5, hp6, hp7, hpf⟩ := id (hmp i (by omega) (by omega))
        refine y_iload_n hB 1 dX7_facts_14 rfl rfl ?_
        refine y_aload_n hB 0 dX7_facts_15 rfl rfl ?_
        refine y_iload_n hB 2 dX7_facts_16 rfl rfl ?_
        refine y_iconst (v := 3) hB dX7_facts_17 rfl ?_
        refine m_V hB msX7_of q842 (tX7_of _ G b C S i 3 (32 * i + 19) (S 579 (32 * i + 19)) (by omega) (by omega) rfl) (t := 20) (by decide) (by decide) rfl rfl rfl rfl rfl ⟨Nat.le_of_ble_eq_true rfl, Nat.le_of_ble_eq_true rfl⟩ (Nat.le_of_ble_eq_true rfl) ⟨rfl, rfl⟩ ⟨Nat.le_of_ble_eq_true rfl, Nat.le_of_ble_eq_true rfl⟩ dX7_facts_18 (k_RI (fun v_18 h_18 => ?_))
        obtain rfl := h_18
        refine y_iadd (t := (S 579 (32 * i + 19)) + s) hB dX7_facts_21 (by omega) ?_
        refine y_istore_n (lv' := [(1, .int (iI ((S 579 (32 * i + 19)) + s))), (0, .ref (ad b (578))), (2, .int (iI (i)))]) hB dX7_facts_22 rfl (by decide) rfl ?_
        refine y_iinc (v := i + 1) (lv' := [(2, .int (iI (i + 1))), (1, .int (iI ((S 579 (32 * i + 19)) + s))), (0, .ref (ad b (578)))]) hB 2 dX7_facts_23 rfl (by omega) (by decide) rfl ?_
        refine y_goto hB 4 dX7_facts_26 (by decide) ?_
        refine y_sub (lv' := [(0, .ref (ad b (578))), (1, .int (iI ((S 579 (32 * i + 19)) + s))), (2, .int (iI (i + 1)))]) [2, 1, 0] rfl ?_
        exact ih_4 (i + 1) _ (by omega) (by rw [smI_s _ hi.1, ← hv]; omega) (by omega) (by omega)
  refine y_sub (lv' := [(0, .ref (ad b (578))), (1, .int (iI (0))), (2, .int (iI (0)))]) [2, 1, 0] rfl ?_
  exact LOOP_4 ((S 579 1).toNat + 1) 0 0 (by omega) (smI_0 _).symm (by omega) (by omega)
set_option maxHeartbeats 4000000 in
theorem tX7_source (l : Launch) (G : gG) (b : Nat) (C S : gM) (u t N : Int) (hu : -2147483648 ≤ u ∧ u ≤ 2147483647) (ht : -2147483648 ≤ t ∧ t ≤ 2147483647) (hM : MO (S 579) N) (hN : N ≤ 512) : Ct l G b yX7_source cX7_source 7 (some .int) rmX7_source [.ref (ad b (578)), .int (iI (u)), .int (iI (t))] 586 (wM G b C S) (RI G b C S (fun v => ((¬ (0 ≤ u ∧ u < 6)) ∧ v = -1) ∨ (((0 ≤ u ∧ u < 6) ∧ (t < 0 ∨ 3 < t)) ∧ v = -2) ∨ (((0 ≤ u ∧ u < 6) ∧ t = 0) ∧ v = S 579 (u + 9)) ∨ (((0 ≤ u ∧ u < 6) ∧ 1 ≤ t ∧ t ≤ 3) ∧ v = smI (fun i => smI (mSrcT (S 579) u t i) (S 579 (32 * i + 19))) (S 579 1)))) := by
  refine CtK_of (by decide) (Nat.le_of_ble_eq_true rfl) q1004 ?_
  intro x hl hB hE _
  subst hl
  show YM x G b 0 0 C S 0 [(0, .ref (ad b (578))), (1, .int (iI (u))), (2, .int (iI (t)))] []
  obtain ⟨hm1, hm0, hm2, hm3, hm4, hm5, hm6, hm7, hm8, hmt, hmp, hmz⟩ := id hM
  refine y_iload_n hB 1 dX7_source_0 rfl rfl ?_
  refine y_iconst (v := 0) hB dX7_source_1 rfl ?_
  refine y_iconst (v := 5) hB dX7_source_2 rfl ?_
  refine m_S hB msX7_in q792 (tX7_in _ G b C S u 0 5 (by omega) (by omega) (by omega)) rfl rfl ⟨Nat.le_of_ble_eq_true rfl, Nat.le_of_ble_eq_true rfl⟩ (Nat.le_of_ble_eq_true rfl) ⟨rfl, rfl⟩ ⟨Nat.le_of_ble_eq_true rfl, Nat.le_of_ble_eq_true rfl⟩ dX7_source_3 (k_RI (fun v_3 h_3 => ?_))
  refine y_if_ne hB 11 dX7_source_6 (by decide) (by omega) (fun c_6 => ?_) (fun c_6 => ?_)
  · refine y_iload_n hB 2 dX7_source_11 rfl rfl ?_
    refine y_iconst (v := 0) hB dX7_source_12 rfl ?_
    refine y_iconst (v := 3) hB dX7_source_13 rfl ?_
    refine m_S hB msX7_in q792 (tX7_in _ G b C S t 0 3 (by omega) (by omega) (by omega)) rfl rfl ⟨Nat.le_of_ble_eq_true rfl, Nat.le_of_ble_eq_true rfl⟩ (Nat.le_of_ble_eq_true rfl) ⟨rfl, rfl⟩ ⟨Nat.le_of_ble_eq_true rfl, Nat.le_of_ble_eq_true rfl⟩ dX7_source_14 (k_RI (fun v_14 h_14 => ?_))
    refine y_if_ne hB 23 dX7_source_17 (by decide) (by omega) (fun c_17 => ?_) (fun c_17 => ?_)
    · refine y_iload_n hB 2 dX7_source_23 rfl rfl ?_
      refine y_if_ne hB 37 dX7_source_24 (by decide) (by omega) (fun c_24 => ?_) (fun c_24 => ?_)
      · refine y_iconst (v := 0) hB dX7_source_37 rfl ?_
        refine y_istore_n (lv' := [(3, .int (iI (0))), (0, .ref (ad b (578))), (1, .int (iI (u))), (2, .int (iI (t)))]) hB dX7_source_38 rfl (by decide) rfl ?_
        refine y_iconst (v := 0) hB dX7_source_39 rfl ?_
        refine y_istore (lv' := [(4, .int (iI (0))), (3, .int (iI (0))), (0, .ref (ad b (578))), (1, .int (iI (u))), (2, .int (iI (t)))]) hB dX7_source_40 (by decide) rfl ?_
        have LOOP_42 : ∀ (fu : Nat) (i s : Int), (0 ≤ i ∧ i ≤ S 579 1) → (s = smI (fun i => smI (mSrcT (S 579) u t i) (S 579 (32 * i + 19))) i) → (0 ≤ s ∧ s ≤ 72 * i) → S 579 1 - i < (fu : Int) → YM x G b 0 0 C S 42 [(0, .ref (ad b (578))), (1, .int (iI (u))), (2, .int (iI (t))), (3, .int (iI (s))), (4, .int (iI (i)))] [] := by
          intro fu
          induction fu with
          | zero => intro i s hi hv hs hm_42; exfalso; omega
          | succ fu ih_42 =>
            intro i s hi hv hs hm_42
            refine y_iload hB 4 dX7_source_42 rfl ?_
            refine y_aload_n hB 0 dX7_source_44 rfl rfl ?_
            refine gt_7_0 hB (by decide) (t1 := 579) (by omega) dX7_source_45 ?_
            refine y_iconst (v := 1) hB dX7_source_48 rfl ?_
            refine ald_21 hB (by decide) (t1 := S 579 1) (by omega) rfl dX7_source_49 ?_
            refine y_icmp_ge hB 168 dX7_source_50 (by decide) (by omega) (by omega) (fun c_50 => ?_) (fun c_50 => ?_)
            · refine y_iload_n hB 3 dX7_source_168 rfl rfl ?_
              exact m_ri hB hE dX7_source_169 rfl (Or.inr (Or.inr (Or.inr (⟨by omega, by rw [hv, show i = S 579 1 by omega]⟩))))
            · obtain ⟨hp1, hp2, hp3, hp4, hp5, hp6, hp7, hpf⟩ := id (hmp i (by omega) (by omega))
              refine y_iconst (v := 0) hB dX7_source_53 rfl ?_
              refine y_istore (lv' := [(5, .int (iI (0))), (0, .ref (ad b (578))), (1, .int (iI (u))), (2, .int (iI (t))), (3, .int (iI (s))), (4, .int (iI (i)))]) hB dX7_source_54 (by decide) rfl ?_
              have LOOP_56 : ∀ (fu : Nat) (j r : Int), (0 ≤ j ∧ j ≤ S 579 (32 * i + 19)) → (r = s + smI (mSrcT (S 579) u t i) j) → (s ≤ r ∧ r ≤ s + 9 * j) → S 579 (32 * i + 19) - j < (fu : Int) → YM x G b 0 0 C S 56 [(0, .ref (ad b (578))), (1, .int (iI (u))), (2, .int (iI (t))), (3, .int (iI (r))), (4, .int (iI (i))), (5, .int (iI (j)))] [] := by
                intro fu
                induction fu with
                | zero => intro j r hj hr hrb hm_56; exfalso; omega
                | succ fu ih_56 =>
                  intro j r hj hr hrb hm_56
                  refine y_iload hB 5 dX7_source_56 rfl ?_
                  refine y_aload_n hB 0 dX7_source_58 rfl rfl ?_
                  refine y_iload hB 4 dX7_source_59 rfl ?_
                  refine y_iconst (v := 3) hB dX7_source_61 rfl ?_
                  refine m_V hB msX7_of q842 (tX7_of _ G b C S i 3 (32 * i + 19) (S 579 (32 * i + 19)) (by omega) (by omega) rfl) (t := 20) (by decide) (by decide) rfl rfl rfl rfl rfl ⟨Nat.le_of_ble_eq_true rfl, Nat.le_of_ble_eq_true rfl⟩ (Nat.le_of_ble_eq_true rfl) ⟨rfl, rfl⟩ ⟨Nat.le_of_ble_eq_true rfl, Nat.le_of_ble_eq_true rfl⟩ dX7_source_62 (k_RI (fun v_62 h_62 => ?_))
                  obtain rfl := h_62
                  refine y_icmp_ge hB 162 dX7_source_65 (by decide) (by omega) (by omega) (fun c_65 => ?_) (fun c_65 => ?_)
                  · refine y_iinc (v := i + 1) (lv' := [(4, .int (iI (i + 1))), (0, .ref (ad b (578))), (1, .int (iI (u))), (2, .int (iI (t))), (3, .int (iI (r))), (5, .int (iI (j)))]) hB 4 dX7_source_162 rfl (by omega) (by decide) rfl ?_
                    refine y_goto hB 42 dX7_source_165 (by decide) ?_
                    refine y_sub (lv' := [(0, .ref (ad b (578))), (1, .int (iI (u))), (2, .int (iI (t))), (3, .int (iI (r))), (4, .int (iI (i + 1)))]) [1, 2, 3, 4, 0] rfl ?_
                    exact ih_42 (i + 1) r (by omega) (by rw [smI_s _ hi.1, ← hv, hr, show j = S 579 (32 * i + 19) by omega]) (by omega) (by omega)
                  · have hf := hpf j hj.1 (by omega)
                    have htb := mSrcT_b (u := u) (t := t) (hmp i (by omega) (by omega)) ⟨hj.1, by omega⟩
                    refine y_aload_n hB 0 dX7_source_68 rfl rfl ?_
                    refine gt_7_0 hB (by decide) (t1 := 579) (by omega) dX7_source_69 ?_
                    refine y_iload hB 4 dX7_source_72 rfl ?_
                    refine y_iload hB 5 dX7_source_74 rfl ?_
                    refine m_S hB msX7_f q846 (tX7_f _ G b C S i j (32 * i + 3 * j + 24) (by omega)) rfl rfl ⟨Nat.le_of_ble_eq_true rfl, Nat.le_of_ble_eq_true rfl⟩ (Nat.le_of_ble_eq_true rfl) ⟨rfl, rfl⟩ ⟨Nat.le_of_ble_eq_true rfl, Nat.le_of_ble_eq_true rfl⟩ dX7_source_76 (k_RI (fun v_76 h_76 => ?_))
                    obtain rfl := h_76
                    refine ald_21 hB (by decide) (t1 := S 579 (32 * i + 3 * j + 24)) (by omega) rfl dX7_source_79 ?_
                    refine y_iload_n hB 1 dX7_source_80 rfl rfl ?_
                    refine y_icmp_ne hB 88 dX7_source_81 (by decide) (by omega) (by omega) (fun c_81 => ?_) (fun c_81 => ?_)
                    · have hz : mSrcT (S 579) u t i j = 0 := if_neg (by omega)
                      refine y_iconst (v := 0) hB dX7_source_88 rfl ?_
                      refine y_istore (lv' := [(6, .int (iI (0))), (0, .ref (ad b (578))), (1, .int (iI (u))), (2, .int (iI (t))), (3, .int (iI (r))), (4, .int (iI (i))), (5, .int (iI (j)))]) hB dX7_source_89 (by decide) rfl ?_
                      refine y_iload_n hB 4 dX7_source_91 rfl rfl ?_
                      refine y_iload hB 0 dX7_source_92 rfl ?_
                      refine y_if_ne hB 101 dX7_source_94 (by decide) (by omega) (fun c_94 => ?_) (fun c_94 => ?_)
                      · exfalso
                        omega
                      · refine y_iconst (v := 0) hB dX7_source_97 rfl ?_
                        refine y_goto hB 154 dX7_source_98 (by decide) ?_
                        refine y_iadd (t := r) hB dX7_source_154 (by omega) ?_
                        refine y_istore_n (lv' := [(3, .int (iI (r))), (6, .int (iI (0))), (0, .ref (ad b (578))), (1, .int (iI (u))), (2, .int (iI (t))), (4, .int (iI (i))), (5, .int (iI (j)))]) hB dX7_source_155 rfl (by decide) rfl ?_
                        refine y_iinc (v := j + 1) (lv' := [(5, .int (iI (j + 1))), (3, .int (iI (r))), (6, .int (iI (0))), (0, .ref (ad b (578))), (1, .int (iI (u))), (2, .int (iI (t))), (4, .int (iI (i)))]) hB 6 dX7_source_156 rfl (by omega) (by decide) rfl ?_
                        refine y_goto hB 56 dX7_source_159 (by decide) ?_
                        refine y_sub (lv' := [(0, .ref (ad b (578))), (1, .int (iI (u))), (2, .int (iI (t))), (3, .int (iI (r))), (4, .int (iI (i))), (5, .int (iI (j + 1)))]) [3, 4, 5, 1, 6, 0] rfl ?_
                        exact ih_56 (j + 1) _ (by omega) (by rw [smI_s _ hj.1]; omega) (by omega) (by omega)
                    · refine y_iconst (v := 1) hB dX7_source_84 rfl ?_
                      refine y_goto hB 89 dX7_source_85 (by decide) ?_
                      refine y_istore (lv' := [(6, .int (iI (1))), (0, .ref (ad b (578))), (1, .int (iI (u))), (2, .int (iI (t))), (3, .int (iI (r))), (4, .int (iI (i))), (5, .int (iI (j)))]) hB dX7_source_89 (by decide) rfl ?_
                      refine y_iload_n hB 4 dX7_source_91 rfl rfl ?_
                      refine y_iload hB 0 dX7_source_92 rfl ?_
                      refine y_if_ne hB 101 dX7_source_94 (by decide) (by omega) (fun c_94 => ?_) (fun c_94 => ?_)
                      · refine y_iload_n hB 3 dX7_source_101 rfl rfl ?_
                        refine y_iconst (v := 1) hB dX7_source_102 rfl ?_
                        refine y_icmp_ne hB 110 dX7_source_103 (by decide) (by omega) (by omega) (fun c_103 => ?_) (fun c_103 => ?_)
                        · refine y_iload_n hB 3 dX7_source_110 rfl rfl ?_
                          refine y_iconst (v := 3) hB dX7_source_111 rfl ?_
                          refine y_icmp_ne hB 132 dX7_source_112 (by decide) (by omega) (by omega) (fun c_112 => ?_) (fun c_112 => ?_)
                          · refine y_aload_n hB 1 dX7_source_132 rfl rfl ?_
                            refine y_iload hB 5 dX7_source_133 rfl ?_
                            refine y_iload hB 6 dX7_source_135 rfl ?_
                            refine y_aload_n hB 1 dX7_source_137 rfl rfl ?_
                            refine gt_7_0 hB (by decide) (t1 := 579) (by omega) dX7_source_138 ?_
                            refine y_iconst (v := 0) hB dX7_source_141 rfl ?_
                            refine ald_21 hB (by decide) (t1 := S 579 0) (by omega) rfl dX7_source_142 ?_
                            refine m_V hB msX7_isStaleOn q881 (tX7_isStaleOn _ G b C S i j (S 579 0) N hM hN (by omega) (by omega) (by omega)) (t := 20) (by decide) (by decide) rfl rfl rfl rfl rfl ⟨Nat.le_of_ble_eq_true rfl, Nat.le_of_ble_eq_true rfl⟩ (Nat.le_of_ble_eq_true rfl) ⟨rfl, rfl⟩ ⟨Nat.le_of_ble_eq_true rfl, Nat.le_of_ble_eq_true rfl⟩ dX7_source_143 (k_RI (fun v_143 h_143 => ?_))
                            have hb_143 := mFst_b (S 579) i (S 579 0) j
                            have hz : mSrcT (S 579) u t i j = mFst (S 579) i (S 579 0) j := by unfold mSrcT; rw [if_pos (by omega), if_neg (by omega), if_neg (by omega)]
                            refine y_if_eq hB 153 dX7_source_146 (by decide) (by omega) (fun c_146 => ?_) (fun c_146 => ?_)
                            · refine y_iconst (v := 0) hB dX7_source_153 rfl ?_
                              refine y_iadd (t := r) hB dX7_source_154 (by omega) ?_
                              refine y_istore_n (lv' := [(3, .int (iI (r))), (6, .int (iI (1))), (0, .ref (ad b (578))), (1, .int (iI (u))), (2, .int (iI (t))), (4, .int (iI (i))), (5, .int (iI (j)))]) hB dX7_source_155 rfl (by decide) rfl ?_
                              refine y_iinc (v := j + 1) (lv' := [(5, .int (iI (j + 1))), (3, .int (iI (r))), (6, .int (iI (1))), (0, .ref (ad b (578))), (1, .int (iI (u))), (2, .int (iI (t))), (4, .int (iI (i)))]) hB 6 dX7_source_156 rfl (by omega) (by decide) rfl ?_
                              refine y_goto hB 56 dX7_source_159 (by decide) ?_
                              refine y_sub (lv' := [(0, .ref (ad b (578))), (1, .int (iI (u))), (2, .int (iI (t))), (3, .int (iI (r))), (4, .int (iI (i))), (5, .int (iI (j + 1)))]) [3, 4, 5, 1, 6, 0] rfl ?_
                              exact ih_56 (j + 1) _ (by omega) (by rw [smI_s _ hj.1]; omega) (by omega) (by omega)
                            · refine y_iconst (v := 1) hB dX7_source_149 rfl ?_
                              refine y_goto hB 154 dX7_source_150 (by decide) ?_
                              refine y_iadd (t := r + 1) hB dX7_source_154 (by omega) ?_
                              refine y_istore_n (lv' := [(3, .int (iI (r + 1))), (6, .int (iI (1))), (0, .ref (ad b (578))), (1, .int (iI (u))), (2, .int (iI (t))), (4, .int (iI (i))), (5, .int (iI (j)))]) hB dX7_source_155 rfl (by decide) rfl ?_
                              refine y_iinc (v := j + 1) (lv' := [(5, .int (iI (j + 1))), (3, .int (iI (r + 1))), (6, .int (iI (1))), (0, .ref (ad b (578))), (1, .int (iI (u))), (2, .int (iI (t))), (4, .int (iI (i)))]) hB 6 dX7_source_156 rfl (by omega) (by decide) rfl ?_
                              refine y_goto hB 56 dX7_source_159 (by decide) ?_
                              refine y_sub (lv' := [(0, .ref (ad b (578))), (1, .int (iI (u))), (2, .int (iI (t))), (3, .int (iI (r + 1))), (4, .int (iI (i))), (5, .int (iI (j + 1)))]) [3, 4, 5, 1, 6, 0] rfl ?_
                              exact ih_56 (j + 1) _ (by omega) (by rw [smI_s _ hj.1]; omega) (by omega) (by omega)
                          · have hz : mSrcT (S 579) u t i j = S 579 (32 * i + 3 * j + 25) := by unfold mSrcT; rw [if_pos (by omega), if_neg (by omega), if_pos (by omega)]
                            refine y_aload_n hB 1 dX7_source_115 rfl rfl ?_
                            refine gt_7_0 hB (by decide) (t1 := 579) (by omega) dX7_source_116 ?_
                            refine y_iload hB 5 dX7_source_119 rfl ?_
                            refine y_iload hB 6 dX7_source_121 rfl ?_
                            refine m_S hB msX7_f q846 (tX7_f _ G b C S i j (32 * i + 3 * j + 24) (by omega)) rfl rfl ⟨Nat.le_of_ble_eq_true rfl, Nat.le_of_ble_eq_true rfl⟩ (Nat.le_of_ble_eq_true rfl) ⟨rfl, rfl⟩ ⟨Nat.le_of_ble_eq_true rfl, Nat.le_of_ble_eq_true rfl⟩ dX7_source_123 (k_RI (fun v_123 h_123 => ?_))
                            obtain rfl := h_123
                            refine y_iconst (v := 1) hB dX7_source_126 rfl ?_
                            refine y_iadd (t := 32 * i + 3 * j + 25) hB dX7_source_127 (by omega) ?_
                            refine ald_21 hB (by decide) (t1 := S 579 (32 * i + 3 * j + 25)) (by omega) rfl dX7_source_128 ?_
                            refine y_goto hB 154 dX7_source_129 (by decide) ?_
                            refine y_iadd (t := (S 579 (32 * i + 3 * j + 25)) + r) hB dX7_source_154 (by omega) ?_
                            refine y_istore_n (lv' := [(3, .int (iI ((S 579 (32 * i + 3 * j + 25)) + r))), (6, .int (iI (1))), (0, .ref (ad b (578))), (1, .int (iI (u))), (2, .int (iI (t))), (4, .int (iI (i))), (5, .int (iI (j)))]) hB dX7_source_155 rfl (by decide) rfl ?_
                            refine y_iinc (v := j + 1) (lv' := [(5, .int (iI (j + 1))), (3, .int (iI ((S 579 (32 * i + 3 * j + 25)) + r))), (6, .int (iI (1))), (0, .ref (ad b (578))), (1, .int (iI (u))), (2, .int (iI (t))), (4, .int (iI (i)))]) hB 6 dX7_source_156 rfl (by omega) (by decide) rfl ?_
                            refine y_goto hB 56 dX7_source_159 (by decide) ?_
                            refine y_sub (lv' := [(0, .ref (ad b (578))), (1, .int (iI (u))), (2, .int (iI (t))), (3, .int (iI ((S 579 (32 * i + 3 * j + 25)) + r))), (4, .int (iI (i))), (5, .int (iI (j + 1)))]) [3, 4, 5, 1, 6, 0] rfl ?_
                            exact ih_56 (j + 1) _ (by omega) (by rw [smI_s _ hj.1]; omega) (by omega) (by omega)
                        · have hz : mSrcT (S 579) u t i j = 1 := by unfold mSrcT; rw [if_pos (by omega), if_pos (by omega)]
                          refine y_iconst (v := 1) hB dX7_source_106 rfl ?_
                          refine y_goto hB 154 dX7_source_107 (by decide) ?_
                          refine y_iadd (t := r + 1) hB dX7_source_154 (by omega) ?_
                          refine y_istore_n (lv' := [(3, .int (iI (r + 1))), (6, .int (iI (1))), (0, .ref (ad b (578))), (1, .int (iI (u))), (2, .int (iI (t))), (4, .int (iI (i))), (5, .int (iI (j)))]) hB dX7_source_155 rfl (by decide) rfl ?_
                          refine y_iinc (v := j + 1) (lv' := [(5, .int (iI (j + 1))), (3, .int (iI (r + 1))), (6, .int (iI (1))), (0, .ref (ad b (578))), (1, .int (iI (u))), (2, .int (iI (t))), (4, .int (iI (i)))]) hB 6 dX7_source_156 rfl (by omega) (by decide) rfl ?_
                          refine y_goto hB 56 dX7_source_159 (by decide) ?_
                          refine y_sub (lv' := [(0, .ref (ad b (578))), (1, .int (iI (u))), (2, .int (iI (t))), (3, .int (iI (r + 1))), (4, .int (iI (i))), (5, .int (iI (j + 1)))]) [3, 4, 5, 1, 6, 0] rfl ?_
                          exact ih_56 (j + 1) _ (by omega) (by rw [smI_s _ hj.1]; omega) (by omega) (by omega)
                      · exfalso
                        omega
              refine y_sub (lv' := [(0, .ref (ad b (578))), (1, .int (iI (u))), (2, .int (iI (t))), (3, .int (iI (s))), (4, .int (iI (i))), (5, .int (iI (0)))]) [1, 2, 3, 4, 5, 0] rfl ?_
              exact LOOP_56 ((S 579 (32 * i + 19)).toNat + 1) 0 s (by omega) (by rw [smI_0]; omega) (by omega) (by omega)
        refine y_sub (lv' := [(0, .ref (ad b (578))), (1, .int (iI (u))), (2, .int (iI (t))), (3, .int (iI (0))), (4, .int (iI (0)))]) [2, 3, 4, 1, 0] rfl ?_
        exact LOOP_42 ((S 579 1).toNat + 1) 0 0 (by omega) (smI_0 _).symm (by omega) (by omega)
      · refine y_aload_n hB 0 dX7_source_27 rfl rfl ?_
        refine gt_7_0 hB (by decide) (t1 := 579) (by omega) dX7_source_28 ?_
        refine y_bipush (v := 9) hB dX7_source_31 (by decide) ?_
        refine y_iload_n hB 1 dX7_source_33 rfl rfl ?_
        refine y_iadd (t := u + 9) hB dX7_source_34 (by omega) ?_
        refine ald_21 hB (by decide) (t1 := S 579 (u + 9)) (by omega) rfl dX7_source_35 ?_
        exact m_ri hB hE dX7_source_36 rfl (Or.inr (Or.inr (Or.inl (⟨by omega, rfl⟩))))
    · refine y_bipush (v := -2) hB dX7_source_20 (by decide) ?_
      exact m_ri hB hE dX7_source_22 rfl (Or.inr (Or.inl (⟨by omega, rfl⟩)))
  · refine y_iconst (v := -1) hB dX7_source_9 rfl ?_
    exact m_ri hB hE dX7_source_10 rfl (Or.inl (⟨by omega, rfl⟩))
set_option maxHeartbeats 4000000 in
theorem tX7_person (l : Launch) (G : gG) (b : Nat) (C S : gM) (p t N : Int) (hp : -2147483648 ≤ p ∧ p ≤ 2147483647) (ht : -2147483648 ≤ t ∧ t ≤ 2147483647) (hM : MO (S 579) N) (hN : N ≤ 512) : Ct l G b yX7_person cX7_person 3 (some .int) rmX7_person [.ref (ad b (578)), .int (iI (p)), .int (iI (t))] 586 (wM G b C S) (RI G b C S (fun v => ((¬ (0 ≤ p ∧ p < S 579 1)) ∧ v = -1) ∨ (((0 ≤ p ∧ p < S 579 1) ∧ (t < 0 ∨ 10 < t)) ∧ v = -2) ∨ (((0 ≤ p ∧ p < S 579 1) ∧ t = 0) ∧ v = S 579 (32 * p + 16)) ∨ (((0 ≤ p ∧ p < S 579 1) ∧ t = 1) ∧ v = S 579 (32 * p + 17)) ∨ (((0 ≤ p ∧ p < S 579 1) ∧ t = 2) ∧ v = S 579 (32 * p + 18)) ∨ (((0 ≤ p ∧ p < S 579 1) ∧ t = 3) ∧ v = S 579 (32 * p + 19)) ∨ (((0 ≤ p ∧ p < S 579 1) ∧ t = 4) ∧ v = mLn (S 579) p) ∨ (((0 ≤ p ∧ p < S 579 1) ∧ t = 5) ∧ v = mSt (S 579) p (S 579 0)) ∨ (((0 ≤ p ∧ p < S 579 1) ∧ t = 6) ∧ v = mSrc (S 579) p) ∨ (((0 ≤ p ∧ p < S 579 1) ∧ t = 7) ∧ ((S 579 (32 * p + 18) = 0 ∧ v = mUrg (S 579) p) ∨ (¬ S 579 (32 * p + 18) = 0 ∧ v = -5))) ∨ (((0 ≤ p ∧ p < S 579 1) ∧ t = 8) ∧ ((S 579 (32 * p + 18) = 0 ∧ v = -5) ∨ (¬ S 579 (32 * p + 18) = 0 ∧ v = S 579 (32 * p + 20)))) ∨ (((0 ≤ p ∧ p < S 579 1) ∧ t = 9) ∧ v = S 579 (32 * p + 22)) ∨ (((0 ≤ p ∧ p < S 579 1) ∧ t = 10) ∧ ((v = 1 ∧ mRdy (S 579) p) ∨ (v = 0 ∧ ¬ mRdy (S 579) p))))) := by
  refine CtK_of (by decide) (Nat.le_of_ble_eq_true rfl) q973 ?_
  intro x hl hB hE _
  subst hl
  show YM x G b 0 0 C S 0 [(0, .ref (ad b (578))), (1, .int (iI (p))), (2, .int (iI (t)))] []
  obtain ⟨hm1, hm0, hm2, hm3, hm4, hm5, hm6, hm7, hm8, hmt, hmp, hmz⟩ := id hM
  refine y_aload_n hB 0 dX7_person_0 rfl rfl ?_
  refine y_iload_n hB 1 dX7_person_1 rfl rfl ?_
  refine m_V hB msX7_isPerson q853 (tX7_isPerson _ G b C S p (by omega) (by omega)) (t := 20) (by decide) (by decide) rfl rfl rfl rfl rfl ⟨Nat.le_of_ble_eq_true rfl, Nat.le_of_ble_eq_true rfl⟩ (Nat.le_of_ble_eq_true rfl) ⟨rfl, rfl⟩ ⟨Nat.le_of_ble_eq_true rfl, Nat.le_of_ble_eq_true rfl⟩ dX7_person_2 (k_RI (fun v_2 h_2 => ?_))
  refine y_if_ne hB 10 dX7_person_5 (by decide) (by omega) (fun c_5 => ?_) (fun c_5 => ?_)
  · obtain ⟨hp1, hp2, hp3, hp4, hp5, hp6, hp7, hpf⟩ := id (hmp p (by omega) (by omega))
    refine y_iload_n hB 2 dX7_person_10 rfl rfl ?_
    rcases (show t = 0 ∨ t = 1 ∨ t = 2 ∨ t = 3 ∨ t = 4 ∨ t = 5 ∨ t = 6 ∨ t = 7 ∨ t = 8 ∨ t = 9 ∨ t = 10 ∨ (t < 0 ∨ 10 < t) by omega) with hsw_11 | hsw_11 | hsw_11 | hsw_11 | hsw_11 | hsw_11 | hsw_11 | hsw_11 | hsw_11 | hsw_11 | hsw_11 | hsw_11
    · refine y_tableIn hB 68 dX7_person_11 (by omega) (by omega) (by rw [hsw_11]; rfl) (by decide) ?_
      refine y_aload_n hB 0 dX7_person_68 rfl rfl ?_
      refine y_iload_n hB 1 dX7_person_69 rfl rfl ?_
      refine y_iconst (v := 0) hB dX7_person_70 rfl ?_
      refine m_V hB msX7_of q842 (tX7_of _ G b C S p 0 (32 * p + 16) (S 579 (32 * p + 16)) (by omega) (by omega) rfl) (t := 20) (by decide) (by decide) rfl rfl rfl rfl rfl ⟨Nat.le_of_ble_eq_true rfl, Nat.le_of_ble_eq_true rfl⟩ (Nat.le_of_ble_eq_true rfl) ⟨rfl, rfl⟩ ⟨Nat.le_of_ble_eq_true rfl, Nat.le_of_ble_eq_true rfl⟩ dX7_person_71 (k_RI (fun v_71 h_71 => ?_))
      obtain rfl := h_71
      exact m_ri hB hE dX7_person_74 rfl (Or.inr (Or.inr (Or.inl (⟨by omega, rfl⟩))))
    · refine y_tableIn hB 75 dX7_person_11 (by omega) (by omega) (by rw [hsw_11]; rfl) (by decide) ?_
      refine y_aload_n hB 0 dX7_person_75 rfl rfl ?_
      refine y_iload_n hB 1 dX7_person_76 rfl rfl ?_
      refine y_iconst (v := 1) hB dX7_person_77 rfl ?_
      refine m_V hB msX7_of q842 (tX7_of _ G b C S p 1 (32 * p + 17) (S 579 (32 * p + 17)) (by omega) (by omega) rfl) (t := 20) (by decide) (by decide) rfl rfl rfl rfl rfl ⟨Nat.le_of_ble_eq_true rfl, Nat.le_of_ble_eq_true rfl⟩ (Nat.le_of_ble_eq_true rfl) ⟨rfl, rfl⟩ ⟨Nat.le_of_ble_eq_true rfl, Nat.le_of_ble_eq_true rfl⟩ dX7_person_78 (k_RI (fun v_78 h_78 => ?_))
      obtain rfl := h_78
      exact m_ri hB hE dX7_person_81 rfl (Or.inr (Or.inr (Or.inr (Or.inl (⟨by omega, rfl⟩)))))
    · refine y_tableIn hB 82 dX7_person_11 (by omega) (by omega) (by rw [hsw_11]; rfl) (by decide) ?_
      refine y_aload_n hB 0 dX7_person_82 rfl rfl ?_
      refine y_iload_n hB 1 dX7_person_83 rfl rfl ?_
      refine y_iconst (v := 2) hB dX7_person_84 rfl ?_
      refine m_V hB msX7_of q842 (tX7_of _ G b C S p 2 (32 * p + 18) (S 579 (32 * p + 18)) (by omega) (by omega) rfl) (t := 20) (by decide) (by decide) rfl rfl rfl rfl rfl ⟨Nat.le_of_ble_eq_true rfl, Nat.le_of_ble_eq_true rfl⟩ (Nat.le_of_ble_eq_true rfl) ⟨rfl, rfl⟩ ⟨Nat.le_of_ble_eq_true rfl, Nat.le_of_ble_eq_true rfl⟩ dX7_person_85 (k_RI (fun v_85 h_85 => ?_))
      obtain rfl := h_85
      exact m_ri hB hE dX7_person_88 rfl (Or.inr (Or.inr (Or.inr (Or.inr (Or.inl (⟨by omega, rfl⟩))))))
    · refine y_tableIn hB 89 dX7_person_11 (by omega) (by omega) (by rw [hsw_11]; rfl) (by decide) ?_
      refine y_aload_n hB 0 dX7_person_89 rfl rfl ?_
      refine y_iload_n hB 1 dX7_person_90 rfl rfl ?_
      refine y_iconst (v := 3) hB dX7_person_91 rfl ?_
      refine m_V hB msX7_of q842 (tX7_of _ G b C S p 3 (32 * p + 19) (S 579 (32 * p + 19)) (by omega) (by omega) rfl) (t := 20) (by decide) (by decide) rfl rfl rfl rfl rfl ⟨Nat.le_of_ble_eq_true rfl, Nat.le_of_ble_eq_true rfl⟩ (Nat.le_of_ble_eq_true rfl) ⟨rfl, rfl⟩ ⟨Nat.le_of_ble_eq_true rfl, Nat.le_of_ble_eq_true rfl⟩ dX7_person_92 (k_RI (fun v_92 h_92 => ?_))
      obtain rfl := h_92
      exact m_ri hB hE dX7_person_95 rfl (Or.inr (Or.inr (Or.inr (Or.inr (Or.inr (Or.inl (⟨by omega, rfl⟩)))))))
    · refine y_tableIn hB 96 dX7_person_11 (by omega) (by omega) (by rw [hsw_11]; rfl) (by decide) ?_
      refine y_aload_n hB 0 dX7_person_96 rfl rfl ?_
      refine y_iload_n hB 1 dX7_person_97 rfl rfl ?_
      refine m_V hB msX7_lines q942 (tX7_lines _ G b C S p N hM hN (by omega)) (t := 20) (by decide) (by decide) rfl rfl rfl rfl rfl ⟨Nat.le_of_ble_eq_true rfl, Nat.le_of_ble_eq_true rfl⟩ (Nat.le_of_ble_eq_true rfl) ⟨rfl, rfl⟩ ⟨Nat.le_of_ble_eq_true rfl, Nat.le_of_ble_eq_true rfl⟩ dX7_person_98 (k_RI (fun v_98 h_98 => ?_))
      exact m_ri hB hE dX7_person_101 rfl (Or.inr (Or.inr (Or.inr (Or.inr (Or.inr (Or.inr (Or.inl (⟨by omega, h_98⟩))))))))
    · refine y_tableIn hB 102 dX7_person_11 (by omega) (by omega) (by rw [hsw_11]; rfl) (by decide) ?_
      refine y_aload_n hB 0 dX7_person_102 rfl rfl ?_
      refine y_iload_n hB 1 dX7_person_103 rfl rfl ?_
      refine y_aload_n hB 0 dX7_person_104 rfl rfl ?_
      refine gt_7_0 hB (by decide) (t1 := 579) (by omega) dX7_person_105 ?_
      refine y_iconst (v := 0) hB dX7_person_108 rfl ?_
      refine ald_21 hB (by decide) (t1 := S 579 0) (by omega) rfl dX7_person_109 ?_
      refine m_V hB msX7_stale q895 (tX7_stale _ G b C S p (S 579 0) N hM hN (by omega) (by omega)) (t := 20) (by decide) (by decide) rfl rfl rfl rfl rfl ⟨Nat.le_of_ble_eq_true rfl, Nat.le_of_ble_eq_true rfl⟩ (Nat.le_of_ble_eq_true rfl) ⟨rfl, rfl⟩ ⟨Nat.le_of_ble_eq_true rfl, Nat.le_of_ble_eq_true rfl⟩ dX7_person_110 (k_RI (fun v_110 h_110 => ?_))
      exact m_ri hB hE dX7_person_113 rfl (Or.inr (Or.inr (Or.inr (Or.inr (Or.inr (Or.inr (Or.inr (Or.inl (⟨by omega, h_110⟩)))))))))
    · refine y_tableIn hB 114 dX7_person_11 (by omega) (by omega) (by rw [hsw_11]; rfl) (by decide) ?_
      refine y_aload_n hB 0 dX7_person_114 rfl rfl ?_
      refine y_iload_n hB 1 dX7_person_115 rfl rfl ?_
      refine m_V hB msX7_sources q934 (tX7_sources _ G b C S p N hM hN (by omega)) (t := 20) (by decide) (by decide) rfl rfl rfl rfl rfl ⟨Nat.le_of_ble_eq_true rfl, Nat.le_of_ble_eq_true rfl⟩ (Nat.le_of_ble_eq_true rfl) ⟨rfl, rfl⟩ ⟨Nat.le_of_ble_eq_true rfl, Nat.le_of_ble_eq_true rfl⟩ dX7_person_116 (k_RI (fun v_116 h_116 => ?_))
      exact m_ri hB hE dX7_person_119 rfl (Or.inr (Or.inr (Or.inr (Or.inr (Or.inr (Or.inr (Or.inr (Or.inr (Or.inl (⟨by omega, h_116⟩))))))))))
    · refine y_tableIn hB 120 dX7_person_11 (by omega) (by omega) (by rw [hsw_11]; rfl) (by decide) ?_
      refine y_aload_n hB 0 dX7_person_120 rfl rfl ?_
      refine y_iload_n hB 1 dX7_person_121 rfl rfl ?_
      refine y_iconst (v := 2) hB dX7_person_122 rfl ?_
      refine m_V hB msX7_of q842 (tX7_of _ G b C S p 2 (32 * p + 18) (S 579 (32 * p + 18)) (by omega) (by omega) rfl) (t := 20) (by decide) (by decide) rfl rfl rfl rfl rfl ⟨Nat.le_of_ble_eq_true rfl, Nat.le_of_ble_eq_true rfl⟩ (Nat.le_of_ble_eq_true rfl) ⟨rfl, rfl⟩ ⟨Nat.le_of_ble_eq_true rfl, Nat.le_of_ble_eq_true rfl⟩ dX7_person_123 (k_RI (fun v_123 h_123 => ?_))
      obtain rfl := h_123
      refine y_if_ne hB 137 dX7_person_126 (by decide) (by omega) (fun c_126 => ?_) (fun c_126 => ?_)
      · refine y_bipush (v := -5) hB dX7_person_137 (by decide) ?_
        exact m_ri hB hE dX7_person_139 rfl (Or.inr (Or.inr (Or.inr (Or.inr (Or.inr (Or.inr (Or.inr (Or.inr (Or.inr (Or.inl (⟨by omega, Or.inr ⟨by omega, rfl⟩⟩)))))))))))
      · refine y_aload_n hB 0 dX7_person_129 rfl rfl ?_
        refine y_iload_n hB 1 dX7_person_130 rfl rfl ?_
        refine m_V hB msX7_urgency q891 (tX7_urgency _ G b C S p N hM hN (by omega)) (t := 20) (by decide) (by decide) rfl rfl rfl rfl rfl ⟨Nat.le_of_ble_eq_true rfl, Nat.le_of_ble_eq_true rfl⟩ (Nat.le_of_ble_eq_true rfl) ⟨rfl, rfl⟩ ⟨Nat.le_of_ble_eq_true rfl, Nat.le_of_ble_eq_true rfl⟩ dX7_person_131 (k_RI (fun v_131 h_131 => ?_))
        refine y_goto hB 139 dX7_person_134 (by decide) ?_
        exact m_ri hB hE dX7_person_139 rfl (Or.inr (Or.inr (Or.inr (Or.inr (Or.inr (Or.inr (Or.inr (Or.inr (Or.inr (Or.inl (⟨by omega, Or.inl ⟨by omega, h_131⟩⟩)))))))))))
    · refine y_tableIn hB 140 dX7_person_11 (by omega) (by omega) (by rw [hsw_11]; rfl) (by decide) ?_
      refine y_aload_n hB 0 dX7_person_140 rfl rfl ?_
      refine y_iload_n hB 1 dX7_person_141 rfl rfl ?_
      refine y_iconst (v := 2) hB dX7_person_142 rfl ?_
      refine m_V hB msX7_of q842 (tX7_of _ G b C S p 2 (32 * p + 18) (S 579 (32 * p + 18)) (by omega) (by omega) rfl) (t := 20) (by decide) (by decide) rfl rfl rfl rfl rfl ⟨Nat.le_of_ble_eq_true rfl, Nat.le_of_ble_eq_true rfl⟩ (Nat.le_of_ble_eq_true rfl) ⟨rfl, rfl⟩ ⟨Nat.le_of_ble_eq_true rfl, Nat.le_of_ble_eq_true rfl⟩ dX7_person_143 (k_RI (fun v_143 h_143 => ?_))
      obtain rfl := h_143
      refine y_if_ne hB 154 dX7_person_146 (by decide) (by omega) (fun c_146 => ?_) (fun c_146 => ?_)
      · refine y_aload_n hB 0 dX7_person_154 rfl rfl ?_
        refine y_iload_n hB 1 dX7_person_155 rfl rfl ?_
        refine y_iconst (v := 4) hB dX7_person_156 rfl ?_
        refine m_V hB msX7_of q842 (tX7_of _ G b C S p 4 (32 * p + 20) (S 579 (32 * p + 20)) (by omega) (by omega) rfl) (t := 20) (by decide) (by decide) rfl rfl rfl rfl rfl ⟨Nat.le_of_ble_eq_true rfl, Nat.le_of_ble_eq_true rfl⟩ (Nat.le_of_ble_eq_true rfl) ⟨rfl, rfl⟩ ⟨Nat.le_of_ble_eq_true rfl, Nat.le_of_ble_eq_true rfl⟩ dX7_person_157 (k_RI (fun v_157 h_157 => ?_))
        obtain rfl := h_157
        exact m_ri hB hE dX7_person_160 rfl (Or.inr (Or.inr (Or.inr (Or.inr (Or.inr (Or.inr (Or.inr (Or.inr (Or.inr (Or.inr (Or.inl (⟨by omega, Or.inr ⟨by omega, rfl⟩⟩))))))))))))
      · refine y_bipush (v := -5) hB dX7_person_149 (by decide) ?_
        refine y_goto hB 160 dX7_person_151 (by decide) ?_
        exact m_ri hB hE dX7_person_160 rfl (Or.inr (Or.inr (Or.inr (Or.inr (Or.inr (Or.inr (Or.inr (Or.inr (Or.inr (Or.inr (Or.inl (⟨by omega, Or.inl ⟨by omega, rfl⟩⟩))))))))))))
    · refine y_tableIn hB 161 dX7_person_11 (by omega) (by omega) (by rw [hsw_11]; rfl) (by decide) ?_
      refine y_aload_n hB 0 dX7_person_161 rfl rfl ?_
      refine y_iload_n hB 1 dX7_person_162 rfl rfl ?_
      refine y_bipush (v := 6) hB dX7_person_163 (by decide) ?_
      refine m_V hB msX7_of q842 (tX7_of _ G b C S p 6 (32 * p + 22) (S 579 (32 * p + 22)) (by omega) (by omega) rfl) (t := 20) (by decide) (by decide) rfl rfl rfl rfl rfl ⟨Nat.le_of_ble_eq_true rfl, Nat.le_of_ble_eq_true rfl⟩ (Nat.le_of_ble_eq_true rfl) ⟨rfl, rfl⟩ ⟨Nat.le_of_ble_eq_true rfl, Nat.le_of_ble_eq_true rfl⟩ dX7_person_165 (k_RI (fun v_165 h_165 => ?_))
      obtain rfl := h_165
      exact m_ri hB hE dX7_person_168 rfl (Or.inr (Or.inr (Or.inr (Or.inr (Or.inr (Or.inr (Or.inr (Or.inr (Or.inr (Or.inr (Or.inr (Or.inl (⟨by omega, rfl⟩)))))))))))))
    · refine y_tableIn hB 169 dX7_person_11 (by omega) (by omega) (by rw [hsw_11]; rfl) (by decide) ?_
      refine y_aload_n hB 0 dX7_person_169 rfl rfl ?_
      refine y_iload_n hB 1 dX7_person_170 rfl rfl ?_
      refine m_V hB msX7_isReady q930 (tX7_isReady _ G b C S p N hM hN (by omega)) (t := 20) (by decide) (by decide) rfl rfl rfl rfl rfl ⟨Nat.le_of_ble_eq_true rfl, Nat.le_of_ble_eq_true rfl⟩ (Nat.le_of_ble_eq_true rfl) ⟨rfl, rfl⟩ ⟨Nat.le_of_ble_eq_true rfl, Nat.le_of_ble_eq_true rfl⟩ dX7_person_171 (k_RI (fun v_171 h_171 => ?_))
      refine y_if_eq hB 181 dX7_person_174 (by decide) (by omega) (fun c_174 => ?_) (fun c_174 => ?_)
      · refine y_iconst (v := 0) hB dX7_person_181 rfl ?_
        exact m_ri hB hE dX7_person_182 rfl (Or.inr (Or.inr (Or.inr (Or.inr (Or.inr (Or.inr (Or.inr (Or.inr (Or.inr (Or.inr (Or.inr (Or.inr (⟨by omega, Or.inr ⟨rfl, (h_171.resolve_left (fun z => by have h9 := z.1; omega)).2⟩⟩)))))))))))))
      · refine y_iconst (v := 1) hB dX7_person_177 rfl ?_
        refine y_goto hB 182 dX7_person_178 (by decide) ?_
        exact m_ri hB hE dX7_person_182 rfl (Or.inr (Or.inr (Or.inr (Or.inr (Or.inr (Or.inr (Or.inr (Or.inr (Or.inr (Or.inr (Or.inr (Or.inr (⟨by omega, Or.inl ⟨rfl, (h_171.resolve_right (fun z => by have h9 := z.1; omega)).2⟩⟩)))))))))))))
    · refine y_tableOut hB 183 dX7_person_11 (by omega) hsw_11 (by decide) ?_
      refine y_bipush (v := -2) hB dX7_person_183 (by decide) ?_
      exact m_ri hB hE dX7_person_185 rfl (Or.inr (Or.inl (⟨by omega, rfl⟩)))
  · refine y_iconst (v := -1) hB dX7_person_8 rfl ?_
    exact m_ri hB hE dX7_person_9 rfl (Or.inl (⟨by omega, rfl⟩))
