/-! the other class: its one row of numbers, and what is reckoned from it -/
def PO (f : Int → Int) (i T : Int) : Prop := (0 ≤ f (32 * i + 16) ∧ f (32 * i + 16) ≤ 110) ∧ (0 ≤ f (32 * i + 17) ∧ f (32 * i + 17) ≤ 9) ∧ (0 ≤ f (32 * i + 18) ∧ f (32 * i + 18) ≤ 3) ∧ (0 ≤ f (32 * i + 19) ∧ f (32 * i + 19) ≤ 8) ∧ (0 ≤ f (32 * i + 20) ∧ f (32 * i + 20) ≤ T) ∧ (0 ≤ f (32 * i + 21) ∧ f (32 * i + 21) ≤ 5) ∧ (-5 ≤ f (32 * i + 22) ∧ f (32 * i + 22) ≤ T) ∧ ∀ j : Int, 0 ≤ j → j < f (32 * i + 19) → (0 ≤ f (32 * i + 3 * j + 24) ∧ f (32 * i + 3 * j + 24) ≤ 5) ∧ (1 ≤ f (32 * i + 3 * j + 25) ∧ f (32 * i + 3 * j + 25) ≤ 9) ∧ (0 ≤ f (32 * i + 3 * j + 26) ∧ f (32 * i + 3 * j + 26) ≤ T)
def MO (f : Int → Int) (N : Int) : Prop := (0 ≤ f 1 ∧ f 1 ≤ 20) ∧ (0 ≤ f 0 ∧ f 0 ≤ N) ∧ (0 ≤ f 2 ∧ f 2 ≤ 24) ∧ (0 ≤ f 3 ∧ f 3 ≤ N) ∧ (1 ≤ f 4 ∧ f 4 ≤ 24) ∧ (10 ≤ f 5 ∧ f 5 ≤ 200) ∧ (0 ≤ f 6 ∧ f 6 ≤ 100) ∧ (1 ≤ f 7 ∧ f 7 ≤ 3) ∧ (1 ≤ f 8 ∧ f 8 ≤ 9) ∧ (∀ s : Int, 0 ≤ s ∧ s ≤ 5 → 0 ≤ f (s + 9) ∧ f (s + 9) ≤ 100) ∧ (∀ i : Int, 0 ≤ i → i < 20 → PO f i (f 0)) ∧ ∀ i : Int, f 1 ≤ i → i < 20 → f (32 * i + 18) = 0 ∧ f (32 * i + 19) = 0
def mFst (f : Int → Int) (i d j : Int) : Int := stI (WF (f (f (32 * i + 3 * j + 24) + 9)) (d - f (32 * i + 3 * j + 26))) (wf (f 6) 0)
def mSt (f : Int → Int) (i d : Int) : Int := smI (mFst f i d) (f (32 * i + 19))
def mUrg (f : Int → Int) (i : Int) : Int := f (32 * i + 16) + 10 * f (32 * i + 17) + 5 * mSt f i (f 0) + (if f (32 * i + 19) = 0 then 40 else 0)
def mLn (f : Int → Int) (i : Int) : Int := smI (fun j => f (32 * i + 3 * j + 25)) (f (32 * i + 19))
def mSrc (f : Int → Int) (i : Int) : Int := pcI (mkI (fun j => f (32 * i + 3 * j + 24)) (f (32 * i + 19)))
def mRdy (f : Int → Int) (i : Int) : Prop := f 7 ≤ mSrc f i ∧ mSt f i (f 0) = 0
theorem mFst_b (f : Int → Int) (i d j : Int) : 0 ≤ mFst f i d j ∧ mFst f i d j ≤ 1 := stI_b _ _
theorem mSt_b {f : Int → Int} {i d : Int} (h : 0 ≤ f (32 * i + 19) ∧ f (32 * i + 19) ≤ 8) : 0 ≤ mSt f i d ∧ mSt f i d ≤ 8 := by
  have := smI_le (f := mFst f i d) (n := f (32 * i + 19)) (a := 0) (c := 1) h.1 (fun j _ _ => mFst_b f i d j)
  unfold mSt
  omega
theorem mLn_b {f : Int → Int} {i T : Int} (h : PO f i T) : 0 ≤ mLn f i ∧ mLn f i ≤ 72 := by
  obtain ⟨-, -, -, h4, -, -, -, hf⟩ := h
  have := smI_le (f := fun j => f (32 * i + 3 * j + 25)) (n := f (32 * i + 19)) (a := 0) (c := 9) h4.1 (fun j a1 a2 => by have := (hf j a1 a2).2.1; omega)
  unfold mLn
  omega
theorem mSrc_b {f : Int → Int} {i T : Int} (h : PO f i T) : 0 ≤ mSrc f i ∧ mSrc f i ≤ 6 := pcI_b (mkI_lt (f := fun j => f (32 * i + 3 * j + 24)) (n := f (32 * i + 19)) (fun j a1 a2 => (h.2.2.2.2.2.2.2 j a1 a2).1))
set_option maxHeartbeats 4000000 in
theorem tX7_in (l : Launch) (G : gG) (b : Nat) (C S : gM) (u t z : Int) (hu : -2147483648 ≤ u ∧ u ≤ 2147483647) (ht : -2147483648 ≤ t ∧ t ≤ 2147483647) (hz : -2147483648 ≤ z ∧ z ≤ 2147483647) : Ct l G b yX7_in cX7_in 3 (some .boolean) rmX7_in [.int (iI (u)), .int (iI (t)), .int (iI (z))] 586 (wM G b C S) (RI G b C S (fun v => (v = 1 ∧ t ≤ u ∧ u ≤ z) ∨ (v = 0 ∧ ¬ (t ≤ u ∧ u ≤ z)))) := by
  refine CtK_of (by decide) (Nat.le_of_ble_eq_true rfl) q794 ?_
  intro x hl hB hE _
  subst hl
  show YM x G b 0 0 C S 0 [(0, .int (iI (u))), (1, .int (iI (t))), (2, .int (iI (z)))] []
  refine y_iload_n hB 0 dX7_in_0 rfl rfl ?_
  refine y_iload_n hB 1 dX7_in_1 rfl rfl ?_
  refine y_icmp_lt hB 14 dX7_in_2 (by decide) (by omega) (by omega) (fun c_2 => ?_) (fun c_2 => ?_)
  · refine y_iconst (v := 0) hB dX7_in_14 rfl ?_
    exact m_ri hB hE dX7_in_15 rfl (by omega)
  · refine y_iload_n hB 0 dX7_in_5 rfl rfl ?_
    refine y_iload_n hB 2 dX7_in_6 rfl rfl ?_
    refine y_icmp_gt hB 14 dX7_in_7 (by decide) (by omega) (by omega) (fun c_7 => ?_) (fun c_7 => ?_)
    · refine y_iconst (v := 0) hB dX7_in_14 rfl ?_
      exact m_ri hB hE dX7_in_15 rfl (by omega)
    · refine y_iconst (v := 1) hB dX7_in_10 rfl ?_
      refine y_goto hB 15 dX7_in_11 (by decide) ?_
      exact m_ri hB hE dX7_in_15 rfl (by omega)
set_option maxHeartbeats 4000000 in
theorem tX7_p (l : Launch) (G : gG) (b : Nat) (C S : gM) (u w : Int) (hw : 32 * u + 16 = w) : Ct l G b yX7_p cX7_p 1 (some .int) rmX7_p [.int (iI (u))] 586 (wM G b C S) (RI G b C S (fun v => v = w)) := by
  refine CtK_of (by decide) (Nat.le_of_ble_eq_true rfl) q805 ?_
  intro x hl hB hE _
  subst hl
  show YM x G b 0 0 C S 0 [(0, .int (iI (u)))] []
  refine y_bipush (v := 16) hB dX7_p_0 (by decide) ?_
  refine y_bipush (v := 32) hB dX7_p_2 (by decide) ?_
  refine y_iload_n hB 0 dX7_p_4 rfl rfl ?_
  refine y_imul (t := 32 * u) hB dX7_p_5 (by omega) ?_
  refine y_iadd (t := 32 * u + 16) hB dX7_p_6 (by omega) ?_
  exact m_ri hB hE dX7_p_7 rfl (by omega)
set_option maxHeartbeats 4000000 in
theorem tX7_f (l : Launch) (G : gG) (b : Nat) (C S : gM) (u t w : Int) (hw : 32 * u + 3 * t + 24 = w) : Ct l G b yX7_f cX7_f 2 (some .int) rmX7_f [.int (iI (u)), .int (iI (t))] 586 (wM G b C S) (RI G b C S (fun v => v = w)) := by
  refine CtK_of (by decide) (Nat.le_of_ble_eq_true rfl) q848 ?_
  intro x hl hB hE _
  subst hl
  show YM x G b 0 0 C S 0 [(0, .int (iI (u))), (1, .int (iI (t)))] []
  refine y_bipush (v := 16) hB dX7_f_0 (by decide) ?_
  refine y_bipush (v := 32) hB dX7_f_2 (by decide) ?_
  refine y_iload_n hB 0 dX7_f_4 rfl rfl ?_
  refine y_imul (t := 32 * u) hB dX7_f_5 (by omega) ?_
  refine y_iadd (t := 32 * u + 16) hB dX7_f_6 (by omega) ?_
  refine y_bipush (v := 8) hB dX7_f_7 (by decide) ?_
  refine y_iadd (t := 32 * u + 24) hB dX7_f_9 (by omega) ?_
  refine y_iconst (v := 3) hB dX7_f_10 rfl ?_
  refine y_iload_n hB 1 dX7_f_11 rfl rfl ?_
  refine y_imul (t := 3 * t) hB dX7_f_12 (by omega) ?_
  refine y_iadd (t := 3 * t + 32 * u + 24) hB dX7_f_13 (by omega) ?_
  exact m_ri hB hE dX7_f_14 rfl (by omega)
set_option maxHeartbeats 4000000 in
theorem tX7_of (l : Launch) (G : gG) (b : Nat) (C S : gM) (u t w x0 : Int) (hr : 0 ≤ w ∧ w < 656) (hw : 32 * u + 16 + t = w) (hx : S 579 w = x0) : Ct l G b yX7_of cX7_of 3 (some .int) rmX7_of [.ref (ad b (578)), .int (iI (u)), .int (iI (t))] 586 (wM G b C S) (RI G b C S (fun v => v = x0)) := by
  refine CtK_of (by decide) (Nat.le_of_ble_eq_true rfl) q845 ?_
  intro x hl hB hE _
  subst hl
  show YM x G b 0 0 C S 0 [(0, .ref (ad b (578))), (1, .int (iI (u))), (2, .int (iI (t)))] []
  refine y_aload_n hB 0 dX7_of_0 rfl rfl ?_
  refine gt_7_0 hB (by decide) (t1 := 579) (by omega) dX7_of_1 ?_
  refine y_iload_n hB 1 dX7_of_4 rfl rfl ?_
  refine m_S hB msX7_p q803 (tX7_p _ G b C S u (32 * u + 16) (by omega)) rfl rfl ⟨Nat.le_of_ble_eq_true rfl, Nat.le_of_ble_eq_true rfl⟩ (Nat.le_of_ble_eq_true rfl) ⟨rfl, rfl⟩ ⟨Nat.le_of_ble_eq_true rfl, Nat.le_of_ble_eq_true rfl⟩ dX7_of_5 (k_RI (fun v_5 h_5 => ?_))
  obtain rfl := h_5
  refine y_iload_n hB 2 dX7_of_8 rfl rfl ?_
  refine y_iadd (t := t + 32 * u + 16) hB dX7_of_9 (by omega) ?_
  rw [show t + 32 * u + 16 = w by omega]
  refine ald_21 hB (by decide) (t1 := S 579 w) (by omega) rfl dX7_of_10 ?_
  exact m_ri hB hE dX7_of_11 rfl (hx)
set_option maxHeartbeats 4000000 in
theorem tX7_isPerson (l : Launch) (G : gG) (b : Nat) (C S : gM) (u : Int) (hu : -2147483648 ≤ u ∧ u ≤ 2147483647) (hm1 : 0 ≤ S 579 1 ∧ S 579 1 ≤ 20) : Ct l G b yX7_isPerson cX7_isPerson 2 (some .boolean) rmX7_isPerson [.ref (ad b (578)), .int (iI (u))] 586 (wM G b C S) (RI G b C S (fun v => (v = 1 ∧ 0 ≤ u ∧ u < S 579 1) ∨ (v = 0 ∧ ¬ (0 ≤ u ∧ u < S 579 1)))) := by
  refine CtK_of (by decide) (Nat.le_of_ble_eq_true rfl) q856 ?_
  intro x hl hB hE _
  subst hl
  show YM x G b 0 0 C S 0 [(0, .ref (ad b (578))), (1, .int (iI (u)))] []
  refine y_iload_n hB 1 dX7_isPerson_0 rfl rfl ?_
  refine y_iconst (v := 0) hB dX7_isPerson_1 rfl ?_
  refine y_aload_n hB 0 dX7_isPerson_2 rfl rfl ?_
  refine gt_7_0 hB (by decide) (t1 := 579) (by omega) dX7_isPerson_3 ?_
  refine y_iconst (v := 1) hB dX7_isPerson_6 rfl ?_
  refine ald_21 hB (by decide) (t1 := S 579 1) (by omega) rfl dX7_isPerson_7 ?_
  refine y_iconst (v := 1) hB dX7_isPerson_8 rfl ?_
  refine y_isub (t := S 579 1 - 1) hB dX7_isPerson_9 (by omega) ?_
  refine m_S hB msX7_in q792 (tX7_in _ G b C S u 0 (S 579 1 - 1) (by omega) (by omega) (by omega)) rfl rfl ⟨Nat.le_of_ble_eq_true rfl, Nat.le_of_ble_eq_true rfl⟩ (Nat.le_of_ble_eq_true rfl) ⟨rfl, rfl⟩ ⟨Nat.le_of_ble_eq_true rfl, Nat.le_of_ble_eq_true rfl⟩ dX7_isPerson_10 (k_RI (fun v_10 h_10 => ?_))
  exact m_ri hB hE dX7_isPerson_13 (by rcases h_10 with g | g <;> rw [g.1] <;> rfl) (by omega)
set_option maxHeartbeats 4000000 in
theorem tX7_isFact (l : Launch) (G : gG) (b : Nat) (C S : gM) (p q N : Int) (hp : -2147483648 ≤ p ∧ p ≤ 2147483647) (hq : -2147483648 ≤ q ∧ q ≤ 2147483647) (hM : MO (S 579) N) (hN : N ≤ 512) : Ct l G b yX7_isFact cX7_isFact 3 (some .boolean) rmX7_isFact [.ref (ad b (578)), .int (iI (p)), .int (iI (q))] 586 (wM G b C S) (RI G b C S (fun v => (v = 1 ∧ 0 ≤ p ∧ p < S 579 1 ∧ 0 ≤ q ∧ q < S 579 (32 * p + 19)) ∨ (v = 0 ∧ ¬ (0 ≤ p ∧ p < S 579 1 ∧ 0 ≤ q ∧ q < S 579 (32 * p + 19))))) := by
  refine CtK_of (by decide) (Nat.le_of_ble_eq_true rfl) q864 ?_
  intro x hl hB hE _
  subst hl
  show YM x G b 0 0 C S 0 [(0, .ref (ad b (578))), (1, .int (iI (p))), (2, .int (iI (q)))] []
  obtain ⟨hm1, hm0, hm2, hm3, hm4, hm5, hm6, hm7, hm8, hmt, hmp, hmz⟩ := id hM
  refine y_aload_n hB 0 dX7_isFact_0 rfl rfl ?_
  refine y_iload_n hB 1 dX7_isFact_1 rfl rfl ?_
  refine m_V hB msX7_isPerson q853 (tX7_isPerson _ G b C S p (by omega) (by omega)) (t := 20) (by decide) (by decide) rfl rfl rfl rfl rfl ⟨Nat.le_of_ble_eq_true rfl, Nat.le_of_ble_eq_true rfl⟩ (Nat.le_of_ble_eq_true rfl) ⟨rfl, rfl⟩ ⟨Nat.le_of_ble_eq_true rfl, Nat.le_of_ble_eq_true rfl⟩ dX7_isFact_2 (k_RI (fun v_2 h_2 => ?_))
  refine y_if_eq hB 28 dX7_isFact_5 (by decide) (by omega) (fun c_5 => ?_) (fun c_5 => ?_)
  · refine y_iconst (v := 0) hB dX7_isFact_28 rfl ?_
    exact m_ri hB hE dX7_isFact_29 rfl (by omega)
  · obtain ⟨hp1, hp2, hp3, hp4, hp5, hp6, hp7, hpf⟩ := id (hmp p (by omega) (by omega))
    refine y_iload_n hB 2 dX7_isFact_8 rfl rfl ?_
    refine y_iconst (v := 0) hB dX7_isFact_9 rfl ?_
    refine y_aload_n hB 0 dX7_isFact_10 rfl rfl ?_
    refine y_iload_n hB 1 dX7_isFact_11 rfl rfl ?_
    refine y_iconst (v := 3) hB dX7_isFact_12 rfl ?_
    refine m_V hB msX7_of q842 (tX7_of _ G b C S p 3 (32 * p + 19) (S 579 (32 * p + 19)) (by omega) (by omega) rfl) (t := 20) (by decide) (by decide) rfl rfl rfl rfl rfl ⟨Nat.le_of_ble_eq_true rfl, Nat.le_of_ble_eq_true rfl⟩ (Nat.le_of_ble_eq_true rfl) ⟨rfl, rfl⟩ ⟨Nat.le_of_ble_eq_true rfl, Nat.le_of_ble_eq_true rfl⟩ dX7_isFact_13 (k_RI (fun v_13 h_13 => ?_))
    obtain rfl := h_13
    refine y_iconst (v := 1) hB dX7_isFact_16 rfl ?_
    refine y_isub (t := (S 579 (32 * p + 19)) - 1) hB dX7_isFact_17 (by omega) ?_
    refine m_S hB msX7_in q792 (tX7_in _ G b C S q 0 ((S 579 (32 * p + 19)) - 1) (by omega) (by omega) (by omega)) rfl rfl ⟨Nat.le_of_ble_eq_true rfl, Nat.le_of_ble_eq_true rfl⟩ (Nat.le_of_ble_eq_true rfl) ⟨rfl, rfl⟩ ⟨Nat.le_of_ble_eq_true rfl, Nat.le_of_ble_eq_true rfl⟩ dX7_isFact_18 (k_RI (fun v_18 h_18 => ?_))
    refine y_if_eq hB 28 dX7_isFact_21 (by decide) (by omega) (fun c_21 => ?_) (fun c_21 => ?_)
    · refine y_iconst (v := 0) hB dX7_isFact_28 rfl ?_
      exact m_ri hB hE dX7_isFact_29 rfl (by omega)
    · refine y_iconst (v := 1) hB dX7_isFact_24 rfl ?_
      refine y_goto hB 29 dX7_isFact_25 (by decide) ?_
      exact m_ri hB hE dX7_isFact_29 rfl (by omega)
set_option maxHeartbeats 4000000 in
theorem tX7_worthOn (l : Launch) (G : gG) (b : Nat) (C S : gM) (p q d N : Int) (hM : MO (S 579) N) (hN : N ≤ 512) (hp : 0 ≤ p ∧ p < 20) (hq : 0 ≤ q ∧ q < S 579 (32 * p + 19)) (hd : S 579 0 ≤ d ∧ d ≤ 1520) : Ct l G b yX7_worthOn cX7_worthOn 7 (some .float) rmX7_worthOn [.ref (ad b (578)), .int (iI (p)), .int (iI (q)), .int (iI (d))] 586 (wM G b C S) (RF G b C S (fun v => v = WF (S 579 (S 579 (32 * p + 3 * q + 24) + 9)) (d - S 579 (32 * p + 3 * q + 26)))) := by
  refine CtK_of (by decide) (Nat.le_of_ble_eq_true rfl) q888 ?_
  intro x hl hB hE _
  subst hl
  show YM x G b 0 0 C S 0 [(0, .ref (ad b (578))), (1, .int (iI (p))), (2, .int (iI (q))), (3, .int (iI (d)))] []
  obtain ⟨hm1, hm0, hm2, hm3, hm4, hm5, hm6, hm7, hm8, hmt, hmp, hmz⟩ := id hM
  obtain ⟨hp1, hp2, hp3, hp4, hp5, hp6, hp7, hpf⟩ := id (hmp p (by omega) (by omega))
  obtain ⟨hf1, hf2, hf3⟩ := hpf q hq.1 hq.2
  have ht := hmt (S 579 (32 * p + 3 * q + 24)) hf1
  refine y_aload_n hB 0 dX7_worthOn_0 rfl rfl ?_
  refine gt_7_0 hB (by decide) (t1 := 579) (by omega) dX7_worthOn_1 ?_
  refine y_bipush (v := 9) hB dX7_worthOn_4 (by decide) ?_
  refine y_aload_n hB 0 dX7_worthOn_6 rfl rfl ?_
  refine gt_7_0 hB (by decide) (t1 := 579) (by omega) dX7_worthOn_7 ?_
  refine y_iload_n hB 1 dX7_worthOn_10 rfl rfl ?_
  refine y_iload_n hB 2 dX7_worthOn_11 rfl rfl ?_
  refine m_S hB msX7_f q846 (tX7_f _ G b C S p q (32 * p + 3 * q + 24) (by omega)) rfl rfl ⟨Nat.le_of_ble_eq_true rfl, Nat.le_of_ble_eq_true rfl⟩ (Nat.le_of_ble_eq_true rfl) ⟨rfl, rfl⟩ ⟨Nat.le_of_ble_eq_true rfl, Nat.le_of_ble_eq_true rfl⟩ dX7_worthOn_12 (k_RI (fun v_12 h_12 => ?_))
  obtain rfl := h_12
  refine ald_21 hB (by decide) (t1 := S 579 (32 * p + 3 * q + 24)) (by omega) rfl dX7_worthOn_15 ?_
  refine y_iadd (t := (S 579 (32 * p + 3 * q + 24)) + 9) hB dX7_worthOn_16 (by omega) ?_
  refine ald_21 hB (by decide) (t1 := S 579 ((S 579 (32 * p + 3 * q + 24)) + 9)) (by omega) rfl dX7_worthOn_17 ?_
  refine y_i2f hB dX7_worthOn_18 ?_
  refine y_ldcf hB q889 dX7_worthOn_19 ?_
  refine y_fdiv hB dX7_worthOn_21 (vf_pos (fin_pos (fin_wf (k := 0) (by omega) (by omega)))) ?_
  refine y_fstore (lv' := [(4, .float (FP.fdiv (FP.i2f (iI (S 579 ((S 579 (32 * p + 3 * q + 24)) + 9)))) 1120403456)), (0, .ref (ad b (578))), (1, .int (iI (p))), (2, .int (iI (q))), (3, .int (iI (d)))]) hB dX7_worthOn_22 (by decide) rfl ?_
  refine y_iload_n hB 4 dX7_worthOn_24 rfl rfl ?_
  refine y_aload_n hB 1 dX7_worthOn_25 rfl rfl ?_
  refine gt_7_0 hB (by decide) (t1 := 579) (by omega) dX7_worthOn_26 ?_
  refine y_iload_n hB 2 dX7_worthOn_29 rfl rfl ?_
  refine y_iload_n hB 3 dX7_worthOn_30 rfl rfl ?_
  refine m_S hB msX7_f q846 (tX7_f _ G b C S p q (32 * p + 3 * q + 24) (by omega)) rfl rfl ⟨Nat.le_of_ble_eq_true rfl, Nat.le_of_ble_eq_true rfl⟩ (Nat.le_of_ble_eq_true rfl) ⟨rfl, rfl⟩ ⟨Nat.le_of_ble_eq_true rfl, Nat.le_of_ble_eq_true rfl⟩ dX7_worthOn_31 (k_RI (fun v_31 h_31 => ?_))
  obtain rfl := h_31
  refine y_iconst (v := 2) hB dX7_worthOn_34 rfl ?_
  refine y_iadd (t := 32 * p + 3 * q + 26) hB dX7_worthOn_35 (by omega) ?_
  refine ald_21 hB (by decide) (t1 := S 579 (32 * p + 3 * q + 26)) (by omega) rfl dX7_worthOn_36 ?_
  refine y_isub (t := -((S 579 (32 * p + 3 * q + 26))) + d) hB dX7_worthOn_37 (by omega) ?_
  refine y_bipush (v := 10) hB dX7_worthOn_38 (by decide) ?_
  refine y_idiv hB dX7_worthOn_40 (by omega) (by omega) ?_
  refine y_istore (lv' := [(5, .int (iI ((-((S 579 (32 * p + 3 * q + 26))) + d) / 10))), (4, .float (FP.fdiv (FP.i2f (iI (S 579 ((S 579 (32 * p + 3 * q + 24)) + 9)))) 1120403456)), (0, .ref (ad b (578))), (1, .int (iI (p))), (2, .int (iI (q))), (3, .int (iI (d)))]) hB dX7_worthOn_41 (by decide) rfl ?_
  refine y_iconst (v := 0) hB dX7_worthOn_43 rfl ?_
  refine y_istore (lv' := [(6, .int (iI (0))), (5, .int (iI ((-((S 579 (32 * p + 3 * q + 26))) + d) / 10))), (4, .float (FP.fdiv (FP.i2f (iI (S 579 ((S 579 (32 * p + 3 * q + 24)) + 9)))) 1120403456)), (0, .ref (ad b (578))), (1, .int (iI (p))), (2, .int (iI (q))), (3, .int (iI (d)))]) hB dX7_worthOn_44 (by decide) rfl ?_
  have LOOP_46 : ∀ (fu : Nat) (i : Int) (w1 : UInt32), (0 ≤ i ∧ i ≤ (d - S 579 (32 * p + 3 * q + 26)) / 10) → (w1 = wf (S 579 (S 579 (32 * p + 3 * q + 24) + 9)) i.toNat) → (d - S 579 (32 * p + 3 * q + 26)) / 10 - i < (fu : Int) → YM x G b 0 0 C S 46 [(4, .float (w1)), (5, .int (iI ((-S 579 (32 * p + 3 * q + 26) + d) / 10))), (6, .int (iI (i)))] [] := by
    intro fu
    induction fu with
    | zero => intro i w1 hi hw hm_46; exfalso; omega
    | succ fu ih_46 =>
      intro i w1 hi hw hm_46
      refine y_iload hB 2 dX7_worthOn_46 rfl ?_
      refine y_iload hB 1 dX7_worthOn_48 rfl ?_
      refine y_icmp_ge hB 66 dX7_worthOn_50 (by decide) (by omega) (by omega) (fun c_50 => ?_) (fun c_50 => ?_)
      · refine y_fload hB 0 dX7_worthOn_66 rfl ?_
        exact m_rf hB hE dX7_worthOn_68 (by rw [hw, show i = (d - S 579 (32 * p + 3 * q + 26)) / 10 by omega]; rfl)
      · refine y_fload hB 0 dX7_worthOn_53 rfl ?_
        refine y_ldcf hB q890 dX7_worthOn_55 ?_
        refine y_fmul hB dX7_worthOn_57 (hw ▸ vf_pos (pos_fmul (fin_wf (by omega) (by omega)) fin_c09)) ?_
        refine y_fstore (lv' := [(4, .float (FP.fmul w1 1063675494)), (5, .int (iI ((-S 579 (32 * p + 3 * q + 26) + d) / 10))), (6, .int (iI (i)))]) hB dX7_worthOn_58 (by decide) rfl ?_
        refine y_iinc (v := i + 1) (lv' := [(6, .int (iI (i + 1))), (4, .float (FP.fmul w1 1063675494)), (5, .int (iI ((-S 579 (32 * p + 3 * q + 26) + d) / 10)))]) hB 2 dX7_worthOn_60 rfl (by omega) (by decide) rfl ?_
        refine y_goto hB 46 dX7_worthOn_63 (by decide) ?_
        refine y_sub (lv' := [(4, .float (FP.fmul w1 1063675494)), (5, .int (iI ((-S 579 (32 * p + 3 * q + 26) + d) / 10))), (6, .int (iI (i + 1)))]) [1, 2, 0] rfl ?_
        exact ih_46 (i + 1) _ (by omega) (by rw [show (i + 1).toNat = i.toNat + 1 by omega, hw]; rfl) (by omega)
  refine y_sub (lv' := [(4, .float (FP.fdiv (FP.i2f (iI (S 579 ((S 579 (32 * p + 3 * q + 24)) + 9)))) 1120403456)), (5, .int (iI ((-((S 579 (32 * p + 3 * q + 26))) + d) / 10))), (6, .int (iI (0)))]) [2, 1, 0] rfl ?_
  exact LOOP_46 (((d - S 579 (32 * p + 3 * q + 26)) / 10).toNat + 1) 0 _ (by omega) rfl (by omega)
set_option maxHeartbeats 4000000 in
theorem tX7_isStaleOn (l : Launch) (G : gG) (b : Nat) (C S : gM) (p q d N : Int) (hM : MO (S 579) N) (hN : N ≤ 512) (hp : 0 ≤ p ∧ p < 20) (hq : 0 ≤ q ∧ q < S 579 (32 * p + 19)) (hd : S 579 0 ≤ d ∧ d ≤ 1520) : Ct l G b yX7_isStaleOn cX7_isStaleOn 4 (some .boolean) rmX7_isStaleOn [.ref (ad b (578)), .int (iI (p)), .int (iI (q)), .int (iI (d))] 586 (wM G b C S) (RI G b C S (fun v => v = mFst (S 579) p d q)) := by
  refine CtK_of (by decide) (Nat.le_of_ble_eq_true rfl) q884 ?_
  intro x hl hB hE _
  subst hl
  show YM x G b 0 0 C S 0 [(0, .ref (ad b (578))), (1, .int (iI (p))), (2, .int (iI (q))), (3, .int (iI (d)))] []
  obtain ⟨hm1, hm0, hm2, hm3, hm4, hm5, hm6, hm7, hm8, hmt, hmp, hmz⟩ := id hM
  obtain ⟨hp1, hp2, hp3, hp4, hp5, hp6, hp7, hpf⟩ := id (hmp p (by omega) (by omega))
  obtain ⟨hf1, hf2, hf3⟩ := hpf q hq.1 hq.2
  have ht := hmt (S 579 (32 * p + 3 * q + 24)) hf1
  have hw0 : wf (S 579 6) 0 = FP.fdiv (FP.i2f (iI (S 579 6))) 1120403456 := rfl
  refine y_aload_n hB 0 dX7_isStaleOn_0 rfl rfl ?_
  refine y_iload_n hB 1 dX7_isStaleOn_1 rfl rfl ?_
  refine y_iload_n hB 2 dX7_isStaleOn_2 rfl rfl ?_
  refine y_iload_n hB 3 dX7_isStaleOn_3 rfl rfl ?_
  refine m_V hB msX7_worthOn q885 (tX7_worthOn _ G b C S p q d N hM hN (by omega) (by omega) (by omega)) (t := 20) (by decide) (by decide) rfl rfl rfl rfl rfl ⟨Nat.le_of_ble_eq_true rfl, Nat.le_of_ble_eq_true rfl⟩ (Nat.le_of_ble_eq_true rfl) ⟨rfl, rfl⟩ ⟨Nat.le_of_ble_eq_true rfl, Nat.le_of_ble_eq_true rfl⟩ dX7_isStaleOn_4 (k_RF (fun v_4 h_4 => ?_))
  refine y_aload_n hB 0 dX7_isStaleOn_7 rfl rfl ?_
  refine gt_7_0 hB (by decide) (t1 := 579) (by omega) dX7_isStaleOn_8 ?_
  refine y_bipush (v := 6) hB dX7_isStaleOn_11 (by decide) ?_
  refine ald_21 hB (by decide) (t1 := S 579 6) (by omega) rfl dX7_isStaleOn_13 ?_
  refine y_i2f hB dX7_isStaleOn_14 ?_
  refine y_ldcf hB q889 dX7_isStaleOn_15 ?_
  refine y_fdiv hB dX7_isStaleOn_17 (vf_pos (fin_pos (fin_wf (t := S 579 6) (k := 0) (by omega) (by omega)))) ?_
  refine y_fcmp hB dX7_isStaleOn_18 ?_
  refine y_if_ge hB 26 dX7_isStaleOn_19 (by decide) (by have h9 := cmpI_b (FP.fcmp v_4 (FP.fdiv (FP.i2f (iI (S 579 6))) 1120403456)) .g; omega) (fun c_19 => ?_) (fun c_19 => ?_)
  · have hz : mFst (S 579) p d q = 0 := by unfold mFst stI; rw [← h_4, hw0, if_neg (by omega)]
    refine y_iconst (v := 0) hB dX7_isStaleOn_26 rfl ?_
    exact m_ri hB hE dX7_isStaleOn_27 rfl (hz.symm)
  · have hz : mFst (S 579) p d q = 1 := by unfold mFst stI; rw [← h_4, hw0, if_pos (by omega)]
    refine y_iconst (v := 1) hB dX7_isStaleOn_22 rfl ?_
    refine y_goto hB 27 dX7_isStaleOn_23 (by decide) ?_
    exact m_ri hB hE dX7_isStaleOn_27 rfl (hz.symm)
set_option maxHeartbeats 4000000 in
theorem tX7_stale (l : Launch) (G : gG) (b : Nat) (C S : gM) (p d N : Int) (hM : MO (S 579) N) (hN : N ≤ 512) (hp : 0 ≤ p ∧ p < 20) (hd : S 579 0 ≤ d ∧ d ≤ 1520) : Ct l G b yX7_stale cX7_stale 5 (some .int) rmX7_stale [.ref (ad b (578)), .int (iI (p)), .int (iI (d))] 586 (wM G b C S) (RI G b C S (fun v => v = mSt (S 579) p d)) := by
  refine CtK_of (by decide) (Nat.le_of_ble_eq_true rfl) q898 ?_
  intro x hl hB hE _
  subst hl
  show YM x G b 0 0 C S 0 [(0, .ref (ad b (578))), (1, .int (iI (p))), (2, .int (iI (d)))] []
  obtain ⟨hm1, hm0, hm2, hm3, hm4, hm5, hm6, hm7, hm8, hmt, hmp, hmz⟩ := id hM
  obtain ⟨hp1, hp2, hp3, hp4, hp5, hp6, hp7, hpf⟩ := id (hmp p (by omega) (by omega))
  refine y_iconst (v := 0) hB dX7_stale_0 rfl ?_
  refine y_istore_n (lv' := [(3, .int (iI (0))), (0, .ref (ad b (578))), (1, .int (iI (p))), (2, .int (iI (d)))]) hB dX7_stale_1 rfl (by decide) rfl ?_
  refine y_iconst (v := 0) hB dX7_stale_2 rfl ?_
  refine y_istore (lv' := [(4, .int (iI (0))), (3, .int (iI (0))), (0, .ref (ad b (578))), (1, .int (iI (p))), (2, .int (iI (d)))]) hB dX7_stale_3 (by decide) rfl ?_
  have LOOP_5 : ∀ (fu : Nat) (r s : Int), (0 ≤ r ∧ r ≤ S 579 (32 * p + 19)) → (s = smI (mFst (S 579) p d) r) → (0 ≤ s ∧ s ≤ r) → S 579 (32 * p + 19) - r < (fu : Int) → YM x G b 0 0 C S 5 [(0, .ref (ad b (578))), (1, .int (iI (p))), (2, .int (iI (d))), (3, .int (iI (s))), (4, .int (iI (r)))] [] := by
    intro fu
    induction fu with
    | zero => intro r s hi hv hs hm_5; exfalso; omega
    | succ fu ih_5 =>
      intro r s hi hv hs hm_5
      refine y_iload hB 4 dX7_stale_5 rfl ?_
      refine y_aload_n hB 0 dX7_stale_7 rfl rfl ?_
      refine y_iload_n hB 1 dX7_stale_8 rfl rfl ?_
      refine y_iconst (v := 3) hB dX7_stale_9 rfl ?_
      refine m_V hB msX7_of q842 (tX7_of _ G b C S p 3 (32 * p + 19) (S 579 (32 * p + 19)) (by omega) (by omega) rfl) (t := 20) (by decide) (by decide) rfl rfl rfl rfl rfl ⟨Nat.le_of_ble_eq_true rfl, Nat.le_of_ble_eq_true rfl⟩ (Nat.le_of_ble_eq_true rfl) ⟨rfl, rfl⟩ ⟨Nat.le_of_ble_eq_true rfl, Nat.le_of_ble_eq_true rfl⟩ dX7_stale_10 (k_RI (fun v_10 h_10 => ?_))
      obtain rfl := h_10
      refine y_icmp_ge hB 41 dX7_stale_13 (by decide) (by omega) (by omega) (fun c_13 => ?_) (fun c_13 => ?_)
      · refine y_iload_n hB 3 dX7_stale_41 rfl rfl ?_
        exact m_ri hB hE dX7_stale_42 rfl (by rw [hv, show r = S 579 (32 * p + 19) by omega]; rfl)
      · refine y_iload_n hB 3 dX7_stale_16 rfl rfl ?_
        refine y_aload_n hB 0 dX7_stale_17 rfl rfl ?_
        refine y_iload_n hB 1 dX7_stale_18 rfl rfl ?_
        refine y_iload hB 4 dX7_stale_19 rfl ?_
        refine y_iload_n hB 2 dX7_stale_21 rfl rfl ?_
        refine m_V hB msX7_isStaleOn q881 (tX7_isStaleOn _ G b C S p r d N hM hN (by omega) (by omega) (by omega)) (t := 20) (by decide) (by decide) rfl rfl rfl rfl rfl ⟨Nat.le_of_ble_eq_true rfl, Nat.le_of_ble_eq_true rfl⟩ (Nat.le_of_ble_eq_true rfl) ⟨rfl, rfl⟩ ⟨Nat.le_of_ble_eq_true rfl, Nat.le_of_ble_eq_true rfl⟩ dX7_stale_22 (k_RI (fun v_22 h_22 => ?_))
        have hb_22 := mFst_b (S 579) p d r
        refine y_if_eq hB 32 dX7_stale_25 (by decide) (by omega) (fun c_25 => ?_) (fun c_25 => ?_)
        · refine y_iconst (v := 0) hB dX7_stale_32 rfl ?_
          refine y_iadd (t := s) hB dX7_stale_33 (by omega) ?_
          refine y_istore_n (lv' := [(3, .int (iI (s))), (0, .ref (ad b (578))), (1, .int (iI (p))), (2, .int (iI (d))), (4, .int (iI (r)))]) hB dX7_stale_34 rfl (by decide) rfl ?_
          refine y_iinc (v := r + 1) (lv' := [(4, .int (iI (r + 1))), (3, .int (iI (s))), (0, .ref (ad b (578))), (1, .int (iI (p))), (2, .int (iI (d)))]) hB 4 dX7_stale_35 rfl (by omega) (by decide) rfl ?_
          refine y_goto hB 5 dX7_stale_38 (by decide) ?_
          refine y_sub (lv' := [(0, .ref (ad b (578))), (1, .int (iI (p))), (2, .int (iI (d))), (3, .int (iI (s))), (4, .int (iI (r + 1)))]) [2, 3, 4, 1, 0] rfl ?_
          exact ih_5 (r + 1) (s) (by omega) (by rw [smI_s _ hi.1, ← hv]; omega) (by omega) (by omega)
        · refine y_iconst (v := 1) hB dX7_stale_28 rfl ?_
          refine y_goto hB 33 dX7_stale_29 (by decide) ?_
          refine y_iadd (t := s + 1) hB dX7_stale_33 (by omega) ?_
          refine y_istore_n (lv' := [(3, .int (iI (s + 1))), (0, .ref (ad b (578))), (1, .int (iI (p))), (2, .int (iI (d))), (4, .int (iI (r)))]) hB dX7_stale_34 rfl (by decide) rfl ?_
          refine y_iinc (v := r + 1) (lv' := [(4, .int (iI (r + 1))), (3, .int (iI (s + 1))), (0, .ref (ad b (578))), (1, .int (iI (p))), (2, .int (iI (d)))]) hB 4 dX7_stale_35 rfl (by omega) (by decide) rfl ?_
          refine y_goto hB 5 dX7_stale_38 (by decide) ?_
          refine y_sub (lv' := [(0, .ref (ad b (578))), (1, .int (iI (p))), (2, .int (iI (d))), (3, .int (iI (s + 1))), (4, .int (iI (r + 1)))]) [2, 3, 4, 1, 0] rfl ?_
          exact ih_5 (r + 1) (s + 1) (by omega) (by rw [smI_s _ hi.1, ← hv]; omega) (by omega) (by omega)
  refine y_sub (lv' := [(0, .ref (ad b (578))), (1, .int (iI (p))), (2, .int (iI (d))), (3, .int (iI (0))), (4, .int (iI (0)))]) [2, 3, 4, 1, 0] rfl ?_
  exact LOOP_5 ((S 579 (32 * p + 19)).toNat + 1) 0 0 (by omega) (smI_0 _).symm (by omega) (by omega)
set_option maxHeartbeats 4000000 in
theorem tX7_lines (l : Launch) (G : gG) (b : Nat) (C S : gM) (p N : Int) (hM : MO (S 579) N) (hN : N ≤ 512) (hp : 0 ≤ p ∧ p < 20) : Ct l G b yX7_lines cX7_lines 4 (some .int) rmX7_lines [.ref (ad b (578)), .int (iI (p))] 586 (wM G b C S) (RI G b C S (fun v => v = mLn (S 579) p)) := by
  refine CtK_of (by decide) (Nat.le_of_ble_eq_true rfl) q945 ?_
  intro x hl hB hE _
  subst hl
  show YM x G b 0 0 C S 0 [(0, .ref (ad b (578))), (1, .int (iI (p)))] []
  obtain ⟨hm1, hm0, hm2, hm3, hm4, hm5, hm6, hm7, hm8, hmt, hmp, hmz⟩ := id hM
  obtain ⟨hp1, hp2, hp3, hp4, hp5, hp6, hp7, hpf⟩ := id (hmp p (by omega) (by omega))
  refine y_iconst (v := 0) hB dX7_lines_0 rfl ?_
  refine y_istore_n (lv' := [(2, .int (iI (0))), (0, .ref (ad b (578))), (1, .int (iI (p)))]) hB dX7_lines_1 rfl (by decide) rfl ?_
  refine y_iconst (v := 0) hB dX7_lines_2 rfl ?_
  refine y_istore_n (lv' := [(3, .int (iI (0))), (2, .int (iI (0))), (0, .ref (ad b (578))), (1, .int (iI (p)))]) hB dX7_lines_3 rfl (by decide) rfl ?_
  have LOOP_4 : ∀ (fu : Nat) (r s : Int), (0 ≤ r ∧ r ≤ S 579 (32 * p + 19)) → (s = smI (fun j => S 579 (32 * p + 3 * j + 25)) r) → (0 ≤ s ∧ s ≤ 9 * r) → S 579 (32 * p + 19) - r < (fu : Int) → YM x G b 0 0 C S 4 [(0, .ref (ad b (578))), (1, .int (iI (p))), (2, .int (iI (s))), (3, .int (iI (r)))] [] := by
    intro fu
    induction fu with
    | zero => intro r s hi hv hs hm_4; exfalso; omega
    | succ fu ih_4 =>
      intro r s hi hv hs hm_4
      refine y_iload_n hB 3 dX7_lines_4 rfl rfl ?_
      refine y_aload_n hB 0 dX7_lines_5 rfl rfl ?_
      refine y_iload_n hB 1 dX7_lines_6 rfl rfl ?_
      refine y_iconst (v := 3) hB dX7_lines_7 rfl ?_
      refine m_V hB msX7_of q842 (tX7_of _ G b C S p 3 (32 * p + 19) (S 579 (32 * p + 19)) (by omega) (by omega) rfl) (t := 20) (by decide) (by decide) rfl rfl rfl rfl rfl ⟨Nat.le_of_ble_eq_true rfl, Nat.le_of_ble_eq_true rfl⟩ (Nat.le_of_ble_eq_true rfl) ⟨rfl, rfl⟩ ⟨Nat.le_of_ble_eq_true rfl, Nat.le_of_ble_eq_true rfl⟩ dX7_lines_8 (k_RI (fun v_8 h_8 => ?_))
      obtain rfl := h_8
      refine y_icmp_ge hB 35 dX7_lines_11 (by decide) (by omega) (by omega) (fun c_11 => ?_) (fun c_11 => ?_)
      · refine y_iload_n hB 2 dX7_lines_35 rfl rfl ?_
        exact m_ri hB hE dX7_lines_36 rfl (by rw [hv, show r = S 579 (32 * p + 19) by omega]; rfl)
      · have hf := hpf r hi.1 (by omega)
        refine y_iload_n hB 2 dX7_lines_14 rfl rfl ?_
        refine y_aload_n hB 0 dX7_lines_15 rfl rfl ?_
        refine gt_7_0 hB (by decide) (t1 := 579) (by omega) dX7_lines_16 ?_
        refine y_iload_n hB 1 dX7_lines_19 rfl rfl ?_
        refine y_iload_n hB 3 dX7_lines_20 rfl rfl ?_
        refine m_S hB msX7_f q846 (tX7_f _ G b C S p r (32 * p + 3 * r + 24) (by omega)) rfl rfl ⟨Nat.le_of_ble_eq_true rfl, Nat.le_of_ble_eq_true rfl⟩ (Nat.le_of_ble_eq_true rfl) ⟨rfl, rfl⟩ ⟨Nat.le_of_ble_eq_true rfl, Nat.le_of_ble_eq_true rfl⟩ dX7_lines_21 (k_RI (fun v_21 h_21 => ?_))
        obtain rfl := h_21
        refine y_iconst (v := 1) hB dX7_lines_24 rfl ?_
        refine y_iadd (t := 32 * p + 3 * r + 25) hB dX7_lines_25 (by omega) ?_
        refine ald_21 hB (by decide) (t1 := S 579 (32 * p + 3 * r + 25)) (by omega) rfl dX7_lines_26 ?_
        refine y_iadd (t := (S 579 (32 * p + 3 * r + 25)) + s) hB dX7_lines_27 (by omega) ?_
        refine y_istore_n (lv' := [(2, .int (iI ((S 579 (32 * p + 3 * r + 25)) + s))), (0, .ref (ad b (578))), (1, .int (iI (p))), (3, .int (iI (r)))]) hB dX7_lines_28 rfl (by decide) rfl ?_
        refine y_iinc (v := r + 1) (lv' := [(3, .int (iI (r + 1))), (2, .int (iI ((S 579 (32 * p + 3 * r + 25)) + s))), (0, .ref (ad b (578))), (1, .int (iI (p)))]) hB 3 dX7_lines_29 rfl (by omega) (by decide) rfl ?_
        refine y_goto hB 4 dX7_lines_32 (by decide) ?_
        refine y_sub (lv' := [(0, .ref (ad b (578))), (1, .int (iI (p))), (2, .int (iI ((S 579 (32 * p + 3 * r + 25)) + s))), (3, .int (iI (r + 1)))]) [2, 3, 1, 0] rfl ?_
        exact ih_4 (r + 1) _ (by omega) (by rw [smI_s _ hi.1, ← hv]; omega) (by omega) (by omega)
  refine y_sub (lv' := [(0, .ref (ad b (578))), (1, .int (iI (p))), (2, .int (iI (0))), (3, .int (iI (0)))]) [2, 3, 1, 0] rfl ?_
  exact LOOP_4 ((S 579 (32 * p + 19)).toNat + 1) 0 0 (by omega) (smI_0 _).symm (by omega) (by omega)
set_option maxHeartbeats 4000000 in
theorem tX7_sources (l : Launch) (G : gG) (b : Nat) (C S : gM) (p N : Int) (hM : MO (S 579) N) (hN : N ≤ 512) (hp : 0 ≤ p ∧ p < 20) : Ct l G b yX7_sources cX7_sources 5 (some .int) rmX7_sources [.ref (ad b (578)), .int (iI (p))] 586 (wM G b C S) (RI G b C S (fun v => v = mSrc (S 579) p)) := by
  refine CtK_of (by decide) (Nat.le_of_ble_eq_true rfl) q937 ?_
  intro x hl hB hE _
  subst hl
  show YM x G b 0 0 C S 0 [(0, .ref (ad b (578))), (1, .int (iI (p)))] []
  obtain ⟨hm1, hm0, hm2, hm3, hm4, hm5, hm6, hm7, hm8, hmt, hmp, hmz⟩ := id hM
  obtain ⟨hp1, hp2, hp3, hp4, hp5, hp6, hp7, hpf⟩ := id (hmp p (by omega) (by omega))
  refine y_iconst (v := 0) hB dX7_sources_0 rfl ?_
  refine y_istore_n (lv' := [(2, .int (iI (0))), (0, .ref (ad b (578))), (1, .int (iI (p)))]) hB dX7_sources_1 rfl (by decide) rfl ?_
  refine y_iconst (v := 0) hB dX7_sources_2 rfl ?_
  refine y_istore_n (lv' := [(3, .int (iI (0))), (2, .int (iI (0))), (0, .ref (ad b (578))), (1, .int (iI (p)))]) hB dX7_sources_3 rfl (by decide) rfl ?_
  have LOOP_4 : ∀ (fu : Nat) (r s : Int), (0 ≤ r ∧ r ≤ S 579 (32 * p + 19)) → (s = mkI (fun j => S 579 (32 * p + 3 * j + 24)) r) → S 579 (32 * p + 19) - r < (fu : Int) → YM x G b 0 0 C S 4 [(0, .ref (ad b (578))), (1, .int (iI (p))), (2, .int (iI (s))), (3, .int (iI (r)))] [] := by
    intro fu
    induction fu with
    | zero => intro r s hi hv hm_4; exfalso; omega
    | succ fu ih_4 =>
      intro r s hi hv hm_4
      have hb : 0 ≤ s ∧ s < 64 := by rw [hv]; exact mkI_lt (fun j h1 h2 => (hpf j h1 (by omega)).1)
      refine y_iload_n hB 3 dX7_sources_4 rfl rfl ?_
      refine y_aload_n hB 0 dX7_sources_5 rfl rfl ?_
      refine y_iload_n hB 1 dX7_sources_6 rfl rfl ?_
      refine y_iconst (v := 3) hB dX7_sources_7 rfl ?_
      refine m_V hB msX7_of q842 (tX7_of _ G b C S p 3 (32 * p + 19) (S 579 (32 * p + 19)) (by omega) (by omega) rfl) (t := 20) (by decide) (by decide) rfl rfl rfl rfl rfl ⟨Nat.le_of_ble_eq_true rfl, Nat.le_of_ble_eq_true rfl⟩ (Nat.le_of_ble_eq_true rfl) ⟨rfl, rfl⟩ ⟨Nat.le_of_ble_eq_true rfl, Nat.le_of_ble_eq_true rfl⟩ dX7_sources_8 (k_RI (fun v_8 h_8 => ?_))
      obtain rfl := h_8
      refine y_icmp_ge hB 35 dX7_sources_11 (by decide) (by omega) (by omega) (fun c_11 => ?_) (fun c_11 => ?_)
      · refine y_iconst (v := 0) hB dX7_sources_35 rfl ?_
        refine y_istore_n (lv' := [(3, .int (iI (0))), (0, .ref (ad b (578))), (1, .int (iI (p))), (2, .int (iI (s)))]) hB dX7_sources_36 rfl (by decide) rfl ?_
        refine y_iconst (v := 0) hB dX7_sources_37 rfl ?_
        refine y_istore (lv' := [(4, .int (iI (0))), (3, .int (iI (0))), (0, .ref (ad b (578))), (1, .int (iI (p))), (2, .int (iI (s)))]) hB dX7_sources_38 (by decide) rfl ?_
        refine y_iload hB 0 dX7_sources_40 rfl ?_
        refine y_bipush (v := 6) hB dX7_sources_42 (by decide) ?_
        refine y_icmp_ge hB 62 dX7_sources_44 (by decide) (by omega) (by omega) (fun c_44 => ?_) (fun c_44 => ?_)
        · exfalso
          omega
        · refine y_iload_n hB 1 dX7_sources_47 rfl rfl ?_
          refine y_iload_n hB 4 dX7_sources_48 rfl rfl ?_
          refine y_iload hB 0 dX7_sources_49 rfl ?_
          refine y_ishrR hB dX7_sources_51 ?_
          refine y_iconst (v := 1) hB dX7_sources_52 rfl ?_
          refine y_iandR hB dX7_sources_53 ?_
          refine y_iaddR hB dX7_sources_54 ?_
          refine y_istore_n (lv' := [(3, .int ((iI (0)) + (((iI (s)) >>> ((iI (0)) &&& 31)) &&& (iI (1))))), (4, .int (iI (0))), (0, .ref (ad b (578))), (1, .int (iI (p))), (2, .int (iI (s)))]) hB dX7_sources_55 rfl (by decide) rfl ?_
          refine y_iinc (v := 1) (lv' := [(4, .int (iI (1))), (3, .int ((iI (0)) + (((iI (s)) >>> ((iI (0)) &&& 31)) &&& (iI (1))))), (0, .ref (ad b (578))), (1, .int (iI (p))), (2, .int (iI (s)))]) hB 1 dX7_sources_56 rfl (by omega) (by decide) rfl ?_
          refine y_goto hB 40 dX7_sources_59 (by decide) ?_
          refine y_iload hB 0 dX7_sources_40 rfl ?_
          refine y_bipush (v := 6) hB dX7_sources_42 (by decide) ?_
          refine y_icmp_ge hB 62 dX7_sources_44 (by decide) (by omega) (by omega) (fun c_44 => ?_) (fun c_44 => ?_)
          · exfalso
            omega
          · refine y_iload_n hB 1 dX7_sources_47 rfl rfl ?_
            refine y_iload_n hB 4 dX7_sources_48 rfl rfl ?_
            refine y_iload hB 0 dX7_sources_49 rfl ?_
            refine y_ishrR hB dX7_sources_51 ?_
            refine y_iconst (v := 1) hB dX7_sources_52 rfl ?_
            refine y_iandR hB dX7_sources_53 ?_
            refine y_iaddR hB dX7_sources_54 ?_
            refine y_istore_n (lv' := [(3, .int (((iI (0)) + (((iI (s)) >>> ((iI (0)) &&& 31)) &&& (iI (1)))) + (((iI (s)) >>> ((iI (1)) &&& 31)) &&& (iI (1))))), (4, .int (iI (1))), (0, .ref (ad b (578))), (1, .int (iI (p))), (2, .int (iI (s)))]) hB dX7_sources_55 rfl (by decide) rfl ?_
            refine y_iinc (v := 2) (lv' := [(4, .int (iI (2))), (3, .int (((iI (0)) + (((iI (s)) >>> ((iI (0)) &&& 31)) &&& (iI (1)))) + (((iI (s)) >>> ((iI (1)) &&& 31)) &&& (iI (1))))), (0, .ref (ad b (578))), (1, .int (iI (p))), (2, .int (iI (s)))]) hB 1 dX7_sources_56 rfl (by omega) (by decide) rfl ?_
            refine y_goto hB 40 dX7_sources_59 (by decide) ?_
            refine y_iload hB 0 dX7_sources_40 rfl ?_
            refine y_bipush (v := 6) hB dX7_sources_42 (by decide) ?_
            refine y_icmp_ge hB 62 dX7_sources_44 (by decide) (by omega) (by omega) (fun c_44 => ?_) (fun c_44 => ?_)
            · exfalso
              omega
            · refine y_iload_n hB 1 dX7_sources_47 rfl rfl ?_
              refine y_iload_n hB 4 dX7_sources_48 rfl rfl ?_
              refine y_iload hB 0 dX7_sources_49 rfl ?_
              refine y_ishrR hB dX7_sources_51 ?_
              refine y_iconst (v := 1) hB dX7_sources_52 rfl ?_
              refine y_iandR hB dX7_sources_53 ?_
              refine y_iaddR hB dX7_sources_54 ?_
              refine y_istore_n (lv' := [(3, .int ((((iI (0)) + (((iI (s)) >>> ((iI (0)) &&& 31)) &&& (iI (1)))) + (((iI (s)) >>> ((iI (1)) &&& 31)) &&& (iI (1)))) + (((iI (s)) >>> ((iI (2)) &&& 31)) &&& (iI (1))))), (4, .int (iI (2))), (0, .ref (ad b (578))), (1, .int (iI (p))), (2, .int (iI (s)))]) hB dX7_sources_55 rfl (by decide) rfl ?_
              refine y_iinc (v := 3) (lv' := [(4, .int (iI (3))), (3, .int ((((iI (0)) + (((iI (s)) >>> ((iI (0)) &&& 31)) &&& (iI (1)))) + (((iI (s)) >>> ((iI (1)) &&& 31)) &&& (iI (1)))) + (((iI (s)) >>> ((iI (2)) &&& 31)) &&& (iI (1))))), (0, .ref (ad b (578))), (1, .int (iI (p))), (2, .int (iI (s)))]) hB 1 dX7_sources_56 rfl (by omega) (by decide) rfl ?_
              refine y_goto hB 40 dX7_sources_59 (by decide) ?_
              refine y_iload hB 0 dX7_sources_40 rfl ?_
              refine y_bipush (v := 6) hB dX7_sources_42 (by decide) ?_
              refine y_icmp_ge hB 62 dX7_sources_44 (by decide) (by omega) (by omega) (fun c_44 => ?_) (fun c_44 => ?_)
              · exfalso
                omega
              · refine y_iload_n hB 1 dX7_sources_47 rfl rfl ?_
                refine y_iload_n hB 4 dX7_sources_48 rfl rfl ?_
                refine y_iload hB 0 dX7_sources_49 rfl ?_
                refine y_ishrR hB dX7_sources_51 ?_
                refine y_iconst (v := 1) hB dX7_sources_52 rfl ?_
                refine y_iandR hB dX7_sources_53 ?_
                refine y_iaddR hB dX7_sources_54 ?_
                refine y_istore_n (lv' := [(3, .int (((((iI (0)) + (((iI (s)) >>> ((iI (0)) &&& 31)) &&& (iI (1)))) + (((iI (s)) >>> ((iI (1)) &&& 31)) &&& (iI (1)))) + (((iI (s)) >>> ((iI (2)) &&& 31)) &&& (iI (1)))) + (((iI (s)) >>> ((iI (3)) &&& 31)) &&& (iI (1))))), (4, .int (iI (3))), (0, .ref (ad b (578))), (1, .int (iI (p))), (2, .int (iI (s)))]) hB dX7_sources_55 rfl (by decide) rfl ?_
                refine y_iinc (v := 4) (lv' := [(4, .int (iI (4))), (3, .int (((((iI (0)) + (((iI (s)) >>> ((iI (0)) &&& 31)) &&& (iI (1)))) + (((iI (s)) >>> ((iI (1)) &&& 31)) &&& (iI (1)))) + (((iI (s)) >>> ((iI (2)) &&& 31)) &&& (iI (1)))) + (((iI (s)) >>> ((iI (3)) &&& 31)) &&& (iI (1))))), (0, .ref (ad b (578))), (1, .int (iI (p))), (2, .int (iI (s)))]) hB 1 dX7_sources_56 rfl (by omega) (by decide) rfl ?_
                refine y_goto hB 40 dX7_sources_59 (by decide) ?_
                refine y_iload hB 0 dX7_sources_40 rfl ?_
                refine y_bipush (v := 6) hB dX7_sources_42 (by decide) ?_
                refine y_icmp_ge hB 62 dX7_sources_44 (by decide) (by omega) (by omega) (fun c_44 => ?_) (fun c_44 => ?_)
                · exfalso
                  omega
                · refine y_iload_n hB 1 dX7_sources_47 rfl rfl ?_
                  refine y_iload_n hB 4 dX7_sources_48 rfl rfl ?_
                  refine y_iload hB 0 dX7_sources_49 rfl ?_
                  refine y_ishrR hB dX7_sources_51 ?_
                  refine y_iconst (v := 1) hB dX7_sources_52 rfl ?_
                  refine y_iandR hB dX7_sources_53 ?_
                  refine y_iaddR hB dX7_sources_54 ?_
                  refine y_istore_n (lv' := [(3, .int ((((((iI (0)) + (((iI (s)) >>> ((iI (0)) &&& 31)) &&& (iI (1)))) + (((iI (s)) >>> ((iI (1)) &&& 31)) &&& (iI (1)))) + (((iI (s)) >>> ((iI (2)) &&& 31)) &&& (iI (1)))) + (((iI (s)) >>> ((iI (3)) &&& 31)) &&& (iI (1)))) + (((iI (s)) >>> ((iI (4)) &&& 31)) &&& (iI (1))))), (4, .int (iI (4))), (0, .ref (ad b (578))), (1, .int (iI (p))), (2, .int (iI (s)))]) hB dX7_sources_55 rfl (by decide) rfl ?_
                  refine y_iinc (v := 5) (lv' := [(4, .int (iI (5))), (3, .int ((((((iI (0)) + (((iI (s)) >>> ((iI (0)) &&& 31)) &&& (iI (1)))) + (((iI (s)) >>> ((iI (1)) &&& 31)) &&& (iI (1)))) + (((iI (s)) >>> ((iI (2)) &&& 31)) &&& (iI (1)))) + (((iI (s)) >>> ((iI (3)) &&& 31)) &&& (iI (1)))) + (((iI (s)) >>> ((iI (4)) &&& 31)) &&& (iI (1))))), (0, .ref (ad b (578))), (1, .int (iI (p))), (2, .int (iI (s)))]) hB 1 dX7_sources_56 rfl (by omega) (by decide) rfl ?_
                  refine y_goto hB 40 dX7_sources_59 (by decide) ?_
                  refine y_iload hB 0 dX7_sources_40 rfl ?_
                  refine y_bipush (v := 6) hB dX7_sources_42 (by decide) ?_
                  refine y_icmp_ge hB 62 dX7_sources_44 (by decide) (by omega) (by omega) (fun c_44 => ?_) (fun c_44 => ?_)
                  · exfalso
                    omega
                  · refine y_iload_n hB 1 dX7_sources_47 rfl rfl ?_
                    refine y_iload_n hB 4 dX7_sources_48 rfl rfl ?_
                    refine y_iload hB 0 dX7_sources_49 rfl ?_
                    refine y_ishrR hB dX7_sources_51 ?_
                    refine y_iconst (v := 1) hB dX7_sources_52 rfl ?_
                    refine y_iandR hB dX7_sources_53 ?_
                    refine y_iaddR hB dX7_sources_54 ?_
                    refine y_istore_n (lv' := [(3, .int (((((((iI (0)) + (((iI (s)) >>> ((iI (0)) &&& 31)) &&& (iI (1)))) + (((iI (s)) >>> ((iI (1)) &&& 31)) &&& (iI (1)))) + (((iI (s)) >>> ((iI (2)) &&& 31)) &&& (iI (1)))) + (((iI (s)) >>> ((iI (3)) &&& 31)) &&& (iI (1)))) + (((iI (s)) >>> ((iI (4)) &&& 31)) &&& (iI (1)))) + (((iI (s)) >>> ((iI (5)) &&& 31)) &&& (iI (1))))), (4, .int (iI (5))), (0, .ref (ad b (578))), (1, .int (iI (p))), (2, .int (iI (s)))]) hB dX7_sources_55 rfl (by decide) rfl ?_
                    refine y_iinc (v := 6) (lv' := [(4, .int (iI (6))), (3, .int (((((((iI (0)) + (((iI (s)) >>> ((iI (0)) &&& 31)) &&& (iI (1)))) + (((iI (s)) >>> ((iI (1)) &&& 31)) &&& (iI (1)))) + (((iI (s)) >>> ((iI (2)) &&& 31)) &&& (iI (1)))) + (((iI (s)) >>> ((iI (3)) &&& 31)) &&& (iI (1)))) + (((iI (s)) >>> ((iI (4)) &&& 31)) &&& (iI (1)))) + (((iI (s)) >>> ((iI (5)) &&& 31)) &&& (iI (1))))), (0, .ref (ad b (578))), (1, .int (iI (p))), (2, .int (iI (s)))]) hB 1 dX7_sources_56 rfl (by omega) (by decide) rfl ?_
                    refine y_goto hB 40 dX7_sources_59 (by decide) ?_
                    refine y_iload hB 0 dX7_sources_40 rfl ?_
                    refine y_bipush (v := 6) hB dX7_sources_42 (by decide) ?_
                    refine y_icmp_ge hB 62 dX7_sources_44 (by decide) (by omega) (by omega) (fun c_44 => ?_) (fun c_44 => ?_)
                    · refine y_iload_n hB 1 dX7_sources_62 rfl rfl ?_
                      rw [show ((((((iI (0)) + (((iI (s)) >>> ((iI (0)) &&& 31)) &&& (iI (1)))) + (((iI (s)) >>> ((iI (1)) &&& 31)) &&& (iI (1)))) + (((iI (s)) >>> ((iI (2)) &&& 31)) &&& (iI (1)))) + (((iI (s)) >>> ((iI (3)) &&& 31)) &&& (iI (1)))) + (((iI (s)) >>> ((iI (4)) &&& 31)) &&& (iI (1)))) + (((iI (s)) >>> ((iI (5)) &&& 31)) &&& (iI (1))) = iI (pcI s) from (by have h9 := co_all (P := fun s => ((((((iI (0)) + (((iI (s)) >>> ((iI (0)) &&& 31)) &&& (iI (1)))) + (((iI (s)) >>> ((iI (1)) &&& 31)) &&& (iI (1)))) + (((iI (s)) >>> ((iI (2)) &&& 31)) &&& (iI (1)))) + (((iI (s)) >>> ((iI (3)) &&& 31)) &&& (iI (1)))) + (((iI (s)) >>> ((iI (4)) &&& 31)) &&& (iI (1)))) + (((iI (s)) >>> ((iI (5)) &&& 31)) &&& (iI (1))) = iI (pcI s)) 64 (by decide +kernel) hb; exact h9)]
                      exact m_ri hB hE dX7_sources_63 rfl (by rw [hv, show r = S 579 (32 * p + 19) by omega]; rfl)
                    · exfalso
                      omega
      · have hf := hpf r hi.1 (by omega)
        refine y_iload_n hB 2 dX7_sources_14 rfl rfl ?_
        refine y_iconst (v := 1) hB dX7_sources_15 rfl ?_
        refine y_aload_n hB 0 dX7_sources_16 rfl rfl ?_
        refine gt_7_0 hB (by decide) (t1 := 579) (by omega) dX7_sources_17 ?_
        refine y_iload_n hB 1 dX7_sources_20 rfl rfl ?_
        refine y_iload_n hB 3 dX7_sources_21 rfl rfl ?_
        refine m_S hB msX7_f q846 (tX7_f _ G b C S p r (32 * p + 3 * r + 24) (by omega)) rfl rfl ⟨Nat.le_of_ble_eq_true rfl, Nat.le_of_ble_eq_true rfl⟩ (Nat.le_of_ble_eq_true rfl) ⟨rfl, rfl⟩ ⟨Nat.le_of_ble_eq_true rfl, Nat.le_of_ble_eq_true rfl⟩ dX7_sources_22 (k_RI (fun v_22 h_22 => ?_))
        obtain rfl := h_22
        refine ald_21 hB (by decide) (t1 := S 579 (32 * p + 3 * r + 24)) (by omega) rfl dX7_sources_25 ?_
        refine y_ishl1 hB (by omega) dX7_sources_26 ?_
        refine y_ior hB (by omega) (p2_lt (by omega)) dX7_sources_27 ?_
        refine y_istore_n (lv' := [(2, .int (iI (orI s (p2 (S 579 (32 * p + 3 * r + 24)))))), (0, .ref (ad b (578))), (1, .int (iI (p))), (3, .int (iI (r)))]) hB dX7_sources_28 rfl (by decide) rfl ?_
        refine y_iinc (v := r + 1) (lv' := [(3, .int (iI (r + 1))), (2, .int (iI (orI s (p2 (S 579 (32 * p + 3 * r + 24)))))), (0, .ref (ad b (578))), (1, .int (iI (p)))]) hB 3 dX7_sources_29 rfl (by omega) (by decide) rfl ?_
        refine y_goto hB 4 dX7_sources_32 (by decide) ?_
        refine y_sub (lv' := [(0, .ref (ad b (578))), (1, .int (iI (p))), (2, .int (iI (orI s (p2 (S 579 (32 * p + 3 * r + 24)))))), (3, .int (iI (r + 1)))]) [2, 3, 1, 0] rfl ?_
        exact ih_4 (r + 1) _ (by omega) (by rw [mkI_s _ hi.1, ← hv]) (by omega)
  refine y_sub (lv' := [(0, .ref (ad b (578))), (1, .int (iI (p))), (2, .int (iI (0))), (3, .int (iI (0)))]) [2, 3, 1, 0] rfl ?_
  exact LOOP_4 ((S 579 (32 * p + 19)).toNat + 1) 0 0 (by omega) (mkI_0 _).symm (by omega)
set_option maxHeartbeats 4000000 in
theorem tX7_isReady (l : Launch) (G : gG) (b : Nat) (C S : gM) (p N : Int) (hM : MO (S 579) N) (hN : N ≤ 512) (hp : 0 ≤ p ∧ p < 20) : Ct l G b yX7_isReady cX7_isReady 2 (some .boolean) rmX7_isReady [.ref (ad b (578)), .int (iI (p))] 586 (wM G b C S) (RI G b C S (fun v => (v = 1 ∧ mRdy (S 579) p) ∨ (v = 0 ∧ ¬ mRdy (S 579) p))) := by
  refine CtK_of (by decide) (Nat.le_of_ble_eq_true rfl) q933 ?_
  intro x hl hB hE _
  subst hl
  show YM x G b 0 0 C S 0 [(0, .ref (ad b (578))), (1, .int (iI (p)))] []
  obtain ⟨hm1, hm0, hm2, hm3, hm4, hm5, hm6, hm7, hm8, hmt, hmp, hmz⟩ := id hM
  obtain ⟨hp1, hp2, hp3, hp4, hp5, hp6, hp7, hpf⟩ := id (hmp p (by omega) (by omega))
  refine y_aload_n hB 0 dX7_isReady_0 rfl rfl ?_
  refine y_iload_n hB 1 dX7_isReady_1 rfl rfl ?_
  refine m_V hB msX7_sources q934 (tX7_sources _ G b C S p N hM hN (by omega)) (t := 20) (by decide) (by decide) rfl rfl rfl rfl rfl ⟨Nat.le_of_ble_eq_true rfl, Nat.le_of_ble_eq_true rfl⟩ (Nat.le_of_ble_eq_true rfl) ⟨rfl, rfl⟩ ⟨Nat.le_of_ble_eq_true rfl, Nat.le_of_ble_eq_true rfl⟩ dX7_isReady_2 (k_RI (fun v_2 h_2 => ?_))
  have hb_2 := mSrc_b (hmp p (by omega) (by omega))
  refine y_aload_n hB 0 dX7_isReady_5 rfl rfl ?_
  refine gt_7_0 hB (by decide) (t1 := 579) (by omega) dX7_isReady_6 ?_
  refine y_bipush (v := 7) hB dX7_isReady_9 (by decide) ?_
  refine ald_21 hB (by decide) (t1 := S 579 7) (by omega) rfl dX7_isReady_11 ?_
  refine y_icmp_lt hB 33 dX7_isReady_12 (by decide) (by omega) (by omega) (fun c_12 => ?_) (fun c_12 => ?_)
  · refine y_iconst (v := 0) hB dX7_isReady_33 rfl ?_
    exact m_ri hB hE dX7_isReady_34 rfl (by unfold mRdy; omega)
  · refine y_aload_n hB 0 dX7_isReady_15 rfl rfl ?_
    refine y_iload_n hB 1 dX7_isReady_16 rfl rfl ?_
    refine y_aload_n hB 0 dX7_isReady_17 rfl rfl ?_
    refine gt_7_0 hB (by decide) (t1 := 579) (by omega) dX7_isReady_18 ?_
    refine y_iconst (v := 0) hB dX7_isReady_21 rfl ?_
    refine ald_21 hB (by decide) (t1 := S 579 0) (by omega) rfl dX7_isReady_22 ?_
    refine m_V hB msX7_stale q895 (tX7_stale _ G b C S p (S 579 0) N hM hN (by omega) (by omega)) (t := 20) (by decide) (by decide) rfl rfl rfl rfl rfl ⟨Nat.le_of_ble_eq_true rfl, Nat.le_of_ble_eq_true rfl⟩ (Nat.le_of_ble_eq_true rfl) ⟨rfl, rfl⟩ ⟨Nat.le_of_ble_eq_true rfl, Nat.le_of_ble_eq_true rfl⟩ dX7_isReady_23 (k_RI (fun v_23 h_23 => ?_))
    have hb_23 := mSt_b (f := S 579) (i := p) (d := S 579 0) hp4
    refine y_if_ne hB 33 dX7_isReady_26 (by decide) (by omega) (fun c_26 => ?_) (fun c_26 => ?_)
    · refine y_iconst (v := 0) hB dX7_isReady_33 rfl ?_
      exact m_ri hB hE dX7_isReady_34 rfl (by unfold mRdy; omega)
    · refine y_iconst (v := 1) hB dX7_isReady_29 rfl ?_
      refine y_goto hB 34 dX7_isReady_30 (by decide) ?_
      exact m_ri hB hE dX7_isReady_34 rfl (by unfold mRdy; omega)
set_option maxHeartbeats 4000000 in
theorem tX7_urgency (l : Launch) (G : gG) (b : Nat) (C S : gM) (p N : Int) (hM : MO (S 579) N) (hN : N ≤ 512) (hp : 0 ≤ p ∧ p < 20) : Ct l G b yX7_urgency cX7_urgency 2 (some .int) rmX7_urgency [.ref (ad b (578)), .int (iI (p))] 586 (wM G b C S) (RI G b C S (fun v => v = mUrg (S 579) p)) := by
  refine CtK_of (by decide) (Nat.le_of_ble_eq_true rfl) q894 ?_
  intro x hl hB hE _
  subst hl
  show YM x G b 0 0 C S 0 [(0, .ref (ad b (578))), (1, .int (iI (p)))] []
  obtain ⟨hm1, hm0, hm2, hm3, hm4, hm5, hm6, hm7, hm8, hmt, hmp, hmz⟩ := id hM
  obtain ⟨hp1, hp2, hp3, hp4, hp5, hp6, hp7, hpf⟩ := id (hmp p (by omega) (by omega))
  refine y_aload_n hB 0 dX7_urgency_0 rfl rfl ?_
  refine y_iload_n hB 1 dX7_urgency_1 rfl rfl ?_
  refine y_iconst (v := 0) hB dX7_urgency_2 rfl ?_
  refine m_V hB msX7_of q842 (tX7_of _ G b C S p 0 (32 * p + 16) (S 579 (32 * p + 16)) (by omega) (by omega) rfl) (t := 20) (by decide) (by decide) rfl rfl rfl rfl rfl ⟨Nat.le_of_ble_eq_true rfl, Nat.le_of_ble_eq_true rfl⟩ (Nat.le_of_ble_eq_true rfl) ⟨rfl, rfl⟩ ⟨Nat.le_of_ble_eq_true rfl, Nat.le_of_ble_eq_true rfl⟩ dX7_urgency_3 (k_RI (fun v_3 h_3 => ?_))
  obtain rfl := h_3
  refine y_bipush (v := 10) hB dX7_urgency_6 (by decide) ?_
  refine y_aload_n hB 0 dX7_urgency_8 rfl rfl ?_
  refine y_iload_n hB 1 dX7_urgency_9 rfl rfl ?_
  refine y_iconst (v := 1) hB dX7_urgency_10 rfl ?_
  refine m_V hB msX7_of q842 (tX7_of _ G b C S p 1 (32 * p + 17) (S 579 (32 * p + 17)) (by omega) (by omega) rfl) (t := 20) (by decide) (by decide) rfl rfl rfl rfl rfl ⟨Nat.le_of_ble_eq_true rfl, Nat.le_of_ble_eq_true rfl⟩ (Nat.le_of_ble_eq_true rfl) ⟨rfl, rfl⟩ ⟨Nat.le_of_ble_eq_true rfl, Nat.le_of_ble_eq_true rfl⟩ dX7_urgency_11 (k_RI (fun v_11 h_11 => ?_))
  obtain rfl := h_11
  refine y_imul (t := 10 * S 579 (32 * p + 17)) hB dX7_urgency_14 (by omega) ?_
  refine y_iadd (t := (S 579 (32 * p + 16)) + 10 * S 579 (32 * p + 17)) hB dX7_urgency_15 (by omega) ?_
  refine y_iconst (v := 5) hB dX7_urgency_16 rfl ?_
  refine y_aload_n hB 0 dX7_urgency_17 rfl rfl ?_
  refine y_iload_n hB 1 dX7_urgency_18 rfl rfl ?_
  refine y_aload_n hB 0 dX7_urgency_19 rfl rfl ?_
  refine gt_7_0 hB (by decide) (t1 := 579) (by omega) dX7_urgency_20 ?_
  refine y_iconst (v := 0) hB dX7_urgency_23 rfl ?_
  refine ald_21 hB (by decide) (t1 := S 579 0) (by omega) rfl dX7_urgency_24 ?_
  refine m_V hB msX7_stale q895 (tX7_stale _ G b C S p (S 579 0) N hM hN (by omega) (by omega)) (t := 20) (by decide) (by decide) rfl rfl rfl rfl rfl ⟨Nat.le_of_ble_eq_true rfl, Nat.le_of_ble_eq_true rfl⟩ (Nat.le_of_ble_eq_true rfl) ⟨rfl, rfl⟩ ⟨Nat.le_of_ble_eq_true rfl, Nat.le_of_ble_eq_true rfl⟩ dX7_urgency_25 (k_RI (fun v_25 h_25 => ?_))
  have hb_25 := mSt_b (f := S 579) (i := p) (d := S 579 0) hp4
  refine y_imul (t := 5 * v_25) hB dX7_urgency_28 (by omega) ?_
  refine y_iadd (t := (S 579 (32 * p + 16)) + 10 * S 579 (32 * p + 17) + 5 * v_25) hB dX7_urgency_29 (by omega) ?_
  refine y_aload_n hB 0 dX7_urgency_30 rfl rfl ?_
  refine y_iload_n hB 1 dX7_urgency_31 rfl rfl ?_
  refine y_iconst (v := 3) hB dX7_urgency_32 rfl ?_
  refine m_V hB msX7_of q842 (tX7_of _ G b C S p 3 (32 * p + 19) (S 579 (32 * p + 19)) (by omega) (by omega) rfl) (t := 20) (by decide) (by decide) rfl rfl rfl rfl rfl ⟨Nat.le_of_ble_eq_true rfl, Nat.le_of_ble_eq_true rfl⟩ (Nat.le_of_ble_eq_true rfl) ⟨rfl, rfl⟩ ⟨Nat.le_of_ble_eq_true rfl, Nat.le_of_ble_eq_true rfl⟩ dX7_urgency_33 (k_RI (fun v_33 h_33 => ?_))
  obtain rfl := h_33
  refine y_if_ne hB 44 dX7_urgency_36 (by decide) (by omega) (fun c_36 => ?_) (fun c_36 => ?_)
  · refine y_iconst (v := 0) hB dX7_urgency_44 rfl ?_
    refine y_iadd (t := (S 579 (32 * p + 16)) + 10 * S 579 (32 * p + 17) + 5 * v_25) hB dX7_urgency_45 (by omega) ?_
    exact m_ri hB hE dX7_urgency_46 rfl (by unfold mUrg; rw [← h_25]; rw [if_neg (by omega)] <;> omega)
  · refine y_bipush (v := 40) hB dX7_urgency_39 (by decide) ?_
    refine y_goto hB 45 dX7_urgency_41 (by decide) ?_
    refine y_iadd (t := (S 579 (32 * p + 16)) + 10 * S 579 (32 * p + 17) + 5 * v_25 + 40) hB dX7_urgency_45 (by omega) ?_
    exact m_ri hB hE dX7_urgency_46 rfl (by unfold mUrg; rw [← h_25]; rw [if_pos (by omega)] <;> omega)
