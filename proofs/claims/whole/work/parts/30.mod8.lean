/-! the other class: its text, sign by sign -/
def TyS (S : gM) (t : Int → Int) (n a : Int) : Prop := S 584 = t ∧ S 578 8 = n ∧ S 578 12 = a
theorem TyS_at {S : gM} {t : Int → Int} {n a a' : Int} (h : TyS S t n a) : TyS (up2 S 578 12 a') t n a' := ⟨by rw [up2_ne _ _ _ (by omega)]; exact h.1, by rw [rd_i (by omega)]; exact h.2.1, rd_hit rfl rfl⟩
theorem TyS_k {S : gM} {t : Int → Int} {n a k j x : Int} (hk : (k ≠ 578 ∨ (j ≠ 8 ∧ j ≠ 12)) ∧ k ≠ 584) (h : TyS S t n a) : TyS (up2 S k j x) t n a := by
  refine ⟨by rw [up2_ne _ _ _ (by omega)]; exact h.1, ?_, ?_⟩
  · rcases hk.1 with g | g
    · rw [rd_k (by omega)]; exact h.2.1
    · rw [rd_i (by omega)]; exact h.2.1
  · rcases hk.1 with g | g
    · rw [rd_k (by omega)]; exact h.2.2
    · rw [rd_i (by omega)]; exact h.2.2
def gU (t : Int → Int) (n a lo hi : Int) : Int := if a < n ∧ lo ≤ t a - 48 ∧ t a - 48 ≤ hi then t a - 48 else -1
theorem gU_b (t : Int → Int) (n a lo hi : Int) : (gU t n a lo hi = -1 ∧ gV t n a lo hi = -5 ∧ ¬ (a < n ∧ lo ≤ t a - 48 ∧ t a - 48 ≤ hi) ∧ gA t n a lo hi = a) ∨ (gU t n a lo hi = gV t n a lo hi ∧ lo ≤ gV t n a lo hi ∧ gV t n a lo hi ≤ hi ∧ gV t n a lo hi = t a - 48 ∧ a < n ∧ gA t n a lo hi = a + 1) := by
  have hg := gV_b t n a lo hi
  by_cases h : a < n ∧ lo ≤ t a - 48 ∧ t a - 48 ≤ hi
  · have e : gU t n a lo hi = t a - 48 := if_pos h
    omega
  · have e : gU t n a lo hi = -1 := if_neg h
    omega
def agW (t : Int → Int) (n a : Int) : Int := if agV t n a = -5 then -1 else agV t n a
theorem agW_b {t : Int → Int} {n a : Int} : (agW t n a = -1 ∧ agV t n a = -5 ∧ agA t n a = a) ∨ (agW t n a = agV t n a ∧ 0 ≤ agV t n a ∧ agV t n a ≤ 110 ∧ a + 1 ≤ agA t n a ∧ agA t n a ≤ n) := by
  have h := ag_b (t := t) (n := n) (a := a)
  unfold agW
  split <;> omega
set_option maxHeartbeats 4000000 in
theorem tX7_isSign (l : Launch) (G : gG) (b : Nat) (C S : gM) (t : Int → Int) (n k u z : Int) (ht : S 584 = t) (hn : S 578 8 = n) (hb : TxB t n) (hk : 0 ≤ k ∧ k ≤ 60) (hu : 0 ≤ u ∧ u < 65536) (hz : 0 ≤ z ∧ z < 65536) : Ct l G b yX7_isSign cX7_isSign 4 (some .boolean) rmX7_isSign [.ref (ad b (578)), .int (iI (k)), .int (iI (u)), .int (iI (z))] 586 (wM G b C S) (RI G b C S (fun v => (v = 1 ∧ k < n ∧ u ≤ t k ∧ t k ≤ z) ∨ (v = 0 ∧ ¬ (k < n ∧ u ≤ t k ∧ t k ≤ z)))) := by
  refine CtK_of (by decide) (Nat.le_of_ble_eq_true rfl) q829 ?_
  intro x hl hB hE _
  subst hl
  show YM x G b 0 0 C S 0 [(0, .ref (ad b (578))), (1, .int (iI (k))), (2, .int (iI (u))), (3, .int (iI (z)))] []
  have hn60 := hb.1
  refine y_iload_n hB 1 dX7_isSign_0 rfl rfl ?_
  refine y_aload_n hB 0 dX7_isSign_1 rfl rfl ?_
  refine gt_7_8 hB (by decide) (t1 := S 578 8) rfl dX7_isSign_2 ?_
  refine y_icmp_ge hB 32 dX7_isSign_5 (by decide) (by omega) (by omega) (fun c_5 => ?_) (fun c_5 => ?_)
  · refine y_iconst (v := 0) hB dX7_isSign_32 rfl ?_
    exact m_ri hB hE dX7_isSign_33 rfl (by omega)
  · have hc : S 584 k = t k := by rw [ht]
    have hcb := hb.2 k (by omega) (by omega)
    refine y_aload_n hB 0 dX7_isSign_8 rfl rfl ?_
    refine gt_7_7 hB (by decide) (t1 := 584) (by omega) dX7_isSign_9 ?_
    refine y_iload_n hB 1 dX7_isSign_12 rfl rfl ?_
    refine ald_26 hB (by decide) (t1 := S 584 k) (by omega) rfl dX7_isSign_13 ?_
    refine y_iload_n hB 2 dX7_isSign_14 rfl rfl ?_
    refine y_icmp_lt hB 32 dX7_isSign_15 (by decide) (by omega) (by omega) (fun c_15 => ?_) (fun c_15 => ?_)
    · refine y_iconst (v := 0) hB dX7_isSign_32 rfl ?_
      exact m_ri hB hE dX7_isSign_33 rfl (by omega)
    · refine y_aload_n hB 0 dX7_isSign_18 rfl rfl ?_
      refine gt_7_7 hB (by decide) (t1 := 584) (by omega) dX7_isSign_19 ?_
      refine y_iload_n hB 1 dX7_isSign_22 rfl rfl ?_
      refine ald_26 hB (by decide) (t1 := S 584 k) (by omega) rfl dX7_isSign_23 ?_
      refine y_iload_n hB 3 dX7_isSign_24 rfl rfl ?_
      refine y_icmp_gt hB 32 dX7_isSign_25 (by decide) (by omega) (by omega) (fun c_25 => ?_) (fun c_25 => ?_)
      · refine y_iconst (v := 0) hB dX7_isSign_32 rfl ?_
        exact m_ri hB hE dX7_isSign_33 rfl (by omega)
      · refine y_iconst (v := 1) hB dX7_isSign_28 rfl ?_
        refine y_goto hB 33 dX7_isSign_29 (by decide) ?_
        exact m_ri hB hE dX7_isSign_33 rfl (by omega)
set_option maxHeartbeats 4000000 in
theorem tX7_accepts (l : Launch) (G : gG) (b : Nat) (C S : gM) (t : Int → Int) (n a u : Int) (htx : TyS S t n a) (hb : TxB t n) (ha0 : 0 ≤ a ∧ a ≤ 60) (hu : 0 ≤ u ∧ u < 65536) : Ct l G b yX7_accepts cX7_accepts 3 (some .boolean) rmX7_accepts [.ref (ad b (578)), .int (iI (u))] 586 (wM G b C S) (SI G b C (fun v S' => v = hT t n a u ∧ S' = up2 S 578 12 (hA t n a u))) := by
  refine CtK_of (by decide) (Nat.le_of_ble_eq_true rfl) q833 ?_
  intro x hl hB hE _
  subst hl
  show YM x G b 0 0 C S 0 [(0, .ref (ad b (578))), (1, .int (iI (u)))] []
  obtain ⟨ht, hn, ha⟩ := id htx
  have hn60 := hb.1
  refine y_aload_n hB 0 dX7_accepts_0 rfl rfl ?_
  refine y_aload_n hB 0 dX7_accepts_1 rfl rfl ?_
  refine gt_7_12 hB (by decide) (t1 := S 578 12) rfl dX7_accepts_2 ?_
  refine y_iload_n hB 1 dX7_accepts_5 rfl rfl ?_
  refine y_iload_n hB 1 dX7_accepts_6 rfl rfl ?_
  refine m_V hB msX7_isSign q826 (tX7_isSign _ G b C S t n (S 578 12) u u  (htx).1 (htx).2.1 hb (by omega) (by omega) (by omega)) (t := 20) (by decide) (by decide) rfl rfl rfl rfl rfl ⟨Nat.le_of_ble_eq_true rfl, Nat.le_of_ble_eq_true rfl⟩ (Nat.le_of_ble_eq_true rfl) ⟨rfl, rfl⟩ ⟨Nat.le_of_ble_eq_true rfl, Nat.le_of_ble_eq_true rfl⟩ dX7_accepts_7 (k_RI (fun v_7 h_7 => ?_))
  rw [ha] at h_7
  have hg := hT_b t n a u
  refine y_istore_n (lv' := [(2, .int (iI (v_7))), (0, .ref (ad b (578))), (1, .int (iI (u)))]) hB dX7_accepts_10 rfl (by decide) rfl ?_
  refine y_aload_n hB 1 dX7_accepts_11 rfl rfl ?_
  refine y_dup hB dX7_accepts_12 rfl ?_
  refine gt_7_12 hB (by decide) (t1 := S 578 12) rfl dX7_accepts_13 ?_
  refine y_iload_n hB 0 dX7_accepts_16 rfl rfl ?_
  refine y_if_eq hB 24 dX7_accepts_17 (by decide) (by omega) (fun c_17 => ?_) (fun c_17 => ?_)
  · refine y_iconst (v := 0) hB dX7_accepts_24 rfl ?_
    refine y_iadd (t := S 578 12) hB dX7_accepts_25 (by omega) ?_
    refine pt_7_12 hB (by decide) dX7_accepts_26 ?_
    refine y_iload_n hB 0 dX7_accepts_29 rfl rfl ?_
    exact m_si hB hE dX7_accepts_30 (by rcases h_7 with g | g <;> rw [g.1] <;> rfl) (⟨by omega, by rw [show hA t n a u = S 578 12 by omega]⟩)
  · refine y_iconst (v := 1) hB dX7_accepts_20 rfl ?_
    refine y_goto hB 25 dX7_accepts_21 (by decide) ?_
    refine y_iadd (t := S 578 12 + 1) hB dX7_accepts_25 (by omega) ?_
    refine pt_7_12 hB (by decide) dX7_accepts_26 ?_
    refine y_iload_n hB 0 dX7_accepts_29 rfl rfl ?_
    exact m_si hB hE dX7_accepts_30 (by rcases h_7 with g | g <;> rw [g.1] <;> rfl) (⟨by omega, by rw [show hA t n a u = S 578 12 + 1 by omega]⟩)
set_option maxHeartbeats 4000000 in
theorem tX7_digit (l : Launch) (G : gG) (b : Nat) (C S : gM) (t : Int → Int) (n a u z lo hi : Int) (htx : TyS S t n a) (hb : TxB t n) (ha0 : 0 ≤ a ∧ a ≤ 60) (hu : lo + 48 = u) (hz : hi + 48 = z) (hl : 0 ≤ lo ∧ lo ≤ 9) (hh : 0 ≤ hi ∧ hi ≤ 9) : Ct l G b yX7_digit cX7_digit 3 (some .int) rmX7_digit [.ref (ad b (578)), .int (iI (u)), .int (iI (z))] 586 (wM G b C S) (SI G b C (fun v S' => v = gU t n a lo hi ∧ S' = up2 S 578 12 (gA t n a lo hi))) := by
  refine CtK_of (by decide) (Nat.le_of_ble_eq_true rfl) q825 ?_
  intro x hl hB hE _
  subst hl
  show YM x G b 0 0 C S 0 [(0, .ref (ad b (578))), (1, .int (iI (u))), (2, .int (iI (z)))] []
  obtain ⟨ht, hn, ha⟩ := id htx
  have hn60 := hb.1
  refine y_aload_n hB 0 dX7_digit_0 rfl rfl ?_
  refine y_aload_n hB 0 dX7_digit_1 rfl rfl ?_
  refine gt_7_12 hB (by decide) (t1 := S 578 12) rfl dX7_digit_2 ?_
  refine y_iload_n hB 1 dX7_digit_5 rfl rfl ?_
  refine y_iload_n hB 2 dX7_digit_6 rfl rfl ?_
  refine m_V hB msX7_isSign q826 (tX7_isSign _ G b C S t n (S 578 12) u z  (htx).1 (htx).2.1 hb (by omega) (by omega) (by omega)) (t := 20) (by decide) (by decide) rfl rfl rfl rfl rfl ⟨Nat.le_of_ble_eq_true rfl, Nat.le_of_ble_eq_true rfl⟩ (Nat.le_of_ble_eq_true rfl) ⟨rfl, rfl⟩ ⟨Nat.le_of_ble_eq_true rfl, Nat.le_of_ble_eq_true rfl⟩ dX7_digit_7 (k_RI (fun v_7 h_7 => ?_))
  rw [ha] at h_7
  have hg := gU_b t n a lo hi
  have hc : S 584 (S 578 12) = t a := by rw [ht, ha]
  refine y_if_ne hB 15 dX7_digit_10 (by decide) (by omega) (fun c_10 => ?_) (fun c_10 => ?_)
  · have hcb := hb.2 a (by omega) (by omega)
    refine y_aload_n hB 0 dX7_digit_15 rfl rfl ?_
    refine y_dup hB dX7_digit_16 rfl ?_
    refine gt_7_12 hB (by decide) (t1 := S 578 12) rfl dX7_digit_17 ?_
    refine y_iconst (v := 1) hB dX7_digit_20 rfl ?_
    refine y_iadd (t := S 578 12 + 1) hB dX7_digit_21 (by omega) ?_
    refine pt_7_12 hB (by decide) dX7_digit_22 ?_
    refine y_aload_n hB 0 dX7_digit_25 rfl rfl ?_
    refine gt_7_7 hB (by decide) (t1 := 584) (by omega) dX7_digit_26 ?_
    refine y_aload_n hB 0 dX7_digit_29 rfl rfl ?_
    refine gt_7_12 hB (by decide) (t1 := S 578 12 + 1) (rd_hit (by omega) (by omega)) dX7_digit_30 ?_
    refine y_iconst (v := 1) hB dX7_digit_33 rfl ?_
    refine y_isub (t := S 578 12) hB dX7_digit_34 (by omega) ?_
    refine ald_26 hB (by decide) (t1 := S 584 (S 578 12)) (by omega) (rd_k (by omega)) dX7_digit_35 ?_
    refine y_bipush (v := 48) hB dX7_digit_36 (by decide) ?_
    refine y_isub (t := S 584 (S 578 12) - 48) hB dX7_digit_38 (by omega) ?_
    exact m_si hB hE dX7_digit_39 rfl (⟨by omega, by rw [show gA t n a lo hi = S 578 12 + 1 by omega]⟩)
  · refine y_iconst (v := -1) hB dX7_digit_13 rfl ?_
    exact m_si hB hE dX7_digit_14 rfl (⟨by omega, by rw [show gA t n a lo hi = S 578 12 by omega]; exact (up2_id S 578 12).symm⟩)
set_option maxHeartbeats 4000000 in
theorem tX7_age (l : Launch) (G : gG) (b : Nat) (C S : gM) (t : Int → Int) (n a : Int) (htx : TyS S t n a) (hb : TxB t n) (ha0 : 0 ≤ a ∧ a ≤ 60) : Ct l G b yX7_age cX7_age 2 (some .int) rmX7_age [.ref (ad b (578))] 586 (wM G b C S) (SI G b C (fun v S' => v = agW t n a ∧ S' = up2 S 578 12 (agA t n a))) := by
  refine CtK_of (by decide) (Nat.le_of_ble_eq_true rfl) q821 ?_
  intro x hl hB hE _
  subst hl
  show YM x G b 0 0 C S 0 [(0, .ref (ad b (578)))] []
  obtain ⟨ht, hn, ha⟩ := id htx
  have hn60 := hb.1
  refine y_aload_n hB 0 dX7_age_0 rfl rfl ?_
  refine y_bipush (v := 48) hB dX7_age_1 (by decide) ?_
  refine y_bipush (v := 57) hB dX7_age_3 (by decide) ?_
  refine m_V hB msX7_digit q822 (tX7_digit _ G b C S t n a 48 57 0 9 (htx) hb (by omega) (by omega) (by omega) (by omega) (by omega)) (t := 20) (by decide) (by decide) rfl rfl rfl rfl rfl ⟨Nat.le_of_ble_eq_true rfl, Nat.le_of_ble_eq_true rfl⟩ (Nat.le_of_ble_eq_true rfl) ⟨rfl, rfl⟩ ⟨Nat.le_of_ble_eq_true rfl, Nat.le_of_ble_eq_true rfl⟩ dX7_age_5 (k_SI (fun v_5 S_5 h_5 => ?_))
  obtain ⟨rfl, rfl⟩ := h_5
  have hg_5 := gU_b t n a 0 9
  refine y_istore_n (lv' := [(1, .int (iI (gU t n a 0 9))), (0, .ref (ad b (578)))]) hB dX7_age_8 rfl (by decide) rfl ?_
  have LOOP_9 : ∀ (fu : Nat) (v w p i : Int), (1 ≤ i ∧ i ≤ 3) → (0 ≤ p ∧ p ≤ 60) → ((w = -5 ∧ v = -1) ∨ (w = v ∧ 0 ≤ v ∧ v ≤ 110)) → (i = 1 ∨ (i = 2 ∧ 10 ≤ v) ∨ (i = 3 ∧ 100 ≤ v)) → (i = 1 → aV t n (aV t n w p) (aA t n w p) = agV t n a ∧ aA t n (aV t n w p) (aA t n w p) = agA t n a) → (i = 2 → aV t n w p = agV t n a ∧ aA t n w p = agA t n a) → (i = 3 → w = agV t n a ∧ p = agA t n a) → 3 - i < (fu : Int) → YM x G b 0 0 C (up2 S 578 12 p) 9 [(0, .ref (ad b (578))), (1, .int (iI (v)))] [] := by
    intro fu
    induction fu with
    | zero => intro v w p i hi hp hw hge h1 h2 h3 hm_9; exfalso; omega
    | succ fu ih_9 =>
      intro v w p i hi hp hw hge h1 h2 h3 hm_9
      have hc : S 584 p = t p := by rw [ht]
      refine y_iload_n hB 1 dX7_age_9 rfl rfl ?_
      refine y_if_le hB 81 dX7_age_10 (by decide) (by omega) (fun c_10 => ?_) (fun c_10 => ?_)
      · have hnc : ¬ aC t n w p := fun z => by have h9 := z.1; omega
        refine y_iload_n hB 1 dX7_age_81 rfl rfl ?_
        exact m_si hB hE dX7_age_82 rfl (by have hfin := ag_fin hi h1 h2 h3 (Or.inr hnc); have hab := ag_b (t := t) (n := n) (a := a); rw [← hfin.2]; refine ⟨?_, rfl⟩; unfold agW; rw [← hfin.1]; rcases hw with g | g; rw [if_pos g.1]; exact g.2; rw [if_neg (by omega)]; exact g.1.symm)
      · refine y_aload_n hB 0 dX7_age_13 rfl rfl ?_
        refine y_aload_n hB 0 dX7_age_14 rfl rfl ?_
        refine gt_7_12 hB (by decide) (t1 := p) (rd_hit (by omega) (by omega)) dX7_age_15 ?_
        refine y_bipush (v := 48) hB dX7_age_18 (by decide) ?_
        refine y_bipush (v := 57) hB dX7_age_20 (by decide) ?_
        refine m_V hB msX7_isSign q826 (tX7_isSign _ G b C (up2 S 578 12 p) t n p 48 57  (TyS_at (htx)).1 (TyS_at (htx)).2.1 hb (by omega) (by omega) (by omega)) (t := 20) (by decide) (by decide) rfl rfl rfl rfl rfl ⟨Nat.le_of_ble_eq_true rfl, Nat.le_of_ble_eq_true rfl⟩ (Nat.le_of_ble_eq_true rfl) ⟨rfl, rfl⟩ ⟨Nat.le_of_ble_eq_true rfl, Nat.le_of_ble_eq_true rfl⟩ dX7_age_22 (k_RI (fun v_22 h_22 => ?_))
        refine y_if_eq hB 81 dX7_age_25 (by decide) (by omega) (fun c_25 => ?_) (fun c_25 => ?_)
        · have hnc : ¬ aC t n w p := fun z => by have h9 := z.2; omega
          refine y_iload_n hB 1 dX7_age_81 rfl rfl ?_
          exact m_si hB hE dX7_age_82 rfl (by have hfin := ag_fin hi h1 h2 h3 (Or.inr hnc); have hab := ag_b (t := t) (n := n) (a := a); rw [← hfin.2]; refine ⟨?_, rfl⟩; unfold agW; rw [← hfin.1]; rcases hw with g | g; rw [if_pos g.1]; exact g.2; rw [if_neg (by omega)]; exact g.1.symm)
        · have hcb := hb.2 p (by omega) (by omega)
          refine y_bipush (v := 10) hB dX7_age_28 (by decide) ?_
          refine y_iload_n hB 1 dX7_age_30 rfl rfl ?_
          refine y_imul (t := 10 * v) hB dX7_age_31 (by omega) ?_
          refine y_aload_n hB 0 dX7_age_32 rfl rfl ?_
          refine gt_7_7 hB (by decide) (t1 := 584) (by omega) dX7_age_33 ?_
          refine y_aload_n hB 0 dX7_age_36 rfl rfl ?_
          refine gt_7_12 hB (by decide) (t1 := p) (rd_hit (by omega) (by omega)) dX7_age_37 ?_
          refine ald_26 hB (by decide) (t1 := S 584 p) (by omega) (rd_k (by omega)) dX7_age_40 ?_
          refine y_iadd (t := S 584 p + 10 * v) hB dX7_age_41 (by omega) ?_
          refine y_bipush (v := 48) hB dX7_age_42 (by decide) ?_
          refine y_isub (t := S 584 p + 10 * v - 48) hB dX7_age_44 (by omega) ?_
          refine y_bipush (v := 110) hB dX7_age_45 (by decide) ?_
          refine y_icmp_gt hB 81 dX7_age_47 (by decide) (by omega) (by omega) (fun c_47 => ?_) (fun c_47 => ?_)
          · have hnc : ¬ aC t n w p := fun z => by have h9 := z.2.2.2.2; have h8 := z.1; omega
            refine y_iload_n hB 1 dX7_age_81 rfl rfl ?_
            exact m_si hB hE dX7_age_82 rfl (by have hfin := ag_fin hi h1 h2 h3 (Or.inr hnc); have hab := ag_b (t := t) (n := n) (a := a); rw [← hfin.2]; refine ⟨?_, rfl⟩; unfold agW; rw [← hfin.1]; rcases hw with g | g; rw [if_pos g.1]; exact g.2; rw [if_neg (by omega)]; exact g.1.symm)
          · have hwv : w = v := by omega
            have hk := aC_y (t := t) (n := n) (v := w) (a := p) ⟨by omega, by omega, by omega, by omega, by omega⟩
            have hke : 10 * w + (t p - 48) = S 584 p + 10 * v - 48 := by omega
            rw [hke] at hk
            refine y_bipush (v := 10) hB dX7_age_50 (by decide) ?_
            refine y_iload_n hB 1 dX7_age_52 rfl rfl ?_
            refine y_imul (t := 10 * v) hB dX7_age_53 (by omega) ?_
            refine y_aload_n hB 0 dX7_age_54 rfl rfl ?_
            refine gt_7_7 hB (by decide) (t1 := 584) (by omega) dX7_age_55 ?_
            refine y_aload_n hB 0 dX7_age_58 rfl rfl ?_
            refine gt_7_12 hB (by decide) (t1 := p) (rd_hit (by omega) (by omega)) dX7_age_59 ?_
            refine ald_26 hB (by decide) (t1 := S 584 p) (by omega) (rd_k (by omega)) dX7_age_62 ?_
            refine y_iadd (t := S 584 p + 10 * v) hB dX7_age_63 (by omega) ?_
            refine y_bipush (v := 48) hB dX7_age_64 (by decide) ?_
            refine y_isub (t := S 584 p + 10 * v - 48) hB dX7_age_66 (by omega) ?_
            refine y_istore_n (lv' := [(1, .int (iI (S 584 p + 10 * v - 48))), (0, .ref (ad b (578)))]) hB dX7_age_67 rfl (by decide) rfl ?_
            refine y_aload_n hB 1 dX7_age_68 rfl rfl ?_
            refine y_dup hB dX7_age_69 rfl ?_
            refine gt_7_12 hB (by decide) (t1 := p) (rd_hit (by omega) (by omega)) dX7_age_70 ?_
            refine y_iconst (v := 1) hB dX7_age_73 rfl ?_
            refine y_iadd (t := p + 1) hB dX7_age_74 (by omega) ?_
            refine pt_7_12 hB (by decide) dX7_age_75 ?_
            refine y_goto hB 9 dX7_age_78 (by decide) ?_
            refine y_sub (lv' := [(0, .ref (ad b (578))), (1, .int (iI (S 584 p + 10 * v - 48)))]) [1, 0] rfl ?_
            rw [up2_2]
            exact ih_9 (S 584 p + 10 * v - 48) (S 584 p + 10 * v - 48) (p + 1) (i + 1) (by omega) (by omega) (Or.inr ⟨rfl, by omega, by omega⟩) (by omega) (fun h => (by omega)) (fun h => (by have h9 := h1 (by omega); rw [hk.1, hk.2] at h9; exact h9)) (fun h => (by have h9 := h2 (by omega); rw [hk.1, hk.2] at h9; exact h9)) (by omega)
  refine y_sub (lv' := [(0, .ref (ad b (578))), (1, .int (iI (gU t n a 0 9)))]) [1, 0] rfl ?_
  exact LOOP_9 (((3 : Int)).toNat + 1) (gU t n a 0 9) (gV t n a 0 9) (gA t n a 0 9) 1 (by omega) (by omega) (by omega) (Or.inl rfl) (fun _ => ⟨rfl, rfl⟩) (fun h => absurd h (by decide)) (fun h => absurd h (by decide)) (by omega)
