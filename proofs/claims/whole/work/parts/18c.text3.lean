/-! all persons of a text -/
def PrI (C CM : gM) (t : Int → Int) (n d k p : Int) (R : Int → PR) : Prop := TxS CM t n p ∧ CM 507 3 = k ∧ (∀ j : Int, 0 ≤ j → j < k → Row CM (4 * j + 510) (R j) d) ∧ ∀ x : Int, (x < 507 ∨ x = 508 ∨ x = 509 ∨ 570 ≤ x) → CM x = C x
def RdP (C C' : gM) (t : Int → Int) (n d v : Int) : Prop := v = (txP t n).ok ∧ TxS C' t n (txP t n).a ∧ (v = 1 → C' 507 3 = (txP t n).k ∧ ∀ j : Int, 0 ≤ j → j < (txP t n).k → Row C' (4 * j + 510) ((txP t n).r j) d) ∧ ∀ x : Int, (x < 507 ∨ x = 508 ∨ x = 509 ∨ 570 ≤ x) → C' x = C x
section
variable {C CM C' : gM} {t : Int → Int} {n d k p p' v : Int} {R : Int → PR} {f : Nat}
theorem Row_k {q x j y : Int} {r : PR} (h : Row CM q r d) (hx : x < q ∨ q + 3 < x) : Row (up2 CM x j y) q r d := by
  unfold Row
  rw [up2_ne _ _ _ (by omega), up2_ne _ _ _ (by omega), up2_ne _ _ _ (by omega), up2_ne _ _ _ (by omega)]
  exact h
theorem Row_e {q : Int} {r : PR} (h : Row CM q r d) (e : ∀ x, q ≤ x → x ≤ q + 3 → C' x = CM x) : Row C' q r d := by
  unfold Row
  rw [e q (by omega) (by omega), e (q + 1) (by omega) (by omega), e (q + 2) (by omega) (by omega), e (q + 3) (by omega) (by omega)]
  exact h
theorem PrI_at (h : PrI C CM t n d k p R) : PrI C (up2 CM 507 4 p') t n d k p' R := ⟨TxS_at h.1, by rw [rd_i (by omega)]; exact h.2.1, fun j a1 a2 => Row_k (h.2.2.1 j a1 a2) (by omega), fun x hx => by rw [up2_ne _ _ _ (by omega)]; exact h.2.2.2 x hx⟩
theorem PrI_s (h : PrI C CM t n d k p R) (hk : 0 ≤ k ∧ k < 15) (hs : PsI (up2 CM 507 3 (k + 1)) C' t n (4 * k + 510) d (pP t n p) v) (hv : v = 1) : PrI C C' t n d (k + 1) (pP t n p).a (fun i => if i = k then pP t n p else R i) := by
  obtain ⟨h1, h2, h3, h4⟩ := h
  obtain ⟨g1, g2, g3, g4, g5⟩ := hs
  refine ⟨g2, by rw [g5, rd_hit rfl rfl], fun j a1 a2 => ?_, fun x hx => ?_⟩
  · by_cases hj : j = k
    · dsimp only
      rw [if_pos hj, hj]
      exact g3 hv
    · dsimp only
      rw [if_neg hj]
      exact Row_e (h3 j a1 (by omega)) (fun x b1 b2 => by rw [g4 x (by omega) (by omega), up2_ne _ _ _ (by omega)])
  · rw [g4 x (by omega) (by omega), up2_ne _ _ _ (by omega)]
    exact h4 x hx
theorem psP_bad (h : (pP t n p).ok = 0) : psP t n (f + 1) p k R = ⟨0, (pP t n p).a, k, R⟩ := by rw [psP, if_pos h]
theorem psP_ok (h : ¬ (pP t n p).ok = 0) (h2 : hT t n (pP t n p).a 59 = 1) : psP t n (f + 1) p k R = psP t n f (hA t n (pP t n p).a 59) (k + 1) (fun i => if i = k then pP t n p else R i) := by rw [psP, if_neg h, if_pos h2]
theorem psP_end (h : ¬ (pP t n p).ok = 0) (h2 : hT t n (pP t n p).a 59 = 0) : psP t n (f + 1) p k R = ⟨if hA t n (pP t n p).a 59 = n then 1 else 0, hA t n (pP t n p).a 59, k + 1, fun i => if i = k then pP t n p else R i⟩ := by
  have hg := hT_b t n (pP t n p).a 59
  rw [psP, if_neg h, if_neg (by omega), show hA t n (pP t n p).a 59 = (pP t n p).a by omega]
theorem RdP_bad (h : PrI C CM t n d k p R) (hk : 0 ≤ k ∧ k < 15) (hs : PsI (up2 CM 507 3 (k + 1)) C' t n (4 * k + 510) d (pP t n p) v) (hv : v = 0) (hr : psP t n (15 - k).toNat p k R = txP t n) : RdP C C' t n d 0 := by
  obtain ⟨h1, h2, h3, h4⟩ := h
  obtain ⟨g1, g2, g3, g4, g5⟩ := hs
  have e : txP t n = ⟨0, (pP t n p).a, k, R⟩ := by rw [← hr, show (15 - k).toNat = (14 - k).toNat + 1 by omega, psP_bad (by omega)]
  refine ⟨by rw [e], by rw [e]; exact g2, fun h => absurd h (by decide), fun x hx => by rw [g4 x (by omega) (by omega), up2_ne _ _ _ (by omega)]; exact h4 x hx⟩
theorem RdP_0 (h : PrI C CM t n d k p R) (e : txP t n = ⟨if p = n then 1 else 0, p, k, R⟩) (hp : ¬ p = n) : RdP C CM t n d 0 := by
  rw [if_neg hp] at e
  refine ⟨by rw [e], by rw [e]; exact h.1, fun h => absurd h (by decide), h.2.2.2⟩
theorem RdP_1 (h : PrI C CM t n d k p R) (e : txP t n = ⟨if p = n then 1 else 0, p, k, R⟩) (hp : p = n) : RdP C CM t n d 1 := by
  rw [if_pos hp] at e
  exact ⟨by rw [e], by rw [e]; exact h.1, fun _ => ⟨by rw [e]; exact h.2.1, fun j a1 a2 => by rw [e] at a2 ⊢; exact h.2.2.1 j a1 a2⟩, h.2.2.2⟩
theorem RdP_15 (h : PrI C CM t n d k p R) (e : psP t n (15 - k).toNat p k R = txP t n) (hk : 15 ≤ k) : RdP C CM t n d 0 := by
  rw [show (15 - k).toNat = 0 by omega] at e
  exact ⟨by rw [← e]; rfl, by rw [← e]; exact h.1, fun h => absurd h (by decide), h.2.2.2⟩
end
set_option maxHeartbeats 4000000 in
theorem tX4_readPersons (l : Launch) (G : gG) (b : Nat) (C S : gM) (t : Int → Int) (n a d : Int) (htx : TxS C t n a) (hb : TxB t n) (ha0 : 0 ≤ a ∧ a ≤ 60) : Ct l G b yX4_readPersons cX4_readPersons 3 (some .boolean) rmX4_readPersons [.ref (ad b (507)), .int (iI (d))] 586 (wM G b C S) (WI G b S (fun v C' => RdP C C' t n d v)) := by
  refine CtK_of (by decide) (Nat.le_of_ble_eq_true rfl) q285 ?_
  intro x hl hB hE _
  subst hl
  show YM x G b 0 0 C S 0 [(0, .ref (ad b (507))), (1, .int (iI (d)))] []
  obtain ⟨ht, hn, ha⟩ := id htx
  have hn60 := hb.1
  refine y_aload_n hB 0 dX4_readPersons_0 rfl rfl ?_
  refine y_iconst (v := 0) hB dX4_readPersons_1 rfl ?_
  refine pt_4_4 hB (by decide) dX4_readPersons_2 ?_
  refine y_aload_n hB 0 dX4_readPersons_5 rfl rfl ?_
  refine y_iconst (v := 0) hB dX4_readPersons_6 rfl ?_
  refine pt_4_3 hB (by decide) dX4_readPersons_7 ?_
  refine y_iconst (v := 1) hB dX4_readPersons_10 rfl ?_
  refine y_istore_n (lv' := [(2, .int (iI (1))), (0, .ref (ad b (507))), (1, .int (iI (d)))]) hB dX4_readPersons_11 rfl (by decide) rfl ?_
  have LOOP_12 : ∀ (fu : Nat) (k m p : Int) (R : Int → PR) (CM : gM), (0 ≤ k ∧ k ≤ 15) → (m = 0 ∨ m = 1) → (0 ≤ p ∧ p ≤ 60) → (PrI C CM t n d k p R) → (m = 1 → psP t n (15 - k).toNat p k R = txP t n) → (m = 0 → txP t n = ⟨if p = n then 1 else 0, p, k, R⟩) → 15 - k < (fu : Int) → YM x G b 0 0 CM S 12 [(0, .ref (ad b (507))), (1, .int (iI (d))), (2, .int (iI (m)))] [] := by
    intro fu
    induction fu with
    | zero => intro k m p R CM hk hm hp hI hrun hend hm_12; exfalso; omega
    | succ fu ih_12 =>
      intro k m p R CM hk hm hp hI hrun hend hm_12
      obtain ⟨htxM, hk3, hrows, hfr⟩ := id hI
      subst hk3
      have hM1 := htxM.2.1
      have hM4 := htxM.2.2
      have hf15 : CM 507 3 < 15 → (15 - CM 507 3).toNat = (15 - (CM 507 3 + 1)).toNat + 1 := fun _ => (by omega)
      refine y_iload_n hB 2 dX4_readPersons_12 rfl rfl ?_
      refine y_if_eq hB 65 dX4_readPersons_13 (by decide) (by omega) (fun c_13 => ?_) (fun c_13 => ?_)
      · refine y_iload_n hB 2 dX4_readPersons_65 rfl rfl ?_
        refine y_if_ne hB 84 dX4_readPersons_66 (by decide) (by omega) (fun c_66 => ?_) (fun c_66 => ?_)
        · refine y_iconst (v := 0) hB dX4_readPersons_84 rfl ?_
          exact m_wi hB hE dX4_readPersons_85 rfl (by first | exact RdP_0 hI (hend (by omega)) (by omega) | exact RdP_15 hI (hrun (by omega)) (by omega) | exact RdP_1 hI (hend (by omega)) (by omega) | (exfalso; omega))
        · refine y_aload_n hB 0 dX4_readPersons_69 rfl rfl ?_
          refine gt_4_4 hB (by decide) (t1 := CM 507 4) rfl dX4_readPersons_70 ?_
          refine y_aload_n hB 0 dX4_readPersons_73 rfl rfl ?_
          refine gt_4_1 hB (by decide) (t1 := CM 507 1) rfl dX4_readPersons_74 ?_
          refine y_icmp_ne hB 84 dX4_readPersons_77 (by decide) (by omega) (by omega) (fun c_77 => ?_) (fun c_77 => ?_)
          · refine y_iconst (v := 0) hB dX4_readPersons_84 rfl ?_
            exact m_wi hB hE dX4_readPersons_85 rfl (by first | exact RdP_0 hI (hend (by omega)) (by omega) | exact RdP_15 hI (hrun (by omega)) (by omega) | exact RdP_1 hI (hend (by omega)) (by omega) | (exfalso; omega))
          · refine y_iconst (v := 1) hB dX4_readPersons_80 rfl ?_
            refine y_goto hB 85 dX4_readPersons_81 (by decide) ?_
            exact m_wi hB hE dX4_readPersons_85 rfl (by first | exact RdP_0 hI (hend (by omega)) (by omega) | exact RdP_15 hI (hrun (by omega)) (by omega) | exact RdP_1 hI (hend (by omega)) (by omega) | (exfalso; omega))
      · have hpb := pP_b t n p
        refine y_aload_n hB 0 dX4_readPersons_16 rfl rfl ?_
        refine gt_4_3 hB (by decide) (t1 := CM 507 3) rfl dX4_readPersons_17 ?_
        refine y_bipush (v := 15) hB dX4_readPersons_20 (by decide) ?_
        refine y_icmp_ge hB 65 dX4_readPersons_22 (by decide) (by omega) (by omega) (fun c_22 => ?_) (fun c_22 => ?_)
        · refine y_iload_n hB 2 dX4_readPersons_65 rfl rfl ?_
          refine y_if_ne hB 84 dX4_readPersons_66 (by decide) (by omega) (fun c_66 => ?_) (fun c_66 => ?_)
          · refine y_iconst (v := 0) hB dX4_readPersons_84 rfl ?_
            exact m_wi hB hE dX4_readPersons_85 rfl (by first | exact RdP_0 hI (hend (by omega)) (by omega) | exact RdP_15 hI (hrun (by omega)) (by omega) | exact RdP_1 hI (hend (by omega)) (by omega) | (exfalso; omega))
          · refine y_aload_n hB 0 dX4_readPersons_69 rfl rfl ?_
            refine gt_4_4 hB (by decide) (t1 := CM 507 4) rfl dX4_readPersons_70 ?_
            refine y_aload_n hB 0 dX4_readPersons_73 rfl rfl ?_
            refine gt_4_1 hB (by decide) (t1 := CM 507 1) rfl dX4_readPersons_74 ?_
            refine y_icmp_ne hB 84 dX4_readPersons_77 (by decide) (by omega) (by omega) (fun c_77 => ?_) (fun c_77 => ?_)
            · refine y_iconst (v := 0) hB dX4_readPersons_84 rfl ?_
              exact m_wi hB hE dX4_readPersons_85 rfl (by first | exact RdP_0 hI (hend (by omega)) (by omega) | exact RdP_15 hI (hrun (by omega)) (by omega) | exact RdP_1 hI (hend (by omega)) (by omega) | (exfalso; omega))
            · refine y_iconst (v := 1) hB dX4_readPersons_80 rfl ?_
              refine y_goto hB 85 dX4_readPersons_81 (by decide) ?_
              exact m_wi hB hE dX4_readPersons_85 rfl (by first | exact RdP_0 hI (hend (by omega)) (by omega) | exact RdP_15 hI (hrun (by omega)) (by omega) | exact RdP_1 hI (hend (by omega)) (by omega) | (exfalso; omega))
        · refine y_aload_n hB 0 dX4_readPersons_25 rfl rfl ?_
          refine y_dup hB dX4_readPersons_26 rfl ?_
          refine gt_4_3 hB (by decide) (t1 := CM 507 3) rfl dX4_readPersons_27 ?_
          refine y_iconst (v := 1) hB dX4_readPersons_30 rfl ?_
          refine y_iadd (t := CM 507 3 + 1) hB dX4_readPersons_31 (by omega) ?_
          refine pt_4_3 hB (by decide) dX4_readPersons_32 ?_
          refine y_aload_n hB 0 dX4_readPersons_35 rfl rfl ?_
          refine y_aload_n hB 0 dX4_readPersons_36 rfl rfl ?_
          refine y_aload_n hB 0 dX4_readPersons_37 rfl rfl ?_
          refine gt_4_3 hB (by decide) (t1 := CM 507 3 + 1) (rd_hit (by omega) (by omega)) dX4_readPersons_38 ?_
          refine y_iconst (v := 1) hB dX4_readPersons_41 rfl ?_
          refine y_isub (t := CM 507 3) hB dX4_readPersons_42 (by omega) ?_
          have hq_43 : isLife (4 * CM 507 3 + 510) := (by have h9 := life_t (i := CM 507 3) (by omega); rwa [show (509 : Int) + 1 + 4 * (CM 507 3) = 4 * CM 507 3 + 510 by omega] at h9)
          refine m_V hB msX4_readLife q286 (tX4_readLife _ G b (up2 CM 507 3 (CM 507 3 + 1)) S (CM 507 3) (4 * CM 507 3 + 510) (by have h90 : (up2 CM 507 3 (CM 507 3 + 1)) 507 3 = CM 507 3 + 1 := (rd_hit (by omega) (by omega)); omega) (by omega)) (t := 9) (by decide) (by decide) rfl rfl rfl rfl rfl ⟨Nat.le_of_ble_eq_true rfl, Nat.le_of_ble_eq_true rfl⟩ (Nat.le_of_ble_eq_true rfl) ⟨rfl, rfl⟩ ⟨Nat.le_of_ble_eq_true rfl, Nat.le_of_ble_eq_true rfl⟩ dX4_readPersons_43 (k_RR ?_)
          refine y_iload_n hB 1 dX4_readPersons_46 rfl rfl ?_
          refine m_V hB msX4_readPerson q290 (tX4_readPerson _ G b (up2 CM 507 3 (CM 507 3 + 1)) S t n p (4 * CM 507 3 + 510) d (TxS_k (by omega) (htxM)) hb (by omega) hq_43 (by omega)) (t := 9) (by decide) (by decide) rfl rfl rfl rfl rfl ⟨Nat.le_of_ble_eq_true rfl, Nat.le_of_ble_eq_true rfl⟩ (Nat.le_of_ble_eq_true rfl) ⟨rfl, rfl⟩ ⟨Nat.le_of_ble_eq_true rfl, Nat.le_of_ble_eq_true rfl⟩ dX4_readPersons_47 (k_WI (fun v_47 C_47 h_47 => ?_))
          have htx47 := h_47.2.1
          have hv47 := h_47.1
          refine y_if_ne hB 55 dX4_readPersons_50 (by decide) (by omega) (fun c_50 => ?_) (fun c_50 => ?_)
          · refine y_aload_n hB 0 dX4_readPersons_55 rfl rfl ?_
            refine y_bipush (v := 59) hB dX4_readPersons_56 (by decide) ?_
            refine m_V hB msX4_takes q306 (tX4_takes _ G b C_47 S t n ((pP t n p).a) 59 (htx47) hb (by omega) (by omega)) (t := 9) (by decide) (by decide) rfl rfl rfl rfl rfl ⟨Nat.le_of_ble_eq_true rfl, Nat.le_of_ble_eq_true rfl⟩ (Nat.le_of_ble_eq_true rfl) ⟨rfl, rfl⟩ ⟨Nat.le_of_ble_eq_true rfl, Nat.le_of_ble_eq_true rfl⟩ dX4_readPersons_58 (k_WI (fun v_58 C_58 h_58 => ?_))
            obtain ⟨rfl, rfl⟩ := h_58
            have hg_58 := hT_b t n ((pP t n p).a) 59
            refine y_istore_n (lv' := [(2, .int (iI (hT t n ((pP t n p).a) 59))), (0, .ref (ad b (507))), (1, .int (iI (d)))]) hB dX4_readPersons_61 rfl (by decide) rfl ?_
            refine y_goto hB 12 dX4_readPersons_62 (by decide) ?_
            refine y_sub (lv' := [(0, .ref (ad b (507))), (1, .int (iI (d))), (2, .int (iI (hT t n ((pP t n p).a) 59)))]) [1, 2, 0] rfl ?_
            exact ih_12 (CM 507 3 + 1) (hT t n ((pP t n p).a) 59) (hA t n ((pP t n p).a) 59) (fun i => if i = CM 507 3 then pP t n p else R i) _ (by omega) (by omega) (by omega) (PrI_at (PrI_s hI (by omega) h_47 (by omega))) (fun h => (by rw [← hrun (by omega), hf15 (by omega), psP_ok (by omega) h])) (fun h => (by rw [← hrun (by omega), hf15 (by omega), psP_end (by omega) h])) (by omega)
          · refine y_iconst (v := 0) hB dX4_readPersons_53 rfl ?_
            exact m_wi hB hE dX4_readPersons_54 rfl (RdP_bad hI (by omega) h_47 (by omega) (hrun (by omega)))
  refine y_sub (lv' := [(0, .ref (ad b (507))), (1, .int (iI (d))), (2, .int (iI (1)))]) [1, 2, 0] rfl ?_
  exact LOOP_12 (((15 : Int)).toNat + 1) 0 1 0 (fun _ => zPR) _ (by omega) (by omega) (by omega) ⟨TxS_k (by omega) (TxS_at htx), rd_hit rfl rfl, fun j a1 a2 => (by omega), fun x hx => (by rw [up2_ne _ _ _ (by omega), up2_ne _ _ _ (by omega)])⟩ (fun _ => rfl) (fun h => absurd h (by decide)) (by omega)
