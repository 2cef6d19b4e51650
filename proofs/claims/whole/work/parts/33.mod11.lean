/-! the other class: the whole text -/
def frT (S SM : gM) : Prop := (∀ x : Int, x ≠ 578 → x ≠ 585 → SM x = S x) ∧ ∀ j : Int, j ≠ 12 → j ≠ 13 → SM 578 j = S 578 j
def FtI (S SM : gM) (t : Int → Int) (n k p : Int) (r : Int → PR) : Prop := TyS SM t n p ∧ frT S SM ∧ SM 578 13 = k ∧ ∀ j : Int, 0 ≤ j → j < k → RowM SM (20 * j) (r j)
def contP (t : Int → Int) (n p k : Int) (r : Int → PR) : QR := if hT t n p 59 = 1 then psP t n (15 - k).toNat (hA t n p 59) k r else ⟨if p = n then 1 else 0, p, k, r⟩
section
variable {S SM S' : gM} {t : Int → Int} {n a p p' k v : Int} {r : Int → PR}
theorem RowM_e {q : Int} {R : PR} (h : RowM SM q R) (hm : R.m ≤ 8) (e : ∀ j : Int, q ≤ j → j < q + 20 → S' 585 j = SM 585 j) : RowM S' q R := by
  obtain ⟨h1, h2, h3, h4⟩ := h
  refine ⟨(e q (by omega) (by omega)).trans h1, (e (q + 1) (by omega) (by omega)).trans h2, (e (q + 2) (by omega) (by omega)).trans h3, fun j a1 a2 => ?_⟩
  have := h4 j a1 a2
  exact ⟨(e _ (by omega) (by omega)).trans this.1, (e _ (by omega) (by omega)).trans this.2⟩
theorem FtI_at (h : FtI S SM t n k p r) : FtI S (up2 SM 578 12 p') t n k p' r := by
  obtain ⟨h1, h2, h3, h4⟩ := h
  refine ⟨TyS_at h1, ⟨fun x a1 a2 => by rw [up2_ne _ _ _ a1]; exact h2.1 x a1 a2, fun j a1 a2 => by rw [rd_i a1]; exact h2.2 j a1 a2⟩, by rw [rd_i (by omega)]; exact h3, fun j a1 a2 => ?_⟩
  unfold RowM
  rw [up2_ne _ _ _ (by omega)]
  exact h4 j a1 a2
theorem FtI_fr (h : FtI S SM t n k p r) (hr : RpP SM S' t n a k v) : frT S S' := ⟨fun x a1 a2 => (hr.2.2.1.1 x a1 a2).trans (h.2.1.1 x a1 a2), fun j a1 a2 => (hr.2.2.1.2.1 j a1 a2).trans (h.2.1.2 j a1 a2)⟩
theorem FtI_rd (h : FtI S SM t n k p r) (hk : 0 ≤ k) (hm : ∀ j : Int, 0 ≤ j → j < k → (r j).m ≤ 8) (hr : RpP SM S' t n a k v) (hv : v = 1) : FtI S S' t n (k + 1) (pP t n a).a (fun i => if i = k then pP t n a else r i) := by
  have hf := FtI_fr h hr
  obtain ⟨h1, h2, h3, h4⟩ := h
  obtain ⟨r1, r2, r3, r4, r5⟩ := hr
  refine ⟨r2, hf, by omega, fun j a1 a2 => ?_⟩
  by_cases hj : j = k
  · dsimp only
    rw [if_pos hj, hj]
    exact r5 hv
  · dsimp only
    rw [if_neg hj]
    exact RowM_e (h4 j a1 (by omega)) (hm j a1 (by omega)) (fun x b1 b2 => r3.2.2 x (by omega))
theorem pP_end {a : Int} (h : n ≤ a) : (pP t n a).ok = 0 ∧ (pP t n a).a = a := by
  have := pP_b t n a
  refine ⟨?_, by omega⟩
  rcases this.1 with g | g
  · exact g
  · have := this.2.2.2 g
    omega
theorem psP_s {f : Nat} (h : ¬ (pP t n a).ok = 0) (hf : f = (15 - (k + 1)).toNat) : psP t n (f + 1) a k r = contP t n (pP t n a).a (k + 1) (fun i => if i = k then pP t n a else r i) := by
  subst hf
  rw [psP, if_neg h]
  rfl
theorem contP_0 (h : ¬ hT t n p 59 = 1) : contP t n p k r = ⟨if p = n then 1 else 0, p, k, r⟩ := if_neg h
theorem contP_1 (h : hT t n p 59 = 1) : contP t n p k r = psP t n (15 - k).toNat (hA t n p 59) k r := if_pos h
end
/-- what the text is found to be -/
def FoP (S S' : gM) (t : Int → Int) (n v : Int) : Prop := ((v = -1 ∧ (txP t n).ok = 1) ∨ (v = (txP t n).a ∧ (txP t n).ok = 0)) ∧ frT S S' ∧ ((txP t n).ok = 1 → S' 578 13 = (txP t n).k ∧ ∀ j : Int, 0 ≤ j → j < (txP t n).k → RowM S' (20 * j) ((txP t n).r j)) ∧ (0 ≤ S' 578 12 ∧ S' 578 12 ≤ 60)
theorem FoP_good {S SM : gM} {t : Int → Int} {n k p : Int} {r : Int → PR} (h : FtI S SM t n k p r) (hp : 0 ≤ p ∧ p ≤ 60) (hn : p = n) (e : txP t n = contP t n p k r) : FoP S SM t n (-1) := by
  have hg := hT_b t n p 59
  rw [contP_0 (by omega), if_pos hn] at e
  refine ⟨Or.inl ⟨rfl, by rw [e]⟩, h.2.1, fun _ => by rw [e]; exact ⟨h.2.2.1, h.2.2.2⟩, by rw [h.1.2.2]; exact hp⟩
theorem FoP_bad {S SM : gM} {t : Int → Int} {n p : Int} (hf : frT S SM) (hY : TyS SM t n p) (hp : 0 ≤ p ∧ p ≤ 60) (ho : (txP t n).ok = 0) (ha : (txP t n).a = p) : FoP S SM t n p := by
  refine ⟨Or.inr ⟨ha.symm, ho⟩, hf, fun h => by omega, by rw [hY.2.2]; exact hp⟩
set_option maxHeartbeats 4000000 in
theorem tX7_faultOf (l : Launch) (G : gG) (b : Nat) (C S : gM) (t : Int → Int) (n a : Int) (htx : TyS S t n a) (hb : TxB t n) (ha0 : 0 ≤ a ∧ a ≤ 60) : Ct l G b yX7_faultOf cX7_faultOf 2 (some .int) rmX7_faultOf [.ref (ad b (578))] 586 (wM G b C S) (SI G b C (fun v S' => FoP S S' t n v)) := by
  refine CtK_of (by decide) (Nat.le_of_ble_eq_true rfl) q813 ?_
  intro x hl hB hE _
  subst hl
  show YM x G b 0 0 C S 0 [(0, .ref (ad b (578)))] []
  obtain ⟨ht, hn, ha⟩ := id htx
  have hn60 := hb.1
  refine y_aload_n hB 0 dX7_faultOf_0 rfl rfl ?_
  refine y_iconst (v := 0) hB dX7_faultOf_1 rfl ?_
  refine pt_7_12 hB (by decide) dX7_faultOf_2 ?_
  refine y_aload_n hB 0 dX7_faultOf_5 rfl rfl ?_
  refine y_iconst (v := 0) hB dX7_faultOf_6 rfl ?_
  refine pt_7_13 hB (by decide) dX7_faultOf_7 ?_
  refine y_aload_n hB 0 dX7_faultOf_10 rfl rfl ?_
  refine m_V hB msX7_readsPerson q814 (tX7_readsPerson _ G b C (up2 (up2 S 578 12 0) 578 13 0) t n 0 (TyS_k (by omega) (TyS_at (htx))) hb (by omega) (by have h9 : (up2 (up2 S 578 12 0) 578 13 0) 578 13 = 0 := (rd_hit (by omega) (by omega)); omega)) (t := 20) (by decide) (by decide) rfl rfl rfl rfl rfl ⟨Nat.le_of_ble_eq_true rfl, Nat.le_of_ble_eq_true rfl⟩ (Nat.le_of_ble_eq_true rfl) ⟨rfl, rfl⟩ ⟨Nat.le_of_ble_eq_true rfl, Nat.le_of_ble_eq_true rfl⟩ dX7_faultOf_11 (k_SI (fun v_11 S_11 h_11 => ?_))
  have hpb := pP_b t n 0
  have hr_11 := h_11
  have hv_11 := h_11.1
  have h13_11 := h_11.2.2.2.1
  rw [rd_hit rfl rfl] at h13_11
  have hfr_11 : frT S S_11 := ⟨fun x a1 a2 => (by rw [h_11.2.2.1.1 x a1 a2, up2_ne _ _ _ a1, up2_ne _ _ _ a1]), fun j a1 a2 => (by rw [h_11.2.2.1.2.1 j a1 a2, rd_i a2, rd_i a1])⟩
  refine y_istore_n (lv' := [(1, .int (iI (v_11))), (0, .ref (ad b (578)))]) hB dX7_faultOf_14 rfl (by decide) rfl ?_
  have LOOP_15 : ∀ (fu : Nat) (ok k p : Int) (r : Int → PR) (SM : gM), (ok = 0 ∨ ok = 1) → (0 ≤ k ∧ k ≤ 15) → (0 ≤ p ∧ p ≤ 60) → (TyS SM t n p) → (frT S SM) → (SM 578 13 = k) → (ok = 1 → 1 ≤ k ∧ 4 * k - 1 ≤ p ∧ p ≤ n ∧ FtI S SM t n k p r ∧ (∀ j : Int, 0 ≤ j → j < k → (r j).m ≤ 8) ∧ txP t n = contP t n p k r) → (ok = 0 → (txP t n).ok = 0 ∧ (txP t n).a = p) → 16 - k + ok < (fu : Int) → YM x G b 0 0 C SM 15 [(0, .ref (ad b (578))), (1, .int (iI (ok)))] [] := by
    intro fu
    induction fu with
    | zero => intro ok k p r SM hok hk hp htM hfr h13 h1 h0 hm_15; exfalso; omega
    | succ fu ih_15 =>
      intro ok k p r SM hok hk hp htM hfr h13 h1 h0 hm_15
      have hM8 := htM.2.1
      have hM12 := htM.2.2
      refine y_iload_n hB 1 dX7_faultOf_15 rfl rfl ?_
      refine y_if_eq hB 55 dX7_faultOf_16 (by decide) (by omega) (fun c_16 => ?_) (fun c_16 => ?_)
      · refine y_iload_n hB 1 dX7_faultOf_55 rfl rfl ?_
        refine y_if_eq hB 63 dX7_faultOf_56 (by decide) (by omega) (fun c_56 => ?_) (fun c_56 => ?_)
        · refine y_aload_n hB 0 dX7_faultOf_63 rfl rfl ?_
          refine gt_7_12 hB (by decide) (t1 := SM 578 12) rfl dX7_faultOf_64 ?_
          exact m_si hB hE dX7_faultOf_67 rfl (by first | (exfalso; omega) | (rw [hM12]; exact FoP_bad hfr htM hp (h0 (by omega)).1 (h0 (by omega)).2))
        · refine y_iconst (v := -1) hB dX7_faultOf_59 rfl ?_
          refine y_goto hB 67 dX7_faultOf_60 (by decide) ?_
          exact m_si hB hE dX7_faultOf_67 rfl (by first | (exfalso; omega) | exact FoP_good (h1 (by omega)).2.2.2.1 hp (by have h9 := h1 (by omega); omega) (h1 (by omega)).2.2.2.2.2)
      · obtain ⟨hk1, hp4, hpn, hI, hm8, hcont⟩ := h1 (by omega)
        refine y_aload_n hB 0 dX7_faultOf_19 rfl rfl ?_
        refine gt_7_12 hB (by decide) (t1 := SM 578 12) rfl dX7_faultOf_20 ?_
        refine y_aload_n hB 0 dX7_faultOf_23 rfl rfl ?_
        refine gt_7_8 hB (by decide) (t1 := SM 578 8) rfl dX7_faultOf_24 ?_
        refine y_icmp_ge hB 55 dX7_faultOf_27 (by decide) (by omega) (by omega) (fun c_27 => ?_) (fun c_27 => ?_)
        · refine y_iload_n hB 1 dX7_faultOf_55 rfl rfl ?_
          refine y_if_eq hB 63 dX7_faultOf_56 (by decide) (by omega) (fun c_56 => ?_) (fun c_56 => ?_)
          · refine y_aload_n hB 0 dX7_faultOf_63 rfl rfl ?_
            refine gt_7_12 hB (by decide) (t1 := SM 578 12) rfl dX7_faultOf_64 ?_
            exact m_si hB hE dX7_faultOf_67 rfl (by first | (exfalso; omega) | (rw [hM12]; exact FoP_bad hfr htM hp (h0 (by omega)).1 (h0 (by omega)).2))
          · refine y_iconst (v := -1) hB dX7_faultOf_59 rfl ?_
            refine y_goto hB 67 dX7_faultOf_60 (by decide) ?_
            exact m_si hB hE dX7_faultOf_67 rfl (by first | (exfalso; omega) | exact FoP_good (h1 (by omega)).2.2.2.1 hp (by have h9 := h1 (by omega); omega) (h1 (by omega)).2.2.2.2.2)
        · refine y_aload_n hB 0 dX7_faultOf_30 rfl rfl ?_
          refine y_bipush (v := 59) hB dX7_faultOf_31 (by decide) ?_
          refine m_V hB msX7_accepts q830 (tX7_accepts _ G b C SM t n p 59 (htM) hb (by omega) (by omega)) (t := 20) (by decide) (by decide) rfl rfl rfl rfl rfl ⟨Nat.le_of_ble_eq_true rfl, Nat.le_of_ble_eq_true rfl⟩ (Nat.le_of_ble_eq_true rfl) ⟨rfl, rfl⟩ ⟨Nat.le_of_ble_eq_true rfl, Nat.le_of_ble_eq_true rfl⟩ dX7_faultOf_33 (k_SI (fun v_33 S_33 h_33 => ?_))
          obtain ⟨rfl, rfl⟩ := h_33
          have hg_33 := hT_b t n p 59
          refine y_if_eq hB 50 dX7_faultOf_36 (by decide) (by omega) (fun c_36 => ?_) (fun c_36 => ?_)
          · refine y_iconst (v := 0) hB dX7_faultOf_50 rfl ?_
            refine y_istore_n (lv' := [(1, .int (iI (0))), (0, .ref (ad b (578)))]) hB dX7_faultOf_51 rfl (by decide) rfl ?_
            refine y_goto hB 15 dX7_faultOf_52 (by decide) ?_
            refine y_sub (lv' := [(0, .ref (ad b (578))), (1, .int (iI (0)))]) [1, 0] rfl ?_
            exact ih_15 0 k (hA t n p 59) r _ (Or.inl rfl) (by omega) (by omega) (TyS_at htM) (FtI_at (p' := hA t n p 59) hI).2.1 (by rw [rd_i (by omega)]; omega) (fun h => absurd h (by decide)) (fun _ => (by rw [hcont, contP_0 (by omega), if_neg (by omega)]; exact ⟨rfl, by show p = hA t n p 59; omega⟩)) (by omega)
          · refine y_aload_n hB 0 dX7_faultOf_39 rfl rfl ?_
            refine m_V hB msX7_readsPerson q814 (tX7_readsPerson _ G b C (up2 SM 578 12 (hA t n p 59)) t n (hA t n p 59) (TyS_at (htM)) hb (by omega) (by have h9 : (up2 SM 578 12 (hA t n p 59)) 578 13 = SM 578 13 := (rd_i (by omega)); omega)) (t := 20) (by decide) (by decide) rfl rfl rfl rfl rfl ⟨Nat.le_of_ble_eq_true rfl, Nat.le_of_ble_eq_true rfl⟩ (Nat.le_of_ble_eq_true rfl) ⟨rfl, rfl⟩ ⟨Nat.le_of_ble_eq_true rfl, Nat.le_of_ble_eq_true rfl⟩ dX7_faultOf_40 (k_SI (fun v_40 S_40 h_40 => ?_))
            rw [rd_i (by omega), h13] at h_40
            have hr_40 := h_40
            have hv_40 := h_40.1
            have hpb := pP_b t n (hA t n p 59)
            have hfr_40 := FtI_fr (FtI_at hI) hr_40
            have h13_40 := h_40.2.2.2.1
            have hm8n : (pP t n (hA t n p 59)).ok = 1 → ∀ j : Int, 0 ≤ j → j < k + 1 → ((fun i => if i = k then pP t n (hA t n p 59) else r i) j).m ≤ 8 := fun ho j a1 a2 => (by dsimp only; by_cases hj : j = k; rw [if_pos hj]; exact (hpb.2.2.2 ho).2.2.2.1.2; rw [if_neg hj]; exact hm8 j a1 (by omega))
            refine y_if_eq hB 50 dX7_faultOf_43 (by decide) (by omega) (fun c_43 => ?_) (fun c_43 => ?_)
            · refine y_iconst (v := 0) hB dX7_faultOf_50 rfl ?_
              refine y_istore_n (lv' := [(1, .int (iI (0))), (0, .ref (ad b (578)))]) hB dX7_faultOf_51 rfl (by decide) rfl ?_
              refine y_goto hB 15 dX7_faultOf_52 (by decide) ?_
              refine y_sub (lv' := [(0, .ref (ad b (578))), (1, .int (iI (0)))]) [1, 0] rfl ?_
              exact ih_15 0 k ((pP t n (hA t n p 59)).a) r _ (Or.inl rfl) (by omega) (by omega) hr_40.2.1 hfr_40 (by omega) (fun h => absurd h (by decide)) (fun _ => (by rw [hcont, contP_1 (by omega)]; rcases (show k = 15 ∨ k < 15 by omega) with g | g; rw [show (15 - k).toNat = 0 by omega]; exact ⟨rfl, (pP_end (t := t) (n := n) (a := hA t n p 59) (by omega)).2.symm⟩; rw [show (15 - k).toNat = (14 - k).toNat + 1 by omega, psP_bad (by omega)]; exact ⟨rfl, rfl⟩)) (by omega)
            · refine y_iconst (v := 1) hB dX7_faultOf_46 rfl ?_
              refine y_goto hB 51 dX7_faultOf_47 (by decide) ?_
              refine y_istore_n (lv' := [(1, .int (iI (1))), (0, .ref (ad b (578)))]) hB dX7_faultOf_51 rfl (by decide) rfl ?_
              refine y_goto hB 15 dX7_faultOf_52 (by decide) ?_
              refine y_sub (lv' := [(0, .ref (ad b (578))), (1, .int (iI (1)))]) [1, 0] rfl ?_
              exact ih_15 1 (k + 1) ((pP t n (hA t n p 59)).a) (fun i => if i = k then (pP t n (hA t n p 59)) else r i) _ (Or.inr rfl) (by omega) (by omega) hr_40.2.1 hfr_40 (by omega) (fun _ => ⟨by omega, by omega, by omega, FtI_rd (FtI_at hI) (by omega) hm8 hr_40 (by omega), hm8n (by omega), (by rw [hcont, contP_1 (by omega), show (15 - k).toNat = (15 - (k + 1)).toNat + 1 by omega, psP_s (by omega) rfl])⟩) (fun h => absurd h (by decide)) (by omega)
  refine y_sub (lv' := [(0, .ref (ad b (578))), (1, .int (iI (v_11)))]) [1, 0] rfl ?_
  exact LOOP_15 (((17 : Int)).toNat + 1) v_11 v_11 ((pP t n 0).a) (fun i => if i = 0 then pP t n 0 else zPR) _ (by omega) (by omega) (by omega) h_11.2.1 hfr_11 (by omega) (fun h => ⟨by omega, by omega, by omega, ⟨h_11.2.1, hfr_11, by omega, fun j a1 a2 => (by have hj0 : j = 0 := (by omega); subst hj0; exact h_11.2.2.2.2 h)⟩, fun j a1 a2 => (by have hj0 : j = 0 := (by omega); subst hj0; exact (hpb.2.2.2 (by omega)).2.2.2.1.2), (by rw [h]; exact psP_s (f := 14) (by omega) rfl)⟩) (fun h => (by unfold txP; rw [psP_bad (by omega)]; exact ⟨rfl, rfl⟩)) (by omega)
