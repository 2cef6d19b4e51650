/-! the other class: a fact of the text -/
def RfP (S S' : gM) (t : Int → Int) (n a q m v : Int) : Prop := v = fOk t n a ∧ TyS S' t n (fA t n a) ∧ ((∀ x : Int, x ≠ 578 → x ≠ 585 → S' x = S x) ∧ (∀ j : Int, j ≠ 12 → S' 578 j = S 578 j) ∧ ∀ j : Int, (j < q + 2 ∨ q + 20 ≤ j) → S' 585 j = S 585 j) ∧ (v = 1 → S' 585 (q + 2) = m + 1 ∧ S' 585 (2 * m + q + 3) = fS t n a ∧ S' 585 (2 * m + q + 4) = fL t n a ∧ ∀ j : Int, q + 2 < j → j < 2 * m + q + 3 → S' 585 j = S 585 j)
set_option maxHeartbeats 4000000 in
theorem tX7_readsFact (l : Launch) (G : gG) (b : Nat) (C S : gM) (t : Int → Int) (n a q m : Int) (htx : TyS S t n a) (hb : TxB t n) (ha0 : 0 ≤ a ∧ a ≤ 60) (hq : 0 ≤ q ∧ q ≤ 380) (hm : S 585 (q + 2) = m) (hm8 : 0 ≤ m ∧ m < 8) : Ct l G b yX7_readsFact cX7_readsFact 3 (some .boolean) rmX7_readsFact [.ref (ad b (578)), .int (iI (q))] 586 (wM G b C S) (SI G b C (fun v S' => RfP S S' t n a q m v)) := by
  refine CtK_of (by decide) (Nat.le_of_ble_eq_true rfl) q837 ?_
  intro x hl hB hE _
  subst hl
  show YM x G b 0 0 C S 0 [(0, .ref (ad b (578))), (1, .int (iI (q)))] []
  obtain ⟨ht, hn, ha⟩ := id htx
  have hn60 := hb.1
  subst hm
  refine y_iload_n hB 1 dX7_readsFact_0 rfl rfl ?_
  refine y_iconst (v := 3) hB dX7_readsFact_1 rfl ?_
  refine y_iadd (t := q + 3) hB dX7_readsFact_2 (by omega) ?_
  refine y_iconst (v := 2) hB dX7_readsFact_3 rfl ?_
  refine y_aload_n hB 0 dX7_readsFact_4 rfl rfl ?_
  refine gt_7_11 hB (by decide) (t1 := 585) (by omega) dX7_readsFact_5 ?_
  refine y_iload_n hB 1 dX7_readsFact_8 rfl rfl ?_
  refine y_iconst (v := 2) hB dX7_readsFact_9 rfl ?_
  refine y_iadd (t := q + 2) hB dX7_readsFact_10 (by omega) ?_
  refine ald_27 hB (by decide) (t1 := S 585 (q + 2)) (by omega) rfl dX7_readsFact_11 ?_
  refine y_imul (t := 2 * S 585 (q + 2)) hB dX7_readsFact_12 (by omega) ?_
  refine y_iadd (t := 2 * S 585 (q + 2) + q + 3) hB dX7_readsFact_13 (by omega) ?_
  refine y_istore_n (lv' := [(2, .int (iI (2 * S 585 (q + 2) + q + 3))), (0, .ref (ad b (578))), (1, .int (iI (q)))]) hB dX7_readsFact_14 rfl (by decide) rfl ?_
  refine y_aload_n hB 1 dX7_readsFact_15 rfl rfl ?_
  refine gt_7_11 hB (by decide) (t1 := 585) (by omega) dX7_readsFact_16 ?_
  refine y_iload_n hB 0 dX7_readsFact_19 rfl rfl ?_
  refine y_aload_n hB 1 dX7_readsFact_20 rfl rfl ?_
  refine y_bipush (v := 48) hB dX7_readsFact_21 (by decide) ?_
  refine y_bipush (v := 53) hB dX7_readsFact_23 (by decide) ?_
  refine m_V hB msX7_digit q822 (tX7_digit _ G b C S t n a 48 53 0 5 (htx) hb (by omega) (by omega) (by omega) (by omega) (by omega)) (t := 20) (by decide) (by decide) rfl rfl rfl rfl rfl ⟨Nat.le_of_ble_eq_true rfl, Nat.le_of_ble_eq_true rfl⟩ (Nat.le_of_ble_eq_true rfl) ⟨rfl, rfl⟩ ⟨Nat.le_of_ble_eq_true rfl, Nat.le_of_ble_eq_true rfl⟩ dX7_readsFact_25 (k_SI (fun v_25 S_25 h_25 => ?_))
  obtain ⟨rfl, rfl⟩ := h_25
  have hg_25 := gU_b t n a 0 5
  refine ast_27 hB (by decide) (by omega) dX7_readsFact_28 ?_
  refine y_aload_n hB 1 dX7_readsFact_29 rfl rfl ?_
  refine gt_7_11 hB (by decide) (t1 := 585) (by omega) dX7_readsFact_30 ?_
  refine y_iload_n hB 0 dX7_readsFact_33 rfl rfl ?_
  refine ald_27 hB (by decide) (t1 := gU t n a 0 5) (by omega) (rd_hit (by omega) (by omega)) dX7_readsFact_34 ?_
  refine y_if_lt hB 47 dX7_readsFact_35 (by decide) (by omega) (fun c_35 => ?_) (fun c_35 => ?_)
  · refine y_iconst (v := 0) hB dX7_readsFact_47 rfl ?_
    exact m_si hB hE dX7_readsFact_48 rfl (⟨by unfold fOk; rw [if_pos (by omega)], by rw [show fA t n a = gA t n a 0 5 by unfold fA; rw [if_pos (by omega)]]; exact (TyS_k (by omega) (TyS_at (htx))), ⟨(fun x a1 a2 => (by rw [up2_ne _ _ _ a2, up2_ne _ _ _ a1])), (fun j a1 => (by rw [rd_k (by omega), rd_i a1])), (fun j a1 => (by rw [rd_i (by omega), rd_k (by omega)]))⟩, fun h => absurd h (by decide)⟩)
  · refine y_aload_n hB 1 dX7_readsFact_38 rfl rfl ?_
    refine y_bipush (v := 120) hB dX7_readsFact_39 (by decide) ?_
    refine m_V hB msX7_accepts q830 (tX7_accepts _ G b C (up2 (up2 S 578 12 (gA t n a 0 5)) 585 (2 * S 585 (q + 2) + q + 3) (gU t n a 0 5)) t n (gA t n a 0 5) 120 (TyS_k (by omega) (TyS_at (htx))) hb (by omega) (by omega)) (t := 20) (by decide) (by decide) rfl rfl rfl rfl rfl ⟨Nat.le_of_ble_eq_true rfl, Nat.le_of_ble_eq_true rfl⟩ (Nat.le_of_ble_eq_true rfl) ⟨rfl, rfl⟩ ⟨Nat.le_of_ble_eq_true rfl, Nat.le_of_ble_eq_true rfl⟩ dX7_readsFact_41 (k_SI (fun v_41 S_41 h_41 => ?_))
    obtain ⟨rfl, rfl⟩ := h_41
    have hg_41 := hT_b t n (gA t n a 0 5) 120
    refine y_if_ne hB 49 dX7_readsFact_44 (by decide) (by omega) (fun c_44 => ?_) (fun c_44 => ?_)
    · refine y_aload_n hB 1 dX7_readsFact_49 rfl rfl ?_
      refine gt_7_11 hB (by decide) (t1 := 585) (by omega) dX7_readsFact_50 ?_
      refine y_iload_n hB 0 dX7_readsFact_53 rfl rfl ?_
      refine y_iconst (v := 1) hB dX7_readsFact_54 rfl ?_
      refine y_iadd (t := 2 * S 585 (q + 2) + q + 4) hB dX7_readsFact_55 (by omega) ?_
      refine y_aload_n hB 1 dX7_readsFact_56 rfl rfl ?_
      refine y_bipush (v := 49) hB dX7_readsFact_57 (by decide) ?_
      refine y_bipush (v := 57) hB dX7_readsFact_59 (by decide) ?_
      refine m_V hB msX7_digit q822 (tX7_digit _ G b C (up2 (up2 (up2 S 578 12 (gA t n a 0 5)) 585 (2 * S 585 (q + 2) + q + 3) (gU t n a 0 5)) 578 12 (hA t n (gA t n a 0 5) 120)) t n (hA t n (gA t n a 0 5) 120) 49 57 1 9 (TyS_at (TyS_k (by omega) (TyS_at (htx)))) hb (by omega) (by omega) (by omega) (by omega) (by omega)) (t := 20) (by decide) (by decide) rfl rfl rfl rfl rfl ⟨Nat.le_of_ble_eq_true rfl, Nat.le_of_ble_eq_true rfl⟩ (Nat.le_of_ble_eq_true rfl) ⟨rfl, rfl⟩ ⟨Nat.le_of_ble_eq_true rfl, Nat.le_of_ble_eq_true rfl⟩ dX7_readsFact_61 (k_SI (fun v_61 S_61 h_61 => ?_))
      obtain ⟨rfl, rfl⟩ := h_61
      rw [up2_2]
      have hg_61 := gU_b t n (hA t n (gA t n a 0 5) 120) 1 9
      refine ast_27 hB (by decide) (by omega) dX7_readsFact_64 ?_
      refine y_aload_n hB 1 dX7_readsFact_65 rfl rfl ?_
      refine gt_7_11 hB (by decide) (t1 := 585) (by omega) dX7_readsFact_66 ?_
      refine y_iload_n hB 2 dX7_readsFact_69 rfl rfl ?_
      refine y_iconst (v := 2) hB dX7_readsFact_70 rfl ?_
      refine y_iadd (t := q + 2) hB dX7_readsFact_71 (by omega) ?_
      refine y_dup2 hB dX7_readsFact_72 rfl rfl ?_
      refine ald_27 hB (by decide) (t1 := S 585 (q + 2)) (by omega) ((rd_i (by omega)).trans ((rd_k (by omega)).trans ((rd_i (by omega)).trans (rd_k (by omega))))) dX7_readsFact_73 ?_
      refine y_iconst (v := 1) hB dX7_readsFact_74 rfl ?_
      refine y_iadd (t := (S 585 (q + 2)) + 1) hB dX7_readsFact_75 (by omega) ?_
      refine ast_27 hB (by decide) (by omega) dX7_readsFact_76 ?_
      refine y_aload_n hB 1 dX7_readsFact_77 rfl rfl ?_
      refine gt_7_11 hB (by decide) (t1 := 585) (by omega) dX7_readsFact_78 ?_
      refine y_iload_n hB 0 dX7_readsFact_81 rfl rfl ?_
      refine y_iconst (v := 1) hB dX7_readsFact_82 rfl ?_
      refine y_iadd (t := 2 * S 585 (q + 2) + q + 4) hB dX7_readsFact_83 (by omega) ?_
      refine ald_27 hB (by decide) (t1 := gU t n (hA t n (gA t n a 0 5) 120) 1 9) (by omega) ((rd_i (by omega)).trans (rd_hit (by omega) (by omega))) dX7_readsFact_84 ?_
      refine y_if_le hB 92 dX7_readsFact_85 (by decide) (by omega) (fun c_85 => ?_) (fun c_85 => ?_)
      · refine y_iconst (v := 0) hB dX7_readsFact_92 rfl ?_
        exact m_si hB hE dX7_readsFact_93 rfl (⟨by unfold fOk; rw [if_neg (by omega), if_neg (by omega), if_pos (by omega)], by rw [show fA t n a = gA t n (hA t n (gA t n a 0 5) 120) 1 9 by unfold fA; rw [if_neg (by omega), if_neg (by omega)]]; exact (TyS_k (by omega) (TyS_k (by omega) (TyS_at (TyS_k (by omega) (TyS_at (htx)))))), ⟨(fun x a1 a2 => (by rw [up2_ne _ _ _ a2, up2_ne _ _ _ a2, up2_ne _ _ _ a1, up2_ne _ _ _ a2, up2_ne _ _ _ a1])), (fun j a1 => (by rw [rd_k (by omega), rd_k (by omega), rd_i a1, rd_k (by omega), rd_i a1])), (fun j a1 => (by rw [rd_i (by omega), rd_i (by omega), rd_k (by omega), rd_i (by omega), rd_k (by omega)]))⟩, fun h => absurd h (by decide)⟩)
      · refine y_iconst (v := 1) hB dX7_readsFact_88 rfl ?_
        refine y_goto hB 93 dX7_readsFact_89 (by decide) ?_
        exact m_si hB hE dX7_readsFact_93 rfl (⟨by unfold fOk; rw [if_neg (by omega), if_neg (by omega), if_neg (by omega)], by rw [show fA t n a = gA t n (hA t n (gA t n a 0 5) 120) 1 9 by unfold fA; rw [if_neg (by omega), if_neg (by omega)]]; exact (TyS_k (by omega) (TyS_k (by omega) (TyS_at (TyS_k (by omega) (TyS_at (htx)))))), ⟨(fun x a1 a2 => (by rw [up2_ne _ _ _ a2, up2_ne _ _ _ a2, up2_ne _ _ _ a1, up2_ne _ _ _ a2, up2_ne _ _ _ a1])), (fun j a1 => (by rw [rd_k (by omega), rd_k (by omega), rd_i a1, rd_k (by omega), rd_i a1])), (fun j a1 => (by rw [rd_i (by omega), rd_i (by omega), rd_k (by omega), rd_i (by omega), rd_k (by omega)]))⟩, fun _ => ⟨(rd_hit (by omega) (by omega)).trans (by omega), ((rd_i (by omega)).trans ((rd_i (by omega)).trans ((rd_k (by omega)).trans (rd_hit (by omega) (by omega))))).trans (by unfold fS; omega), ((rd_i (by omega)).trans (rd_hit (by omega) (by omega))).trans (by unfold fL; omega), (fun j a1 a2 => (by rw [rd_i (by omega), rd_i (by omega), rd_k (by omega), rd_i (by omega), rd_k (by omega)]))⟩⟩)
    · refine y_iconst (v := 0) hB dX7_readsFact_47 rfl ?_
      exact m_si hB hE dX7_readsFact_48 rfl (⟨by unfold fOk; rw [if_neg (by omega), if_pos (by omega)], by rw [show fA t n a = hA t n (gA t n a 0 5) 120 by unfold fA; rw [if_neg (by omega), if_pos (by omega)]]; exact (TyS_at (TyS_k (by omega) (TyS_at (htx)))), ⟨(fun x a1 a2 => (by rw [up2_ne _ _ _ a1, up2_ne _ _ _ a2, up2_ne _ _ _ a1])), (fun j a1 => (by rw [rd_i a1, rd_k (by omega), rd_i a1])), (fun j a1 => (by rw [rd_k (by omega), rd_i (by omega), rd_k (by omega)]))⟩, fun h => absurd h (by decide)⟩)
