/-! the other class: a person of the text -/
def RowM (S : gM) (q : Int) (p : PR) : Prop := S 585 q = p.age ∧ S 585 (q + 1) = p.rank ∧ S 585 (q + 2) = p.m ∧ ∀ j : Int, 0 ≤ j → j < p.m → S 585 (2 * j + q + 3) = p.s j ∧ S 585 (2 * j + q + 4) = p.l j
def frM (S S' : gM) (q : Int) : Prop := (∀ x : Int, x ≠ 578 → x ≠ 585 → S' x = S x) ∧ (∀ j : Int, j ≠ 12 → j ≠ 13 → S' 578 j = S 578 j) ∧ ∀ j : Int, (j < q ∨ q + 20 ≤ j) → S' 585 j = S 585 j
def RpP (S S' : gM) (t : Int → Int) (n a k v : Int) : Prop := v = (pP t n a).ok ∧ TyS S' t n (pP t n a).a ∧ frM S S' (20 * k) ∧ S' 578 13 = k + v ∧ (v = 1 → RowM S' (20 * k) (pP t n a))
def RdM (S SM : gM) (t : Int → Int) (n q ag rk i p : Int) (s f : Int → Int) : Prop := TyS SM t n p ∧ frM S SM q ∧ SM 578 13 = S 578 13 ∧ SM 585 q = ag ∧ SM 585 (q + 1) = rk ∧ SM 585 (q + 2) = i ∧ ∀ j : Int, 0 ≤ j → j < i → SM 585 (2 * j + q + 3) = s j ∧ SM 585 (2 * j + q + 4) = f j
section
variable {S SM S' : gM} {t : Int → Int} {n a q ag rk i p p' k v : Int} {s f : Int → Int}
theorem frM_at {x j y : Int} (h : frM S SM q) (hx : (x = 578 ∧ (j = 12 ∨ j = 13)) ∨ (x = 585 ∧ q ≤ j ∧ j < q + 20)) : frM S (up2 SM x j y) q := by
  obtain ⟨h1, h2, h3⟩ := h
  refine ⟨fun b b1 b2 => ?_, fun b b1 b2 => ?_, fun b b1 => ?_⟩
  · rw [up2_ne _ _ _ (by omega)]; exact h1 b b1 b2
  · rcases hx with g | g
    · rw [rd_i (by omega)]; exact h2 b b1 b2
    · rw [rd_k (by omega)]; exact h2 b b1 b2
  · rcases hx with g | g
    · rw [rd_k (by omega)]; exact h3 b b1
    · rw [rd_i (by omega)]; exact h3 b b1
theorem frM_0 (S : gM) (q : Int) : frM S S q := ⟨fun _ _ _ => rfl, fun _ _ _ => rfl, fun _ _ => rfl⟩
theorem RdM_at (h : RdM S SM t n q ag rk i p s f) : RdM S (up2 SM 578 12 p') t n q ag rk i p' s f := by
  obtain ⟨h1, h2, h3, h4, h5, h6, h7⟩ := h
  refine ⟨TyS_at h1, frM_at h2 (by omega), ?_, ?_, ?_, ?_, fun j a1 a2 => ?_⟩
  · rw [rd_i (by omega)]; exact h3
  · rw [rd_k (by omega)]; exact h4
  · rw [rd_k (by omega)]; exact h5
  · rw [rd_k (by omega)]; exact h6
  · rw [rd_k (by omega), rd_k (by omega)]; exact h7 j a1 a2
theorem frM_RfP {m : Int} (h : frM S SM q) (hr : RfP SM S' t n a q m v) : frM S S' q := by
  obtain ⟨h1, h2, h3⟩ := h
  obtain ⟨-, -, ⟨g1, g2, g3⟩, -⟩ := hr
  exact ⟨fun x a1 a2 => (g1 x a1 a2).trans (h1 x a1 a2), fun j a1 a2 => (g2 j a1).trans (h2 j a1 a2), fun j a1 => (g3 j (by omega)).trans (h3 j a1)⟩
theorem RdM_fact (h : RdM S SM t n q ag rk i p s f) (hi : 0 ≤ i) (hr : RfP SM S' t n p q i v) (hv : v = 1) : RdM S S' t n q ag rk (i + 1) (fA t n p) (up1 s i (fS t n p)) (up1 f i (fL t n p)) := by
  have hf := frM_RfP h.2.1 hr
  obtain ⟨h1, h2, h3, h4, h5, h6, h7⟩ := h
  obtain ⟨r1, r2, ⟨g1, g2, g3⟩, r4⟩ := hr
  obtain ⟨e1, e2, e3, e4⟩ := r4 hv
  refine ⟨r2, hf, (g2 13 (by omega)).trans h3, (g3 q (by omega)).trans h4, (g3 (q + 1) (by omega)).trans h5, e1, fun j a1 a2 => ?_⟩
  by_cases hj : j = i
  · subst hj
    unfold up1
    rw [if_pos rfl, if_pos rfl]
    exact ⟨e2, e3⟩
  · have := h7 j a1 (by omega)
    unfold up1
    rw [if_neg hj, if_neg hj, e4 _ (by omega) (by omega), e4 _ (by omega) (by omega)]
    exact this
theorem RpP_bad (hY : TyS SM t n p) (hf : frM S SM (20 * k)) (ho : (pP t n a).ok = 0) (ha : (pP t n a).a = p) (h13 : SM 578 13 = k) (hv : v = 0) : RpP S SM t n a k v := by
  subst hv
  exact ⟨ho.symm, ha ▸ hY, hf, by omega, fun h => absurd h (by decide)⟩
theorem RpP_good {w : Int} (h : RdM S SM t n (20 * k) ag rk i p s f) (e : pP t n a = ⟨1, p, ag, rk, i, s, f⟩) (hw : w = k + 1) (hv : v = 1) : RpP S (up2 SM 578 13 w) t n a k v := by
  subst hv
  obtain ⟨h1, h2, h3, h4, h5, h6, h7⟩ := h
  refine ⟨by rw [e], by rw [e]; exact TyS_k (by omega) h1, frM_at h2 (by omega), by rw [rd_hit rfl rfl]; exact hw, fun _ => ?_⟩
  rw [e]
  refine ⟨by rw [rd_k (by omega)]; exact h4, by rw [rd_k (by omega)]; exact h5, by rw [rd_k (by omega)]; exact h6, fun j a1 a2 => by rw [rd_k (by omega), rd_k (by omega)]; exact h7 j a1 a2⟩
end
def mkPR (ag rk : Int) (r : FR) : PR := ⟨r.ok, r.a, ag, rk, r.m, r.s, r.l⟩
set_option maxHeartbeats 4000000 in
theorem tX7_readsPerson (l : Launch) (G : gG) (b : Nat) (C S : gM) (t : Int → Int) (n a : Int) (htx : TyS S t n a) (hb : TxB t n) (ha0 : 0 ≤ a ∧ a ≤ 60) (hk : 0 ≤ S 578 13 ∧ S 578 13 ≤ 18) : Ct l G b yX7_readsPerson cX7_readsPerson 3 (some .boolean) rmX7_readsPerson [.ref (ad b (578))] 586 (wM G b C S) (SI G b C (fun v S' => RpP S S' t n a (S 578 13) v)) := by
  refine CtK_of (by decide) (Nat.le_of_ble_eq_true rfl) q817 ?_
  intro x hl hB hE _
  subst hl
  show YM x G b 0 0 C S 0 [(0, .ref (ad b (578)))] []
  obtain ⟨ht, hn, ha⟩ := id htx
  have hn60 := hb.1
  refine y_bipush (v := 20) hB dX7_readsPerson_0 (by decide) ?_
  refine y_aload_n hB 0 dX7_readsPerson_2 rfl rfl ?_
  refine gt_7_13 hB (by decide) (t1 := S 578 13) rfl dX7_readsPerson_3 ?_
  refine y_imul (t := 20 * S 578 13) hB dX7_readsPerson_6 (by omega) ?_
  refine y_istore_n (lv' := [(1, .int (iI (20 * S 578 13))), (0, .ref (ad b (578)))]) hB dX7_readsPerson_7 rfl (by decide) rfl ?_
  refine y_aload_n hB 1 dX7_readsPerson_8 rfl rfl ?_
  refine gt_7_11 hB (by decide) (t1 := 585) (by omega) dX7_readsPerson_9 ?_
  refine y_iload_n hB 0 dX7_readsPerson_12 rfl rfl ?_
  refine y_aload_n hB 1 dX7_readsPerson_13 rfl rfl ?_
  refine m_V hB msX7_age q818 (tX7_age _ G b C S t n a (htx) hb (by omega)) (t := 20) (by decide) (by decide) rfl rfl rfl rfl rfl ⟨Nat.le_of_ble_eq_true rfl, Nat.le_of_ble_eq_true rfl⟩ (Nat.le_of_ble_eq_true rfl) ⟨rfl, rfl⟩ ⟨Nat.le_of_ble_eq_true rfl, Nat.le_of_ble_eq_true rfl⟩ dX7_readsPerson_14 (k_SI (fun v_14 S_14 h_14 => ?_))
  obtain ⟨rfl, rfl⟩ := h_14
  have hg_14 := agW_b (t := t) (n := n) (a := a)
  refine ast_27 hB (by decide) (by omega) dX7_readsPerson_17 ?_
  refine y_aload_n hB 1 dX7_readsPerson_18 rfl rfl ?_
  refine gt_7_11 hB (by decide) (t1 := 585) (by omega) dX7_readsPerson_19 ?_
  refine y_iload_n hB 0 dX7_readsPerson_22 rfl rfl ?_
  refine y_iconst (v := 2) hB dX7_readsPerson_23 rfl ?_
  refine y_iadd (t := 20 * S 578 13 + 2) hB dX7_readsPerson_24 (by omega) ?_
  refine y_iconst (v := 0) hB dX7_readsPerson_25 rfl ?_
  refine ast_27 hB (by decide) (by omega) dX7_readsPerson_26 ?_
  refine y_aload_n hB 1 dX7_readsPerson_27 rfl rfl ?_
  refine gt_7_11 hB (by decide) (t1 := 585) (by omega) dX7_readsPerson_28 ?_
  refine y_iload_n hB 0 dX7_readsPerson_31 rfl rfl ?_
  refine ald_27 hB (by decide) (t1 := agW t n a) (by omega) ((rd_i (by omega)).trans (rd_hit (by omega) (by omega))) dX7_readsPerson_32 ?_
  refine y_if_lt hB 45 dX7_readsPerson_33 (by decide) (by omega) (fun c_33 => ?_) (fun c_33 => ?_)
  · refine y_iconst (v := 0) hB dX7_readsPerson_45 rfl ?_
    exact m_si hB hE dX7_readsPerson_46 rfl (RpP_bad (TyS_k (by omega) (TyS_k (by omega) (TyS_at (htx)))) (frM_at (frM_at (frM_at (frM_0 S _) (by omega)) (by omega)) (by omega)) (by rw [pP_1 (by omega)]) (by rw [pP_1 (by omega)]) (by have h9 := (((rd_k (by omega)).trans ((rd_k (by omega)).trans (rd_i (by omega)))) : (up2 (up2 (up2 S 578 12 (agA t n a)) 585 (20 * S 578 13) (agW t n a)) 585 (20 * S 578 13 + 2) 0) 578 13 = S 578 13); omega) rfl)
  · refine y_aload_n hB 1 dX7_readsPerson_36 rfl rfl ?_
    refine y_bipush (v := 114) hB dX7_readsPerson_37 (by decide) ?_
    refine m_V hB msX7_accepts q830 (tX7_accepts _ G b C (up2 (up2 (up2 S 578 12 (agA t n a)) 585 (20 * S 578 13) (agW t n a)) 585 (20 * S 578 13 + 2) 0) t n (agA t n a) 114 (TyS_k (by omega) (TyS_k (by omega) (TyS_at (htx)))) hb (by omega) (by omega)) (t := 20) (by decide) (by decide) rfl rfl rfl rfl rfl ⟨Nat.le_of_ble_eq_true rfl, Nat.le_of_ble_eq_true rfl⟩ (Nat.le_of_ble_eq_true rfl) ⟨rfl, rfl⟩ ⟨Nat.le_of_ble_eq_true rfl, Nat.le_of_ble_eq_true rfl⟩ dX7_readsPerson_39 (k_SI (fun v_39 S_39 h_39 => ?_))
    obtain ⟨rfl, rfl⟩ := h_39
    have hg_39 := hT_b t n (agA t n a) 114
    refine y_if_ne hB 47 dX7_readsPerson_42 (by decide) (by omega) (fun c_42 => ?_) (fun c_42 => ?_)
    · refine y_aload_n hB 1 dX7_readsPerson_47 rfl rfl ?_
      refine gt_7_11 hB (by decide) (t1 := 585) (by omega) dX7_readsPerson_48 ?_
      refine y_iload_n hB 0 dX7_readsPerson_51 rfl rfl ?_
      refine y_iconst (v := 1) hB dX7_readsPerson_52 rfl ?_
      refine y_iadd (t := 20 * S 578 13 + 1) hB dX7_readsPerson_53 (by omega) ?_
      refine y_aload_n hB 1 dX7_readsPerson_54 rfl rfl ?_
      refine y_bipush (v := 49) hB dX7_readsPerson_55 (by decide) ?_
      refine y_bipush (v := 57) hB dX7_readsPerson_57 (by decide) ?_
      refine m_V hB msX7_digit q822 (tX7_digit _ G b C (up2 (up2 (up2 (up2 S 578 12 (agA t n a)) 585 (20 * S 578 13) (agW t n a)) 585 (20 * S 578 13 + 2) 0) 578 12 (hA t n (agA t n a) 114)) t n (hA t n (agA t n a) 114) 49 57 1 9 (TyS_at (TyS_k (by omega) (TyS_k (by omega) (TyS_at (htx))))) hb (by omega) (by omega) (by omega) (by omega) (by omega)) (t := 20) (by decide) (by decide) rfl rfl rfl rfl rfl ⟨Nat.le_of_ble_eq_true rfl, Nat.le_of_ble_eq_true rfl⟩ (Nat.le_of_ble_eq_true rfl) ⟨rfl, rfl⟩ ⟨Nat.le_of_ble_eq_true rfl, Nat.le_of_ble_eq_true rfl⟩ dX7_readsPerson_59 (k_SI (fun v_59 S_59 h_59 => ?_))
      obtain ⟨rfl, rfl⟩ := h_59
      rw [up2_2]
      have hg_59 := gU_b t n (hA t n (agA t n a) 114) 1 9
      refine ast_27 hB (by decide) (by omega) dX7_readsPerson_62 ?_
      refine y_aload_n hB 1 dX7_readsPerson_63 rfl rfl ?_
      refine gt_7_11 hB (by decide) (t1 := 585) (by omega) dX7_readsPerson_64 ?_
      refine y_iload_n hB 0 dX7_readsPerson_67 rfl rfl ?_
      refine y_iconst (v := 1) hB dX7_readsPerson_68 rfl ?_
      refine y_iadd (t := 20 * S 578 13 + 1) hB dX7_readsPerson_69 (by omega) ?_
      refine ald_27 hB (by decide) (t1 := gU t n (hA t n (agA t n a) 114) 1 9) (by omega) (rd_hit (by omega) (by omega)) dX7_readsPerson_70 ?_
      refine y_if_le hB 78 dX7_readsPerson_71 (by decide) (by omega) (fun c_71 => ?_) (fun c_71 => ?_)
      · refine y_iconst (v := 0) hB dX7_readsPerson_78 rfl ?_
        refine y_istore_n (lv' := [(2, .int (iI (0))), (1, .int (iI (20 * S 578 13))), (0, .ref (ad b (578)))]) hB dX7_readsPerson_79 rfl (by decide) rfl ?_
        have LOOP_80 : ∀ (fu : Nat) (ok i p : Int) (s f : Int → Int) (SM : gM), (ok = 0 ∨ ok = 1) → (0 ≤ i ∧ i ≤ 8) → (0 ≤ p ∧ p ≤ 60) → (TyS SM t n p) → (frM S SM (20 * S 578 13)) → (SM 578 13 = S 578 13) → (ok = 1 → RdM S SM t n (20 * S 578 13) (agV t n a) (gV t n (hA t n (agA t n a) 114) 1 9) i p s f ∧ pP t n a = mkPR (agV t n a) (gV t n (hA t n (agA t n a) 114) 1 9) (fsP t n (8 - i).toNat p i s f)) → (ok = 0 → (pP t n a).ok = 0 ∧ (pP t n a).a = p) → 8 - i + ok < (fu : Int) → YM x G b 0 0 C SM 80 [(0, .ref (ad b (578))), (1, .int (iI (20 * S 578 13))), (2, .int (iI (ok)))] [] := by
          intro fu
          induction fu with
          | zero => intro ok i p s f SM hok hi hp htM hFR h13 h1 h0 hm_80; exfalso; omega
          | succ fu ih_80 =>
            intro ok i p s f SM hok hi hp htM hFR h13 h1 h0 hm_80
            refine y_iload_n hB 2 dX7_readsPerson_80 rfl rfl ?_
            refine y_if_eq hB 115 dX7_readsPerson_81 (by decide) (by omega) (fun c_81 => ?_) (fun c_81 => ?_)
            · refine y_aload_n hB 0 dX7_readsPerson_115 rfl rfl ?_
              refine y_dup hB dX7_readsPerson_116 rfl ?_
              refine gt_7_13 hB (by decide) (t1 := SM 578 13) rfl dX7_readsPerson_117 ?_
              refine y_iload_n hB 2 dX7_readsPerson_120 rfl rfl ?_
              refine y_if_eq hB 128 dX7_readsPerson_121 (by decide) (by omega) (fun c_121 => ?_) (fun c_121 => ?_)
              · refine y_iconst (v := 0) hB dX7_readsPerson_128 rfl ?_
                refine y_iadd (t := SM 578 13) hB dX7_readsPerson_129 (by omega) ?_
                refine pt_7_13 hB (by decide) dX7_readsPerson_130 ?_
                refine y_iload_n hB 2 dX7_readsPerson_133 rfl rfl ?_
                exact m_si hB hE dX7_readsPerson_134 (by rcases hok with g | g <;> rw [g] <;> rfl) (by first | (exfalso; omega) | exact RpP_bad (TyS_k (by omega) htM) (frM_at hFR (by omega)) (h0 (by omega)).1 (h0 (by omega)).2 (by rw [rd_hit rfl rfl]; omega) (by omega) | exact RpP_good hR (by rw [hpp, show (8 - i).toNat = 0 by omega]; rfl) (by omega) (by omega))
              · refine y_iconst (v := 1) hB dX7_readsPerson_124 rfl ?_
                refine y_goto hB 129 dX7_readsPerson_125 (by decide) ?_
                refine y_iadd (t := SM 578 13 + 1) hB dX7_readsPerson_129 (by omega) ?_
                refine pt_7_13 hB (by decide) dX7_readsPerson_130 ?_
                refine y_iload_n hB 2 dX7_readsPerson_133 rfl rfl ?_
                exact m_si hB hE dX7_readsPerson_134 (by rcases hok with g | g <;> rw [g] <;> rfl) (by first | (exfalso; omega) | exact RpP_bad (TyS_k (by omega) htM) (frM_at hFR (by omega)) (h0 (by omega)).1 (h0 (by omega)).2 (by rw [rd_hit rfl rfl]; omega) (by omega) | exact RpP_good hR (by rw [hpp, show (8 - i).toNat = 0 by omega]; rfl) (by omega) (by omega))
            · obtain ⟨hR, hpp⟩ := h1 (by omega)
              have hR6 := hR.2.2.2.2.2.1
              refine y_aload_n hB 0 dX7_readsPerson_84 rfl rfl ?_
              refine gt_7_11 hB (by decide) (t1 := 585) (by omega) dX7_readsPerson_85 ?_
              refine y_iload_n hB 1 dX7_readsPerson_88 rfl rfl ?_
              refine y_iconst (v := 2) hB dX7_readsPerson_89 rfl ?_
              refine y_iadd (t := 20 * S 578 13 + 2) hB dX7_readsPerson_90 (by omega) ?_
              refine ald_27 hB (by decide) (t1 := SM 585 (20 * S 578 13 + 2)) (by omega) rfl dX7_readsPerson_91 ?_
              refine y_bipush (v := 8) hB dX7_readsPerson_92 (by decide) ?_
              refine y_icmp_ge hB 115 dX7_readsPerson_94 (by decide) (by omega) (by omega) (fun c_94 => ?_) (fun c_94 => ?_)
              · refine y_aload_n hB 0 dX7_readsPerson_115 rfl rfl ?_
                refine y_dup hB dX7_readsPerson_116 rfl ?_
                refine gt_7_13 hB (by decide) (t1 := SM 578 13) rfl dX7_readsPerson_117 ?_
                refine y_iload_n hB 2 dX7_readsPerson_120 rfl rfl ?_
                refine y_if_eq hB 128 dX7_readsPerson_121 (by decide) (by omega) (fun c_121 => ?_) (fun c_121 => ?_)
                · refine y_iconst (v := 0) hB dX7_readsPerson_128 rfl ?_
                  refine y_iadd (t := SM 578 13) hB dX7_readsPerson_129 (by omega) ?_
                  refine pt_7_13 hB (by decide) dX7_readsPerson_130 ?_
                  refine y_iload_n hB 2 dX7_readsPerson_133 rfl rfl ?_
                  exact m_si hB hE dX7_readsPerson_134 (by rcases hok with g | g <;> rw [g] <;> rfl) (by first | (exfalso; omega) | exact RpP_bad (TyS_k (by omega) htM) (frM_at hFR (by omega)) (h0 (by omega)).1 (h0 (by omega)).2 (by rw [rd_hit rfl rfl]; omega) (by omega) | exact RpP_good hR (by rw [hpp, show (8 - i).toNat = 0 by omega]; rfl) (by omega) (by omega))
                · refine y_iconst (v := 1) hB dX7_readsPerson_124 rfl ?_
                  refine y_goto hB 129 dX7_readsPerson_125 (by decide) ?_
                  refine y_iadd (t := SM 578 13 + 1) hB dX7_readsPerson_129 (by omega) ?_
                  refine pt_7_13 hB (by decide) dX7_readsPerson_130 ?_
                  refine y_iload_n hB 2 dX7_readsPerson_133 rfl rfl ?_
                  exact m_si hB hE dX7_readsPerson_134 (by rcases hok with g | g <;> rw [g] <;> rfl) (by first | (exfalso; omega) | exact RpP_bad (TyS_k (by omega) htM) (frM_at hFR (by omega)) (h0 (by omega)).1 (h0 (by omega)).2 (by rw [rd_hit rfl rfl]; omega) (by omega) | exact RpP_good hR (by rw [hpp, show (8 - i).toNat = 0 by omega]; rfl) (by omega) (by omega))
              · have hf8 : (8 - i).toNat = (8 - (i + 1)).toNat + 1 := by omega
                refine y_aload_n hB 0 dX7_readsPerson_97 rfl rfl ?_
                refine y_bipush (v := 44) hB dX7_readsPerson_98 (by decide) ?_
                refine m_V hB msX7_accepts q830 (tX7_accepts _ G b C SM t n p 44 (htM) hb (by omega) (by omega)) (t := 20) (by decide) (by decide) rfl rfl rfl rfl rfl ⟨Nat.le_of_ble_eq_true rfl, Nat.le_of_ble_eq_true rfl⟩ (Nat.le_of_ble_eq_true rfl) ⟨rfl, rfl⟩ ⟨Nat.le_of_ble_eq_true rfl, Nat.le_of_ble_eq_true rfl⟩ dX7_readsPerson_100 (k_SI (fun v_100 S_100 h_100 => ?_))
                obtain ⟨rfl, rfl⟩ := h_100
                have hg_100 := hT_b t n p 44
                refine y_if_eq hB 115 dX7_readsPerson_103 (by decide) (by omega) (fun c_103 => ?_) (fun c_103 => ?_)
                · refine y_aload_n hB 0 dX7_readsPerson_115 rfl rfl ?_
                  refine y_dup hB dX7_readsPerson_116 rfl ?_
                  refine gt_7_13 hB (by decide) (t1 := SM 578 13) (rd_i (by omega)) dX7_readsPerson_117 ?_
                  refine y_iload_n hB 2 dX7_readsPerson_120 rfl rfl ?_
                  refine y_if_eq hB 128 dX7_readsPerson_121 (by decide) (by omega) (fun c_121 => ?_) (fun c_121 => ?_)
                  · refine y_iconst (v := 0) hB dX7_readsPerson_128 rfl ?_
                    refine y_iadd (t := SM 578 13) hB dX7_readsPerson_129 (by omega) ?_
                    refine pt_7_13 hB (by decide) dX7_readsPerson_130 ?_
                    refine y_iload_n hB 2 dX7_readsPerson_133 rfl rfl ?_
                    exact m_si hB hE dX7_readsPerson_134 (by rcases hok with g | g <;> rw [g] <;> rfl) (by first | (exfalso; omega) | exact RpP_good (RdM_at hR) (by rw [hpp, hf8, fsP_end (by omega)]; rfl) (by omega) (by omega))
                  · refine y_iconst (v := 1) hB dX7_readsPerson_124 rfl ?_
                    refine y_goto hB 129 dX7_readsPerson_125 (by decide) ?_
                    refine y_iadd (t := SM 578 13 + 1) hB dX7_readsPerson_129 (by omega) ?_
                    refine pt_7_13 hB (by decide) dX7_readsPerson_130 ?_
                    refine y_iload_n hB 2 dX7_readsPerson_133 rfl rfl ?_
                    exact m_si hB hE dX7_readsPerson_134 (by rcases hok with g | g <;> rw [g] <;> rfl) (by first | (exfalso; omega) | exact RpP_good (RdM_at hR) (by rw [hpp, hf8, fsP_end (by omega)]; rfl) (by omega) (by omega))
                · refine y_aload_n hB 0 dX7_readsPerson_106 rfl rfl ?_
                  refine y_iload_n hB 1 dX7_readsPerson_107 rfl rfl ?_
                  refine m_V hB msX7_readsFact q834 (tX7_readsFact _ G b C (up2 SM 578 12 (hA t n p 44)) t n (hA t n p 44) (20 * S 578 13) i (TyS_at (htM)) hb (by omega) (by omega) (by rw [rd_k (by omega)]; exact hR.2.2.2.2.2.1) (by omega)) (t := 20) (by decide) (by decide) rfl rfl rfl rfl rfl ⟨Nat.le_of_ble_eq_true rfl, Nat.le_of_ble_eq_true rfl⟩ (Nat.le_of_ble_eq_true rfl) ⟨rfl, rfl⟩ ⟨Nat.le_of_ble_eq_true rfl, Nat.le_of_ble_eq_true rfl⟩ dX7_readsPerson_108 (k_SI (fun v_108 S_108 h_108 => ?_))
                  have hfb := f_b t n (hA t n p 44)
                  have hr1 := h_108.1
                  have hr2 := h_108.2.1
                  have hFR2 := frM_RfP (frM_at hFR (by omega)) h_108
                  have h13b := h_108.2.2.1.2.1 13 (by omega)
                  rw [rd_i (by omega)] at h13b
                  refine y_istore_n (lv' := [(2, .int (iI (v_108))), (0, .ref (ad b (578))), (1, .int (iI (20 * S 578 13)))]) hB dX7_readsPerson_111 rfl (by decide) rfl ?_
                  refine y_goto hB 80 dX7_readsPerson_112 (by decide) ?_
                  refine y_sub (lv' := [(0, .ref (ad b (578))), (1, .int (iI (20 * S 578 13))), (2, .int (iI (v_108)))]) [1, 2, 0] rfl ?_
                  exact ih_80 (v_108) (if v_108 = 1 then i + 1 else i) (fA t n (hA t n p 44)) (if v_108 = 1 then up1 s i (fS t n (hA t n p 44)) else s) (if v_108 = 1 then up1 f i (fL t n (hA t n p 44)) else f) _ (by omega) (by split <;> omega) (by omega) hr2 hFR2 (h13b.trans h13) (fun h => (by rw [if_pos h, if_pos h, if_pos h]; exact ⟨RdM_fact (RdM_at hR) hi.1 h_108 h, (by rw [hpp, hf8, fsP_ok (by omega) (by omega)])⟩)) (fun h => (by rw [hpp, hf8, fsP_bad (by omega) (by omega)]; exact ⟨rfl, rfl⟩)) (by split <;> omega)
        refine y_sub (lv' := [(0, .ref (ad b (578))), (1, .int (iI (20 * S 578 13))), (2, .int (iI (0)))]) [2, 1, 0] rfl ?_
        exact LOOP_80 (((9 : Int)).toNat + 1) 0 0 (gA t n (hA t n (agA t n a) 114) 1 9) (fun _ => 0) (fun _ => 0) _ (Or.inl rfl) (by omega) (by omega) (TyS_k (by omega) (TyS_at (TyS_k (by omega) (TyS_k (by omega) (TyS_at (htx)))))) (frM_at (frM_at (frM_at (frM_at (frM_at (frM_0 S _) (by omega)) (by omega)) (by omega)) (by omega)) (by omega)) ((rd_k (by omega)).trans ((rd_i (by omega)).trans ((rd_k (by omega)).trans ((rd_k (by omega)).trans (rd_i (by omega)))))) (fun h => absurd h (by decide)) (fun _ => (by rw [pP_3 (by omega) (by omega) (by omega)]; exact ⟨rfl, rfl⟩)) (by omega)
      · refine y_iconst (v := 1) hB dX7_readsPerson_74 rfl ?_
        refine y_goto hB 79 dX7_readsPerson_75 (by decide) ?_
        refine y_istore_n (lv' := [(2, .int (iI (1))), (1, .int (iI (20 * S 578 13))), (0, .ref (ad b (578)))]) hB dX7_readsPerson_79 rfl (by decide) rfl ?_
        have LOOP_80 : ∀ (fu : Nat) (ok i p : Int) (s f : Int → Int) (SM : gM), (ok = 0 ∨ ok = 1) → (0 ≤ i ∧ i ≤ 8) → (0 ≤ p ∧ p ≤ 60) → (TyS SM t n p) → (frM S SM (20 * S 578 13)) → (SM 578 13 = S 578 13) → (ok = 1 → RdM S SM t n (20 * S 578 13) (agV t n a) (gV t n (hA t n (agA t n a) 114) 1 9) i p s f ∧ pP t n a = mkPR (agV t n a) (gV t n (hA t n (agA t n a) 114) 1 9) (fsP t n (8 - i).toNat p i s f)) → (ok = 0 → (pP t n a).ok = 0 ∧ (pP t n a).a = p) → 8 - i + ok < (fu : Int) → YM x G b 0 0 C SM 80 [(0, .ref (ad b (578))), (1, .int (iI (20 * S 578 13))), (2, .int (iI (ok)))] [] := by
          intro fu
          induction fu with
          | zero => intro ok i p s f SM hok hi hp htM hFR h13 h1 h0 hm_80; exfalso; omega
          | succ fu ih_80 =>
            intro ok i p s f SM hok hi hp htM hFR h13 h1 h0 hm_80
            refine y_iload_n hB 2 dX7_readsPerson_80 rfl rfl ?_
            refine y_if_eq hB 115 dX7_readsPerson_81 (by decide) (by omega) (fun c_81 => ?_) (fun c_81 => ?_)
            · refine y_aload_n hB 0 dX7_readsPerson_115 rfl rfl ?_
              refine y_dup hB dX7_readsPerson_116 rfl ?_
              refine gt_7_13 hB (by decide) (t1 := SM 578 13) rfl dX7_readsPerson_117 ?_
              refine y_iload_n hB 2 dX7_readsPerson_120 rfl rfl ?_
              refine y_if_eq hB 128 dX7_readsPerson_121 (by decide) (by omega) (fun c_121 => ?_) (fun c_121 => ?_)
              · refine y_iconst (v := 0) hB dX7_readsPerson_128 rfl ?_
                refine y_iadd (t := SM 578 13) hB dX7_readsPerson_129 (by omega) ?_
                refine pt_7_13 hB (by decide) dX7_readsPerson_130 ?_
                refine y_iload_n hB 2 dX7_readsPerson_133 rfl rfl ?_
                exact m_si hB hE dX7_readsPerson_134 (by rcases hok with g | g <;> rw [g] <;> rfl) (by first | (exfalso; omega) | exact RpP_bad (TyS_k (by omega) htM) (frM_at hFR (by omega)) (h0 (by omega)).1 (h0 (by omega)).2 (by rw [rd_hit rfl rfl]; omega) (by omega) | exact RpP_good hR (by rw [hpp, show (8 - i).toNat = 0 by omega]; rfl) (by omega) (by omega))
              · refine y_iconst (v := 1) hB dX7_readsPerson_124 rfl ?_
                refine y_goto hB 129 dX7_readsPerson_125 (by decide) ?_
                refine y_iadd (t := SM 578 13 + 1) hB dX7_readsPerson_129 (by omega) ?_
                refine pt_7_13 hB (by decide) dX7_readsPerson_130 ?_
                refine y_iload_n hB 2 dX7_readsPerson_133 rfl rfl ?_
                exact m_si hB hE dX7_readsPerson_134 (by rcases hok with g | g <;> rw [g] <;> rfl) (by first | (exfalso; omega) | exact RpP_bad (TyS_k (by omega) htM) (frM_at hFR (by omega)) (h0 (by omega)).1 (h0 (by omega)).2 (by rw [rd_hit rfl rfl]; omega) (by omega) | exact RpP_good hR (by rw [hpp, show (8 - i).toNat = 0 by omega]; rfl) (by omega) (by omega))
            · obtain ⟨hR, hpp⟩ := h1 (by omega)
              have hR6 := hR.2.2.2.2.2.1
              refine y_aload_n hB 0 dX7_readsPerson_84 rfl rfl ?_
              refine gt_7_11 hB (by decide) (t1 := 585) (by omega) dX7_readsPerson_85 ?_
              refine y_iload_n hB 1 dX7_readsPerson_88 rfl rfl ?_
              refine y_iconst (v := 2) hB dX7_readsPerson_89 rfl ?_
              refine y_iadd (t := 20 * S 578 13 + 2) hB dX7_readsPerson_90 (by omega) ?_
              refine ald_27 hB (by decide) (t1 := SM 585 (20 * S 578 13 + 2)) (by omega) rfl dX7_readsPerson_91 ?_
              refine y_bipush (v := 8) hB dX7_readsPerson_92 (by decide) ?_
              refine y_icmp_ge hB 115 dX7_readsPerson_94 (by decide) (by omega) (by omega) (fun c_94 => ?_) (fun c_94 => ?_)
              · refine y_aload_n hB 0 dX7_readsPerson_115 rfl rfl ?_
                refine y_dup hB dX7_readsPerson_116 rfl ?_
                refine gt_7_13 hB (by decide) (t1 := SM 578 13) rfl dX7_readsPerson_117 ?_
                refine y_iload_n hB 2 dX7_readsPerson_120 rfl rfl ?_
                refine y_if_eq hB 128 dX7_readsPerson_121 (by decide) (by omega) (fun c_121 => ?_) (fun c_121 => ?_)
                · refine y_iconst (v := 0) hB dX7_readsPerson_128 rfl ?_
                  refine y_iadd (t := SM 578 13) hB dX7_readsPerson_129 (by omega) ?_
                  refine pt_7_13 hB (by decide) dX7_readsPerson_130 ?_
                  refine y_iload_n hB 2 dX7_readsPerson_133 rfl rfl ?_
                  exact m_si hB hE dX7_readsPerson_134 (by rcases hok with g | g <;> rw [g] <;> rfl) (by first | (exfalso; omega) | exact RpP_bad (TyS_k (by omega) htM) (frM_at hFR (by omega)) (h0 (by omega)).1 (h0 (by omega)).2 (by rw [rd_hit rfl rfl]; omega) (by omega) | exact RpP_good hR (by rw [hpp, show (8 - i).toNat = 0 by omega]; rfl) (by omega) (by omega))
                · refine y_iconst (v := 1) hB dX7_readsPerson_124 rfl ?_
                  refine y_goto hB 129 dX7_readsPerson_125 (by decide) ?_
                  refine y_iadd (t := SM 578 13 + 1) hB dX7_readsPerson_129 (by omega) ?_
                  refine pt_7_13 hB (by decide) dX7_readsPerson_130 ?_
                  refine y_iload_n hB 2 dX7_readsPerson_133 rfl rfl ?_
                  exact m_si hB hE dX7_readsPerson_134 (by rcases hok with g | g <;> rw [g] <;> rfl) (by first | (exfalso; omega) | exact RpP_bad (TyS_k (by omega) htM) (frM_at hFR (by omega)) (h0 (by omega)).1 (h0 (by omega)).2 (by rw [rd_hit rfl rfl]; omega) (by omega) | exact RpP_good hR (by rw [hpp, show (8 - i).toNat = 0 by omega]; rfl) (by omega) (by omega))
              · have hf8 : (8 - i).toNat = (8 - (i + 1)).toNat + 1 := by omega
                refine y_aload_n hB 0 dX7_readsPerson_97 rfl rfl ?_
                refine y_bipush (v := 44) hB dX7_readsPerson_98 (by decide) ?_
                refine m_V hB msX7_accepts q830 (tX7_accepts _ G b C SM t n p 44 (htM) hb (by omega) (by omega)) (t := 20) (by decide) (by decide) rfl rfl rfl rfl rfl ⟨Nat.le_of_ble_eq_true rfl, Nat.le_of_ble_eq_true rfl⟩ (Nat.le_of_ble_eq_true rfl) ⟨rfl, rfl⟩ ⟨Nat.le_of_ble_eq_true rfl, Nat.le_of_ble_eq_true rfl⟩ dX7_readsPerson_100 (k_SI (fun v_100 S_100 h_100 => ?_))
                obtain ⟨rfl, rfl⟩ := h_100
                have hg_100 := hT_b t n p 44
                refine y_if_eq hB 115 dX7_readsPerson_103 (by decide) (by omega) (fun c_103 => ?_) (fun c_103 => ?_)
                · refine y_aload_n hB 0 dX7_readsPerson_115 rfl rfl ?_
                  refine y_dup hB dX7_readsPerson_116 rfl ?_
                  refine gt_7_13 hB (by decide) (t1 := SM 578 13) (rd_i (by omega)) dX7_readsPerson_117 ?_
                  refine y_iload_n hB 2 dX7_readsPerson_120 rfl rfl ?_
                  refine y_if_eq hB 128 dX7_readsPerson_121 (by decide) (by omega) (fun c_121 => ?_) (fun c_121 => ?_)
                  · refine y_iconst (v := 0) hB dX7_readsPerson_128 rfl ?_
                    refine y_iadd (t := SM 578 13) hB dX7_readsPerson_129 (by omega) ?_
                    refine pt_7_13 hB (by decide) dX7_readsPerson_130 ?_
                    refine y_iload_n hB 2 dX7_readsPerson_133 rfl rfl ?_
                    exact m_si hB hE dX7_readsPerson_134 (by rcases hok with g | g <;> rw [g] <;> rfl) (by first | (exfalso; omega) | exact RpP_good (RdM_at hR) (by rw [hpp, hf8, fsP_end (by omega)]; rfl) (by omega) (by omega))
                  · refine y_iconst (v := 1) hB dX7_readsPerson_124 rfl ?_
                    refine y_goto hB 129 dX7_readsPerson_125 (by decide) ?_
                    refine y_iadd (t := SM 578 13 + 1) hB dX7_readsPerson_129 (by omega) ?_
                    refine pt_7_13 hB (by decide) dX7_readsPerson_130 ?_
                    refine y_iload_n hB 2 dX7_readsPerson_133 rfl rfl ?_
                    exact m_si hB hE dX7_readsPerson_134 (by rcases hok with g | g <;> rw [g] <;> rfl) (by first | (exfalso; omega) | exact RpP_good (RdM_at hR) (by rw [hpp, hf8, fsP_end (by omega)]; rfl) (by omega) (by omega))
                · refine y_aload_n hB 0 dX7_readsPerson_106 rfl rfl ?_
                  refine y_iload_n hB 1 dX7_readsPerson_107 rfl rfl ?_
                  refine m_V hB msX7_readsFact q834 (tX7_readsFact _ G b C (up2 SM 578 12 (hA t n p 44)) t n (hA t n p 44) (20 * S 578 13) i (TyS_at (htM)) hb (by omega) (by omega) (by rw [rd_k (by omega)]; exact hR.2.2.2.2.2.1) (by omega)) (t := 20) (by decide) (by decide) rfl rfl rfl rfl rfl ⟨Nat.le_of_ble_eq_true rfl, Nat.le_of_ble_eq_true rfl⟩ (Nat.le_of_ble_eq_true rfl) ⟨rfl, rfl⟩ ⟨Nat.le_of_ble_eq_true rfl, Nat.le_of_ble_eq_true rfl⟩ dX7_readsPerson_108 (k_SI (fun v_108 S_108 h_108 => ?_))
                  have hfb := f_b t n (hA t n p 44)
                  have hr1 := h_108.1
                  have hr2 := h_108.2.1
                  have hFR2 := frM_RfP (frM_at hFR (by omega)) h_108
                  have h13b := h_108.2.2.1.2.1 13 (by omega)
                  rw [rd_i (by omega)] at h13b
                  refine y_istore_n (lv' := [(2, .int (iI (v_108))), (0, .ref (ad b (578))), (1, .int (iI (20 * S 578 13)))]) hB dX7_readsPerson_111 rfl (by decide) rfl ?_
                  refine y_goto hB 80 dX7_readsPerson_112 (by decide) ?_
                  refine y_sub (lv' := [(0, .ref (ad b (578))), (1, .int (iI (20 * S 578 13))), (2, .int (iI (v_108)))]) [1, 2, 0] rfl ?_
                  exact ih_80 (v_108) (if v_108 = 1 then i + 1 else i) (fA t n (hA t n p 44)) (if v_108 = 1 then up1 s i (fS t n (hA t n p 44)) else s) (if v_108 = 1 then up1 f i (fL t n (hA t n p 44)) else f) _ (by omega) (by split <;> omega) (by omega) hr2 hFR2 (h13b.trans h13) (fun h => (by rw [if_pos h, if_pos h, if_pos h]; exact ⟨RdM_fact (RdM_at hR) hi.1 h_108 h, (by rw [hpp, hf8, fsP_ok (by omega) (by omega)])⟩)) (fun h => (by rw [hpp, hf8, fsP_bad (by omega) (by omega)]; exact ⟨rfl, rfl⟩)) (by split <;> omega)
        refine y_sub (lv' := [(0, .ref (ad b (578))), (1, .int (iI (20 * S 578 13))), (2, .int (iI (1)))]) [2, 1, 0] rfl ?_
        exact LOOP_80 (((9 : Int)).toNat + 1) 1 0 (gA t n (hA t n (agA t n a) 114) 1 9) (fun _ => 0) (fun _ => 0) _ (Or.inr rfl) (by omega) (by omega) (TyS_k (by omega) (TyS_at (TyS_k (by omega) (TyS_k (by omega) (TyS_at (htx)))))) (frM_at (frM_at (frM_at (frM_at (frM_at (frM_0 S _) (by omega)) (by omega)) (by omega)) (by omega)) (by omega)) ((rd_k (by omega)).trans ((rd_i (by omega)).trans ((rd_k (by omega)).trans ((rd_k (by omega)).trans (rd_i (by omega)))))) (fun _ => ⟨⟨(TyS_k (by omega) (TyS_at (TyS_k (by omega) (TyS_k (by omega) (TyS_at (htx)))))), (frM_at (frM_at (frM_at (frM_at (frM_at (frM_0 S _) (by omega)) (by omega)) (by omega)) (by omega)) (by omega)), ((rd_k (by omega)).trans ((rd_i (by omega)).trans ((rd_k (by omega)).trans ((rd_k (by omega)).trans (rd_i (by omega)))))), (((rd_i (by omega)).trans ((rd_k (by omega)).trans ((rd_i (by omega)).trans (rd_hit (by omega) (by omega)))))).trans (by omega), ((rd_hit (by omega) (by omega))).trans (by omega), (((rd_i (by omega)).trans ((rd_k (by omega)).trans (rd_hit (by omega) (by omega))))).trans (by omega), fun j a1 a2 => by omega⟩, (by rw [pP_4 (by omega) (by omega) (by omega) rfl]; rfl)⟩) (fun h => absurd h (by decide)) (by omega)
    · refine y_iconst (v := 0) hB dX7_readsPerson_45 rfl ?_
      exact m_si hB hE dX7_readsPerson_46 rfl (RpP_bad (TyS_at (TyS_k (by omega) (TyS_k (by omega) (TyS_at (htx))))) (frM_at (frM_at (frM_at (frM_at (frM_0 S _) (by omega)) (by omega)) (by omega)) (by omega)) (by rw [pP_2 (by omega) (by omega)]) (by rw [pP_2 (by omega) (by omega)]) (by have h9 := (((rd_i (by omega)).trans ((rd_k (by omega)).trans ((rd_k (by omega)).trans (rd_i (by omega))))) : (up2 (up2 (up2 (up2 S 578 12 (agA t n a)) 585 (20 * S 578 13) (agW t n a)) 585 (20 * S 578 13 + 2) 0) 578 12 (hA t n (agA t n a) 114)) 578 13 = S 578 13); omega) rfl)
