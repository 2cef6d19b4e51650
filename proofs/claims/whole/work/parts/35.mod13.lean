/-! the other class: a page printed -/
def mpPn (M : gM) : Nat → gM
  | 0 => M
  | k + 1 => up2 (up2 (mpPn M k) 579 (32 * M 582 k + 18) 3) 579 (32 * M 582 k + 22) (M 579 0)
def mpP (M : gM) (i : Int) : gM := mpPn M i.toNat
theorem mpP_0 (M : gM) : mpP M 0 = M := rfl
theorem mpP_s {M : gM} {i : Int} (h : 0 ≤ i) : up2 (up2 (mpP M i) 579 (32 * M 582 i + 18) 3) 579 (32 * M 582 i + 22) (M 579 0) = mpP M (i + 1) := by
  unfold mpP
  rw [show (i + 1).toNat = i.toNat + 1 by omega]
  show _ = up2 (up2 (mpPn M i.toNat) 579 (32 * M 582 (i.toNat : Int) + 18) 3) 579 (32 * M 582 (i.toNat : Int) + 22) (M 579 0)
  rw [Int.toNat_of_nonneg h]
theorem mpP_ne {M : gM} {i x : Int} (hx : x ≠ 579) : mpP M i x = M x := by
  unfold mpP
  generalize i.toNat = k
  induction k with
  | zero => rfl
  | succ k ih =>
    show up2 (up2 (mpPn M k) 579 _ 3) 579 _ _ x = M x
    rw [up2_ne _ _ _ hx, up2_ne _ _ _ hx]
    exact ih
theorem mpP_j {M : gM} {i j : Int} (h : (j - 18) % 32 ≠ 0 ∧ (j - 22) % 32 ≠ 0) : mpP M i 579 j = M 579 j := by
  unfold mpP
  generalize i.toNat = k
  induction k with
  | zero => rfl
  | succ k ih =>
    show up2 (up2 (mpPn M k) 579 (32 * M 582 k + 18) 3) 579 (32 * M 582 k + 22) _ 579 j = M 579 j
    rw [rd_i (by omega), rd_i (by omega)]
    exact ih
theorem mpP_18 {M : gM} {i j : Int} (h : 0 ≤ M 579 (32 * j + 18) ∧ M 579 (32 * j + 18) ≤ 3) : 0 ≤ mpP M i 579 (32 * j + 18) ∧ mpP M i 579 (32 * j + 18) ≤ 3 := by
  unfold mpP
  generalize i.toNat = k
  induction k with
  | zero => exact h
  | succ k ih =>
    show 0 ≤ up2 (up2 (mpPn M k) 579 (32 * M 582 k + 18) 3) 579 (32 * M 582 k + 22) _ 579 (32 * j + 18) ∧ up2 (up2 (mpPn M k) 579 (32 * M 582 k + 18) 3) 579 (32 * M 582 k + 22) _ 579 (32 * j + 18) ≤ 3
    rw [rd_i (by omega), rd_at]
    split
    · omega
    · exact ih
def mtb (M : gM) (n : Int) : gM := fun a => if a = 579 then (fun k => if ((k - 18) % 32 = 0 ∧ 18 ≤ k ∧ k < 32 * n + 18) ∧ M 579 k = 1 ∧ M 579 (k + 2) + M 579 8 ≤ M 579 0 + 1 then 0 else M 579 k) else M a
theorem mtb_ne {M : gM} {n a : Int} (h : a ≠ 579) : mtb M n a = M a := by unfold mtb; rw [if_neg h]
theorem mtb_j {M : gM} {n k : Int} (h : ¬ ((k - 18) % 32 = 0 ∧ 18 ≤ k ∧ k < 32 * n + 18)) : mtb M n 579 k = M 579 k := by unfold mtb; rw [if_pos rfl]; exact if_neg (fun z => h z.1)
theorem mtb_0 (M : gM) : mtb M 0 = M := by
  funext a k
  by_cases h : a = 579
  · subst h; exact mtb_j (by omega)
  · rw [mtb_ne h]
theorem mtb_s {M : gM} {k x : Int} (hk : 0 ≤ k) (hx : (M 579 (32 * k + 18) = 1 ∧ M 579 (32 * k + 20) + M 579 8 ≤ M 579 0 + 1 ∧ x = 0) ∨ (¬ (M 579 (32 * k + 18) = 1 ∧ M 579 (32 * k + 20) + M 579 8 ≤ M 579 0 + 1) ∧ x = M 579 (32 * k + 18))) : up2 (mtb M k) 579 (32 * k + 18) x = mtb M (k + 1) := by
  funext a j
  by_cases h : a = 579
  · subst h
    rw [rd_at]
    by_cases hj : j = 32 * k + 18
    · subst hj
      rw [if_pos rfl]
      unfold mtb
      rw [if_pos rfl, show 32 * k + 18 + 2 = 32 * k + 20 by omega]
      rcases hx with ⟨h1, h2, h3⟩ | ⟨h1, h2⟩
      · rw [h3]; exact (if_pos ⟨by omega, h1, h2⟩).symm
      · rw [h2]; exact (if_neg (fun z => h1 z.2)).symm
    · rw [if_neg hj]
      unfold mtb
      rw [if_pos rfl, if_pos rfl]
      refine ite_c ?_
      exact and_congr (by omega) Iff.rfl
  · rw [up2_ne _ _ _ h, mtb_ne h, mtb_ne h]
def prtS (M : gM) : gM := up2 (up2 (mtb M (M 579 1)) 579 0 (mtb M (M 579 1) 579 0 + 1)) 579 2 (mtb M (M 579 1) 579 4)
theorem LyD_pg {S S' : gM} (h : LyD S S') : ∀ k : Int, 0 ≤ k → k < S' 578 5 → 0 ≤ S' 582 k ∧ S' 582 k < 20 := by
  intro k a1 a2
  obtain ⟨e, m, h1, h2, h3, h4, h5⟩ := h
  rw [h3] at a2
  obtain ⟨s, b1, b2, b3, b4⟩ := pg_at h1.1.1 ⟨a1, a2⟩
  have := h4 s b1 b2 b3
  rw [b4] at this
  rw [this]
  have := h1.2.1 s b1 b2
  omega
set_option maxHeartbeats 4000000 in
theorem tX7_print (l : Launch) (G : gG) (b : Nat) (C S : gM) (N : Int) (hM : MO (S 579) N) (hN : N ≤ 512) (h4 : 0 ≤ S 578 9 ∧ S 578 9 ≤ 4) : Ct l G b yX7_print cX7_print 3 (some .int) rmX7_print [.ref (ad b (578))] 586 (wM G b C S) (SI G b C (fun v S' => ∃ L, LyD (recS S) L ∧ v = L 578 5 ∧ S' = prtS (mpP L (L 578 5)))) := by
  refine CtK_of (by decide) (Nat.le_of_ble_eq_true rfl) q925 ?_
  intro x hl hB hE _
  subst hl
  show YM x G b 0 0 C S 0 [(0, .ref (ad b (578)))] []
  obtain ⟨hm1, hm0, hm2, hm3, hm4, hm5, hm6, hm7, hm8, hmt, hmp, hmz⟩ := id hM
  refine y_aload_n hB 0 dX7_print_0 rfl rfl ?_
  refine gt_7_0 hB (by decide) (t1 := 579) (by omega) dX7_print_1 ?_
  refine y_iconst (v := 0) hB dX7_print_4 rfl ?_
  refine ald_21 hB (by decide) (t1 := S 579 0) (by omega) rfl dX7_print_5 ?_
  refine y_sipush (v := 9999) hB dX7_print_6 (by decide) ?_
  refine y_icmp_ne hB 15 dX7_print_9 (by decide) (by omega) (by omega) (fun c_9 => ?_) (fun c_9 => ?_)
  · refine y_aload_n hB 0 dX7_print_15 rfl rfl ?_
    refine m_V hB msX7_record q795 (tX7_record _ G b C S (by omega)) (t := 20) (by decide) (by decide) rfl rfl rfl rfl rfl ⟨Nat.le_of_ble_eq_true rfl, Nat.le_of_ble_eq_true rfl⟩ (Nat.le_of_ble_eq_true rfl) ⟨rfl, rfl⟩ ⟨Nat.le_of_ble_eq_true rfl, Nat.le_of_ble_eq_true rfl⟩ dX7_print_16 (k_SV (fun S_16 h_16 => ?_))
    obtain rfl := h_16
    have er : (recS S) 579 = S 579 := recS_out (by omega)
    have er0 : (recS S) 579 1 = S 579 1 := by rw [er]
    have er1 : (recS S) 579 0 = S 579 0 := by rw [er]
    have hMR : MO ((recS S) 579) N := by rw [er]; exact hM
    refine y_aload_n hB 0 dX7_print_19 rfl rfl ?_
    refine m_V hB msX7_layPage q926 (tX7_layPage _ G b C (recS S) N hMR hN) (t := 20) (by decide) (by decide) rfl rfl rfl rfl rfl ⟨Nat.le_of_ble_eq_true rfl, Nat.le_of_ble_eq_true rfl⟩ (Nat.le_of_ble_eq_true rfl) ⟨rfl, rfl⟩ ⟨Nat.le_of_ble_eq_true rfl, Nat.le_of_ble_eq_true rfl⟩ dX7_print_20 (k_SV (fun S_20 h_20 => ?_))
    have hb_20 := LyD_b h_20
    have hpg := LyD_pg h_20
    have eL : S_20 579 = (recS S) 579 := by obtain ⟨e, m, q1, q2, q3, q4, q5, q6⟩ := id h_20; exact q5 579 (by omega) (by omega) (by omega)
    have eR8 := hMR.2.2.2.2.2.2.2.2.1
    refine y_iconst (v := 0) hB dX7_print_23 rfl ?_
    refine y_istore_n (lv' := [(1, .int (iI (0))), (0, .ref (ad b (578)))]) hB dX7_print_24 rfl (by decide) rfl ?_
    have LOOP_25 : ∀ (fu : Nat) (i : Int), (0 ≤ i ∧ i ≤ S_20 578 5) → S_20 578 5 - i < (fu : Int) → YM x G b 0 0 C (mpP S_20 i) 25 [(0, .ref (ad b (578))), (1, .int (iI (i)))] [] := by
      intro fu
      induction fu with
      | zero => intro i hi hm_25; exfalso; omega
      | succ fu ih_25 =>
        intro i hi hm_25
        have e5 : mpP S_20 i 578 5 = S_20 578 5 := by rw [mpP_ne (by omega)]
        have e582 : mpP S_20 i 582 = S_20 582 := mpP_ne (by omega)
        have e0 : mpP S_20 i 579 0 = S_20 579 0 := mpP_j (by omega)
        refine y_iload_n hB 1 dX7_print_25 rfl rfl ?_
        refine y_aload_n hB 0 dX7_print_26 rfl rfl ?_
        refine gt_7_5 hB (by decide) (t1 := (mpP S_20 i) 578 5) rfl dX7_print_27 ?_
        refine y_icmp_ge hB 79 dX7_print_30 (by decide) (by omega) (by omega) (fun c_30 => ?_) (fun c_30 => ?_)
        · have hie : i = S_20 578 5 := by omega
          obtain ⟨M2, hM2⟩ : ∃ M2, mpP S_20 i = M2 := ⟨_, rfl⟩
          have g1 : M2 579 1 = (recS S) 579 1 := by rw [← hM2, mpP_j (by omega), eL]
          have g0 : M2 579 0 = (recS S) 579 0 := by rw [← hM2, mpP_j (by omega), eL]
          have g8 : M2 579 8 = (recS S) 579 8 := by rw [← hM2, mpP_j (by omega), eL]
          have g4 : M2 579 4 = (recS S) 579 4 := by rw [← hM2, mpP_j (by omega), eL]
          have g5 : M2 578 5 = S_20 578 5 := by rw [← hM2, mpP_ne (by omega)]
          have gs : ∀ k : Int, 0 ≤ k → k < 20 → 0 ≤ M2 579 (32 * k + 18) ∧ M2 579 (32 * k + 18) ≤ 3 := fun k a1 a2 => by rw [← hM2]; exact mpP_18 (by rw [eL]; exact MO_st hMR k a1 a2)
          have gt : ∀ k : Int, 0 ≤ k → k < 20 → 0 ≤ M2 579 (32 * k + 20) ∧ M2 579 (32 * k + 20) ≤ N := fun k a1 a2 => by rw [← hM2, mpP_j (by omega), eL]; have h9 := (hMR.2.2.2.2.2.2.2.2.2.2.1 k a1 a2).2.2.2.2.1; have h8 := hMR.2.1; omega
          rw [hM2]
          refine y_iconst (v := 0) hB dX7_print_79 rfl ?_
          refine y_istore_n (lv' := [(1, .int (iI (0))), (0, .ref (ad b (578)))]) hB dX7_print_80 rfl (by decide) rfl ?_
          have LOOP_81 : ∀ (fu : Nat) (k : Int), (0 ≤ k ∧ k ≤ (recS S) 579 1) → (recS S) 579 1 - k < (fu : Int) → YM x G b 0 0 C (mtb M2 k) 81 [(0, .ref (ad b (578))), (1, .int (iI (k)))] [] := by
            intro fu
            induction fu with
            | zero => intro k hk hm_81; exfalso; omega
            | succ fu ih_81 =>
              intro k hk hm_81
              have k1 : mtb M2 k 579 1 = (recS S) 579 1 := by rw [mtb_j (by omega)]; exact g1
              have k0 : mtb M2 k 579 0 = M2 579 0 := mtb_j (by omega)
              have k8 : mtb M2 k 579 8 = M2 579 8 := mtb_j (by omega)
              have k18 : mtb M2 k 579 (32 * k + 18) = M2 579 (32 * k + 18) := mtb_j (by omega)
              have k20 : mtb M2 k 579 (32 * k + 20) = M2 579 (32 * k + 20) := mtb_j (by omega)
              have k5 : mtb M2 k 578 5 = S_20 578 5 := by rw [mtb_ne (by omega)]; exact g5
              refine y_iload_n hB 1 dX7_print_81 rfl rfl ?_
              refine y_aload_n hB 0 dX7_print_82 rfl rfl ?_
              refine gt_7_0 hB (by decide) (t1 := 579) (by omega) dX7_print_83 ?_
              refine y_iconst (v := 1) hB dX7_print_86 rfl ?_
              refine ald_21 hB (by decide) (t1 := (mtb M2 k) 579 1) (by omega) rfl dX7_print_87 ?_
              refine y_icmp_ge hB 163 dX7_print_88 (by decide) (by omega) (by omega) (fun c_88 => ?_) (fun c_88 => ?_)
              · refine y_aload_n hB 0 dX7_print_163 rfl rfl ?_
                refine gt_7_0 hB (by decide) (t1 := 579) (by omega) dX7_print_164 ?_
                refine y_iconst (v := 0) hB dX7_print_167 rfl ?_
                refine y_dup2 hB dX7_print_168 rfl rfl ?_
                refine ald_21 hB (by decide) (t1 := (mtb M2 k) 579 0) (by omega) rfl dX7_print_169 ?_
                refine y_iconst (v := 1) hB dX7_print_170 rfl ?_
                refine y_iadd (t := (mtb M2 k) 579 0 + 1) hB dX7_print_171 (by omega) ?_
                refine ast_21 hB (by decide) (by omega) dX7_print_172 ?_
                refine y_aload_n hB 0 dX7_print_173 rfl rfl ?_
                refine gt_7_0 hB (by decide) (t1 := 579) (by omega) dX7_print_174 ?_
                refine y_iconst (v := 2) hB dX7_print_177 rfl ?_
                refine y_aload_n hB 0 dX7_print_178 rfl rfl ?_
                refine gt_7_0 hB (by decide) (t1 := 579) (by omega) dX7_print_179 ?_
                refine y_iconst (v := 4) hB dX7_print_182 rfl ?_
                refine ald_21 hB (by decide) (t1 := (mtb M2 k) 579 4) (by omega) (rd_i (by omega)) dX7_print_183 ?_
                refine ast_21 hB (by decide) (by omega) dX7_print_184 ?_
                refine y_aload_n hB 0 dX7_print_185 rfl rfl ?_
                refine gt_7_5 hB (by decide) (t1 := (mtb M2 k) 578 5) ((rd_k (by omega)).trans (rd_k (by omega))) dX7_print_186 ?_
                exact m_si hB hE dX7_print_189 rfl (⟨S_20, h_20, k5, by rw [← hie, hM2]; unfold prtS; rw [show M2 579 1 = k by omega]⟩)
              · have hsk := gs k hk.1 (by omega)
                have htk := gt k hk.1 (by omega)
                refine y_aload_n hB 0 dX7_print_91 rfl rfl ?_
                refine y_iload_n hB 1 dX7_print_92 rfl rfl ?_
                refine y_iconst (v := 2) hB dX7_print_93 rfl ?_
                refine m_V hB msX7_of q842 (tX7_of _ G b C (mtb M2 k) k 2 (32 * k + 18) ((mtb M2 k) 579 (32 * k + 18)) (by omega) (by omega) rfl) (t := 20) (by decide) (by decide) rfl rfl rfl rfl rfl ⟨Nat.le_of_ble_eq_true rfl, Nat.le_of_ble_eq_true rfl⟩ (Nat.le_of_ble_eq_true rfl) ⟨rfl, rfl⟩ ⟨Nat.le_of_ble_eq_true rfl, Nat.le_of_ble_eq_true rfl⟩ dX7_print_94 (k_RI (fun v_94 h_94 => ?_))
                obtain rfl := h_94
                refine y_iconst (v := 1) hB dX7_print_97 rfl ?_
                refine y_icmp_ne hB 130 dX7_print_98 (by decide) (by omega) (by omega) (fun c_98 => ?_) (fun c_98 => ?_)
                · refine y_iconst (v := 0) hB dX7_print_130 rfl ?_
                  refine y_istore_n (lv' := [(2, .int (iI (0))), (0, .ref (ad b (578))), (1, .int (iI (k)))]) hB dX7_print_131 rfl (by decide) rfl ?_
                  refine y_aload_n hB 1 dX7_print_132 rfl rfl ?_
                  refine gt_7_0 hB (by decide) (t1 := 579) (by omega) dX7_print_133 ?_
                  refine y_iload_n hB 2 dX7_print_136 rfl rfl ?_
                  refine m_S hB msX7_p q803 (tX7_p _ G b C (mtb M2 k) k (32 * k + 16) (by omega)) rfl rfl ⟨Nat.le_of_ble_eq_true rfl, Nat.le_of_ble_eq_true rfl⟩ (Nat.le_of_ble_eq_true rfl) ⟨rfl, rfl⟩ ⟨Nat.le_of_ble_eq_true rfl, Nat.le_of_ble_eq_true rfl⟩ dX7_print_137 (k_RI (fun v_137 h_137 => ?_))
                  obtain rfl := h_137
                  refine y_iconst (v := 2) hB dX7_print_140 rfl ?_
                  refine y_iadd (t := 32 * k + 18) hB dX7_print_141 (by omega) ?_
                  refine y_iload_n hB 0 dX7_print_142 rfl rfl ?_
                  refine y_if_eq hB 150 dX7_print_143 (by decide) (by omega) (fun c_143 => ?_) (fun c_143 => ?_)
                  · refine y_aload_n hB 1 dX7_print_150 rfl rfl ?_
                    refine y_iload_n hB 2 dX7_print_151 rfl rfl ?_
                    refine y_iconst (v := 2) hB dX7_print_152 rfl ?_
                    refine m_V hB msX7_of q842 (tX7_of _ G b C (mtb M2 k) k 2 (32 * k + 18) ((mtb M2 k) 579 (32 * k + 18)) (by omega) (by omega) rfl) (t := 20) (by decide) (by decide) rfl rfl rfl rfl rfl ⟨Nat.le_of_ble_eq_true rfl, Nat.le_of_ble_eq_true rfl⟩ (Nat.le_of_ble_eq_true rfl) ⟨rfl, rfl⟩ ⟨Nat.le_of_ble_eq_true rfl, Nat.le_of_ble_eq_true rfl⟩ dX7_print_153 (k_RI (fun v_153 h_153 => ?_))
                    obtain rfl := h_153
                    refine ast_21 hB (by decide) (by omega) dX7_print_156 ?_
                    refine y_iinc (v := k + 1) (lv' := [(1, .int (iI (k + 1))), (2, .int (iI (0))), (0, .ref (ad b (578)))]) hB 2 dX7_print_157 rfl (by omega) (by decide) rfl ?_
                    refine y_goto hB 81 dX7_print_160 (by decide) ?_
                    refine y_sub (lv' := [(0, .ref (ad b (578))), (1, .int (iI (k + 1)))]) [2, 0] rfl ?_
                    rw [mtb_s hk.1 (by omega)]
                    exact ih_81 (k + 1) (by omega) (by omega)
                  · exfalso
                    omega
                · refine y_aload_n hB 0 dX7_print_101 rfl rfl ?_
                  refine gt_7_0 hB (by decide) (t1 := 579) (by omega) dX7_print_102 ?_
                  refine y_iconst (v := 0) hB dX7_print_105 rfl ?_
                  refine ald_21 hB (by decide) (t1 := (mtb M2 k) 579 0) (by omega) rfl dX7_print_106 ?_
                  refine y_iconst (v := 1) hB dX7_print_107 rfl ?_
                  refine y_iadd (t := (mtb M2 k) 579 0 + 1) hB dX7_print_108 (by omega) ?_
                  refine y_aload_n hB 0 dX7_print_109 rfl rfl ?_
                  refine y_iload_n hB 1 dX7_print_110 rfl rfl ?_
                  refine y_iconst (v := 4) hB dX7_print_111 rfl ?_
                  refine m_V hB msX7_of q842 (tX7_of _ G b C (mtb M2 k) k 4 (32 * k + 20) ((mtb M2 k) 579 (32 * k + 20)) (by omega) (by omega) rfl) (t := 20) (by decide) (by decide) rfl rfl rfl rfl rfl ⟨Nat.le_of_ble_eq_true rfl, Nat.le_of_ble_eq_true rfl⟩ (Nat.le_of_ble_eq_true rfl) ⟨rfl, rfl⟩ ⟨Nat.le_of_ble_eq_true rfl, Nat.le_of_ble_eq_true rfl⟩ dX7_print_112 (k_RI (fun v_112 h_112 => ?_))
                  obtain rfl := h_112
                  refine y_aload_n hB 0 dX7_print_115 rfl rfl ?_
                  refine gt_7_0 hB (by decide) (t1 := 579) (by omega) dX7_print_116 ?_
                  refine y_bipush (v := 8) hB dX7_print_119 (by decide) ?_
                  refine ald_21 hB (by decide) (t1 := (mtb M2 k) 579 8) (by omega) rfl dX7_print_121 ?_
                  refine y_iadd (t := ((mtb M2 k) 579 (32 * k + 20)) + (mtb M2 k) 579 8) hB dX7_print_122 (by omega) ?_
                  refine y_icmp_lt hB 130 dX7_print_123 (by decide) (by omega) (by omega) (fun c_123 => ?_) (fun c_123 => ?_)
                  · refine y_iconst (v := 0) hB dX7_print_130 rfl ?_
                    refine y_istore_n (lv' := [(2, .int (iI (0))), (0, .ref (ad b (578))), (1, .int (iI (k)))]) hB dX7_print_131 rfl (by decide) rfl ?_
                    refine y_aload_n hB 1 dX7_print_132 rfl rfl ?_
                    refine gt_7_0 hB (by decide) (t1 := 579) (by omega) dX7_print_133 ?_
                    refine y_iload_n hB 2 dX7_print_136 rfl rfl ?_
                    refine m_S hB msX7_p q803 (tX7_p _ G b C (mtb M2 k) k (32 * k + 16) (by omega)) rfl rfl ⟨Nat.le_of_ble_eq_true rfl, Nat.le_of_ble_eq_true rfl⟩ (Nat.le_of_ble_eq_true rfl) ⟨rfl, rfl⟩ ⟨Nat.le_of_ble_eq_true rfl, Nat.le_of_ble_eq_true rfl⟩ dX7_print_137 (k_RI (fun v_137 h_137 => ?_))
                    obtain rfl := h_137
                    refine y_iconst (v := 2) hB dX7_print_140 rfl ?_
                    refine y_iadd (t := 32 * k + 18) hB dX7_print_141 (by omega) ?_
                    refine y_iload_n hB 0 dX7_print_142 rfl rfl ?_
                    refine y_if_eq hB 150 dX7_print_143 (by decide) (by omega) (fun c_143 => ?_) (fun c_143 => ?_)
                    · refine y_aload_n hB 1 dX7_print_150 rfl rfl ?_
                      refine y_iload_n hB 2 dX7_print_151 rfl rfl ?_
                      refine y_iconst (v := 2) hB dX7_print_152 rfl ?_
                      refine m_V hB msX7_of q842 (tX7_of _ G b C (mtb M2 k) k 2 (32 * k + 18) ((mtb M2 k) 579 (32 * k + 18)) (by omega) (by omega) rfl) (t := 20) (by decide) (by decide) rfl rfl rfl rfl rfl ⟨Nat.le_of_ble_eq_true rfl, Nat.le_of_ble_eq_true rfl⟩ (Nat.le_of_ble_eq_true rfl) ⟨rfl, rfl⟩ ⟨Nat.le_of_ble_eq_true rfl, Nat.le_of_ble_eq_true rfl⟩ dX7_print_153 (k_RI (fun v_153 h_153 => ?_))
                      obtain rfl := h_153
                      refine ast_21 hB (by decide) (by omega) dX7_print_156 ?_
                      refine y_iinc (v := k + 1) (lv' := [(1, .int (iI (k + 1))), (2, .int (iI (0))), (0, .ref (ad b (578)))]) hB 2 dX7_print_157 rfl (by omega) (by decide) rfl ?_
                      refine y_goto hB 81 dX7_print_160 (by decide) ?_
                      refine y_sub (lv' := [(0, .ref (ad b (578))), (1, .int (iI (k + 1)))]) [2, 0] rfl ?_
                      rw [mtb_s hk.1 (by omega)]
                      exact ih_81 (k + 1) (by omega) (by omega)
                    · exfalso
                      omega
                  · refine y_iconst (v := 1) hB dX7_print_126 rfl ?_
                    refine y_goto hB 131 dX7_print_127 (by decide) ?_
                    refine y_istore_n (lv' := [(2, .int (iI (1))), (0, .ref (ad b (578))), (1, .int (iI (k)))]) hB dX7_print_131 rfl (by decide) rfl ?_
                    refine y_aload_n hB 1 dX7_print_132 rfl rfl ?_
                    refine gt_7_0 hB (by decide) (t1 := 579) (by omega) dX7_print_133 ?_
                    refine y_iload_n hB 2 dX7_print_136 rfl rfl ?_
                    refine m_S hB msX7_p q803 (tX7_p _ G b C (mtb M2 k) k (32 * k + 16) (by omega)) rfl rfl ⟨Nat.le_of_ble_eq_true rfl, Nat.le_of_ble_eq_true rfl⟩ (Nat.le_of_ble_eq_true rfl) ⟨rfl, rfl⟩ ⟨Nat.le_of_ble_eq_true rfl, Nat.le_of_ble_eq_true rfl⟩ dX7_print_137 (k_RI (fun v_137 h_137 => ?_))
                    obtain rfl := h_137
                    refine y_iconst (v := 2) hB dX7_print_140 rfl ?_
                    refine y_iadd (t := 32 * k + 18) hB dX7_print_141 (by omega) ?_
                    refine y_iload_n hB 0 dX7_print_142 rfl rfl ?_
                    refine y_if_eq hB 150 dX7_print_143 (by decide) (by omega) (fun c_143 => ?_) (fun c_143 => ?_)
                    · exfalso
                      omega
                    · refine y_iconst (v := 0) hB dX7_print_146 rfl ?_
                      refine y_goto hB 156 dX7_print_147 (by decide) ?_
                      refine ast_21 hB (by decide) (by omega) dX7_print_156 ?_
                      refine y_iinc (v := k + 1) (lv' := [(1, .int (iI (k + 1))), (2, .int (iI (1))), (0, .ref (ad b (578)))]) hB 2 dX7_print_157 rfl (by omega) (by decide) rfl ?_
                      refine y_goto hB 81 dX7_print_160 (by decide) ?_
                      refine y_sub (lv' := [(0, .ref (ad b (578))), (1, .int (iI (k + 1)))]) [2, 0] rfl ?_
                      rw [mtb_s hk.1 (by omega)]
                      exact ih_81 (k + 1) (by omega) (by omega)
          refine y_sub (lv' := [(0, .ref (ad b (578))), (1, .int (iI (0)))]) [1, 0] rfl ?_
          rw [← mtb_0 M2]
          exact LOOP_81 (((recS S) 579 1).toNat + 1) 0 (by omega) (by omega)
        · have hpi := hpg i hi.1 (by omega)
          have hpi2 : mpP S_20 i 582 i = S_20 582 i := by rw [e582]
          refine y_aload_n hB 0 dX7_print_33 rfl rfl ?_
          refine gt_7_0 hB (by decide) (t1 := 579) (by omega) dX7_print_34 ?_
          refine y_aload_n hB 0 dX7_print_37 rfl rfl ?_
          refine gt_7_3 hB (by decide) (t1 := 582) (by omega) dX7_print_38 ?_
          refine y_iload_n hB 1 dX7_print_41 rfl rfl ?_
          refine ald_24 hB (by decide) (t1 := (mpP S_20 i) 582 i) (by omega) rfl dX7_print_42 ?_
          refine m_S hB msX7_p q803 (tX7_p _ G b C (mpP S_20 i) ((mpP S_20 i) 582 i) (32 * ((mpP S_20 i) 582 i) + 16) (by omega)) rfl rfl ⟨Nat.le_of_ble_eq_true rfl, Nat.le_of_ble_eq_true rfl⟩ (Nat.le_of_ble_eq_true rfl) ⟨rfl, rfl⟩ ⟨Nat.le_of_ble_eq_true rfl, Nat.le_of_ble_eq_true rfl⟩ dX7_print_43 (k_RI (fun v_43 h_43 => ?_))
          obtain rfl := h_43
          refine y_iconst (v := 2) hB dX7_print_46 rfl ?_
          refine y_iadd (t := 32 * ((mpP S_20 i) 582 i) + 18) hB dX7_print_47 (by omega) ?_
          refine y_iconst (v := 3) hB dX7_print_48 rfl ?_
          refine ast_21 hB (by decide) (by omega) dX7_print_49 ?_
          refine y_aload_n hB 0 dX7_print_50 rfl rfl ?_
          refine gt_7_0 hB (by decide) (t1 := 579) (by omega) dX7_print_51 ?_
          refine y_aload_n hB 0 dX7_print_54 rfl rfl ?_
          refine gt_7_3 hB (by decide) (t1 := 582) (by omega) dX7_print_55 ?_
          refine y_iload_n hB 1 dX7_print_58 rfl rfl ?_
          refine ald_24 hB (by decide) (t1 := (mpP S_20 i) 582 i) (by omega) (rd_k (by omega)) dX7_print_59 ?_
          refine m_S hB msX7_p q803 (tX7_p _ G b C (up2 (mpP S_20 i) 579 (32 * ((mpP S_20 i) 582 i) + 18) 3) ((mpP S_20 i) 582 i) (32 * ((mpP S_20 i) 582 i) + 16) (by omega)) rfl rfl ⟨Nat.le_of_ble_eq_true rfl, Nat.le_of_ble_eq_true rfl⟩ (Nat.le_of_ble_eq_true rfl) ⟨rfl, rfl⟩ ⟨Nat.le_of_ble_eq_true rfl, Nat.le_of_ble_eq_true rfl⟩ dX7_print_60 (k_RI (fun v_60 h_60 => ?_))
          obtain rfl := h_60
          refine y_bipush (v := 6) hB dX7_print_63 (by decide) ?_
          refine y_iadd (t := 32 * ((mpP S_20 i) 582 i) + 22) hB dX7_print_65 (by omega) ?_
          refine y_aload_n hB 0 dX7_print_66 rfl rfl ?_
          refine gt_7_0 hB (by decide) (t1 := 579) (by omega) dX7_print_67 ?_
          refine y_iconst (v := 0) hB dX7_print_70 rfl ?_
          refine ald_21 hB (by decide) (t1 := (up2 (mpP S_20 i) 579 (32 * ((mpP S_20 i) 582 i) + 18) 3) 579 0) (by omega) rfl dX7_print_71 ?_
          refine ast_21 hB (by decide) (by omega) dX7_print_72 ?_
          refine y_iinc (v := i + 1) (lv' := [(1, .int (iI (i + 1))), (0, .ref (ad b (578)))]) hB 1 dX7_print_73 rfl (by omega) (by decide) rfl ?_
          refine y_goto hB 25 dX7_print_76 (by decide) ?_
          refine y_sub (lv' := [(0, .ref (ad b (578))), (1, .int (iI (i + 1)))]) [1, 0] rfl ?_
          rw [e582, rd_i (by omega), e0, mpP_s hi.1]
          exact ih_25 (i + 1) (by omega) (by omega)
    refine y_sub (lv' := [(0, .ref (ad b (578))), (1, .int (iI (0)))]) [1, 0] rfl ?_
    rw [← mpP_0 S_20]
    exact LOOP_25 ((S_20 578 5).toNat + 1) 0 (by omega) (by omega)
  · exfalso
    omega
