/-! the other class: its checks of the most urgent, its urgent, its counts -/
theorem MO_chk {f f' : Int → Int} {N k q : Int} (h : MO f N) (hk : 0 ≤ k ∧ k < 20) (hq : 0 ≤ q ∧ q < f (32 * k + 19)) (h2 : 1 ≤ f 2) (e : ∀ x : Int, f' x = if x = 2 then f 2 - 1 else if x = 32 * k + 3 * q + 26 then f 0 else f x) : MO f' N := by
  obtain ⟨g1, g0, g2, g3, g4, g5, g6, g7, g8, g9, gp, gz⟩ := h
  have hk8 := (gp k hk.1 hk.2).2.2.2.1
  have O : ∀ x : Int, x ≠ 2 → x ≠ 32 * k + 3 * q + 26 → f' x = f x := fun x a1 a2 => by rw [e, if_neg a1, if_neg a2]
  have O2 : f' 2 = f 2 - 1 := by rw [e, if_pos rfl]
  have Q : ∀ i r : Int, 0 ≤ i → 16 ≤ r → r ≤ 22 → f' (32 * i + r) = f (32 * i + r) := fun i r a0 a1 a2 => O _ (by omega) (by rcases (show i ≤ k ∨ k + 1 ≤ i by omega) with g | g <;> omega)
  unfold MO
  rw [O 1 (by omega) (by omega), O 0 (by omega) (by omega), O 3 (by omega) (by omega), O 4 (by omega) (by omega), O 5 (by omega) (by omega), O 6 (by omega) (by omega), O 7 (by omega) (by omega), O 8 (by omega) (by omega), O2]
  refine ⟨g1, g0, by omega, g3, g4, g5, g6, g7, g8, fun s hs => by rw [O (s + 9) (by omega) (by omega)]; exact g9 s hs, fun i a1 a2 => ?_, fun i a1 a2 => by rw [Q i 18 (by omega) (by omega) (by omega), Q i 19 (by omega) (by omega) (by omega)]; exact gz i a1 a2⟩
  obtain ⟨p1, p2, p3, p4, p5, p6, p7, p8⟩ := gp i a1 a2
  unfold PO
  rw [Q i 16 (by omega) (by omega) (by omega), Q i 17 (by omega) (by omega) (by omega), Q i 18 (by omega) (by omega) (by omega), Q i 19 (by omega) (by omega) (by omega), Q i 20 (by omega) (by omega) (by omega), Q i 21 (by omega) (by omega) (by omega), Q i 22 (by omega) (by omega) (by omega)]
  refine ⟨p1, p2, p3, p4, p5, p6, p7, fun j b1 b2 => ?_⟩
  obtain ⟨c1, c2, c3⟩ := p8 j b1 b2
  have p48 := p4.2
  rw [O (32 * i + 3 * j + 24) (by omega) (by rcases (show i + 1 ≤ k ∨ i = k ∨ k + 1 ≤ i by omega) with g | g | g <;> omega), O (32 * i + 3 * j + 25) (by omega) (by rcases (show i + 1 ≤ k ∨ i = k ∨ k + 1 ≤ i by omega) with g | g | g <;> omega), e, if_neg (by omega)]
  refine ⟨c1, c2, ?_⟩
  split
  · omega
  · exact c3
def mchk (S : gM) (k q : Int) : gM := up2 (up2 S 579 (32 * k + 3 * q + 26) (S 579 0)) 579 2 (S 579 2 - 1)
theorem MO_mchk {S : gM} {N k q : Int} (h : MO (S 579) N) (hk : 0 ≤ k ∧ k < 20) (hq : 0 ≤ q ∧ q < S 579 (32 * k + 19)) (h2 : 1 ≤ S 579 2) : MO (mchk S k q 579) N := MO_chk h hk hq h2 (fun x => by unfold mchk; rw [rd_at, rd_at])
def MkDone (S : gM) : Prop := S 579 2 < 1 ∨ isBest (mDue (S 579)) (mUrg (S 579)) (S 579 1) (-5)
def MkS (S S' : gM) : Prop := ∃ k q : Int, 0 ≤ k ∧ 1 ≤ S 579 2 ∧ isBest (mDue (S 579)) (mUrg (S 579)) (S 579 1) k ∧ 0 ≤ q ∧ isFirst (mChk (S 579) k) (S 579 (32 * k + 19)) q ∧ S' = mchk S k q
def MkN : Nat → gM → gM → Prop
  | 0, S, S' => S' = S
  | n + 1, S, S' => ∃ S1, MkN n S S1 ∧ MkS S1 S'
theorem MkN_s {i : Int} {S S1 S' : gM} (hi : 0 ≤ i) (h : MkN i.toNat S S1) (h2 : MkS S1 S') : MkN (i + 1).toNat S S' := by
  rw [show (i + 1).toNat = i.toNat + 1 by omega]
  exact ⟨S1, h, h2⟩
theorem isBest_r {P : Int → Prop} {f : Int → Int} {n v : Int} (h : isBest P f n v) : v = -5 ∨ (0 ≤ v ∧ v < n) := by
  rcases h with ⟨h1, h2⟩ | ⟨h1, h2, h3, h4⟩
  · exact Or.inl h1
  · exact Or.inr ⟨h1, h2⟩
set_option maxHeartbeats 4000000 in
theorem tX7_worth (l : Launch) (G : gG) (b : Nat) (C S : gM) (p N : Int) (hp : -2147483648 ≤ p ∧ p ≤ 2147483647) (hM : MO (S 579) N) (hN : N ≤ 512) : Ct l G b yX7_worth cX7_worth 4 (some .float) rmX7_worth [.ref (ad b (578)), .int (iI (p))] 586 (wM G b C S) (RF G b C S (fun v => (¬ (0 ≤ p ∧ p < S 579 1) ∧ v = 3212836864) ∨ ((0 ≤ p ∧ p < S 579 1) ∧ v = wsI (fun j => FP.fmul (WF (S 579 (S 579 (32 * p + 3 * j + 24) + 9)) (S 579 0 - S 579 (32 * p + 3 * j + 26))) (FP.i2f (iI (S 579 (32 * p + 3 * j + 25))))) (S 579 (32 * p + 19))))) := by
  refine CtK_of (by decide) (Nat.le_of_ble_eq_true rfl) q991 ?_
  intro x hl hB hE _
  subst hl
  show YM x G b 0 0 C S 0 [(0, .ref (ad b (578))), (1, .int (iI (p)))] []
  obtain ⟨hm1, hm0, hm2, hm3, hm4, hm5, hm6, hm7, hm8, hmt, hmp, hmz⟩ := id hM
  refine y_aload_n hB 0 dX7_worth_0 rfl rfl ?_
  refine y_iload_n hB 1 dX7_worth_1 rfl rfl ?_
  refine m_V hB msX7_isPerson q853 (tX7_isPerson _ G b C S p (by omega) (by omega)) (t := 20) (by decide) (by decide) rfl rfl rfl rfl rfl ⟨Nat.le_of_ble_eq_true rfl, Nat.le_of_ble_eq_true rfl⟩ (Nat.le_of_ble_eq_true rfl) ⟨rfl, rfl⟩ ⟨Nat.le_of_ble_eq_true rfl, Nat.le_of_ble_eq_true rfl⟩ dX7_worth_2 (k_RI (fun v_2 h_2 => ?_))
  refine y_if_ne hB 11 dX7_worth_5 (by decide) (by omega) (fun c_5 => ?_) (fun c_5 => ?_)
  · obtain ⟨hp1, hp2, hp3, hp4, hp5, hp6, hp7, hpf⟩ := id (hmp p (by omega) (by omega))
    refine y_fconst0 hB dX7_worth_11 ?_
    refine y_fstore_n (lv' := [(2, .float (FP.fconst0)), (0, .ref (ad b (578))), (1, .int (iI (p)))]) hB dX7_worth_12 rfl (by decide) rfl ?_
    refine y_iconst (v := 0) hB dX7_worth_13 rfl ?_
    refine y_istore_n (lv' := [(3, .int (iI (0))), (2, .float (FP.fconst0)), (0, .ref (ad b (578))), (1, .int (iI (p)))]) hB dX7_worth_14 rfl (by decide) rfl ?_
    have LOOP_15 : ∀ (fu : Nat) (r : Int) (w1 : UInt32), (0 ≤ r ∧ r ≤ S 579 (32 * p + 19)) → (w1 = wsI (fun j => FP.fmul (WF (S 579 (S 579 (32 * p + 3 * j + 24) + 9)) (S 579 0 - S 579 (32 * p + 3 * j + 26))) (FP.i2f (iI (S 579 (32 * p + 3 * j + 25))))) r) → S 579 (32 * p + 19) - r < (fu : Int) → YM x G b 0 0 C S 15 [(0, .ref (ad b (578))), (1, .int (iI (p))), (2, .float (w1)), (3, .int (iI (r)))] [] := by
      intro fu
      induction fu with
      | zero => intro r w1 hi hw hm_15; exfalso; omega
      | succ fu ih_15 =>
        intro r w1 hi hw hm_15
        have hps : ∀ j : Int, 0 ≤ j → j < S 579 (32 * p + 19) → pos32 ((fun j => FP.fmul (WF (S 579 (S 579 (32 * p + 3 * j + 24) + 9)) (S 579 0 - S 579 (32 * p + 3 * j + 26))) (FP.i2f (iI (S 579 (32 * p + 3 * j + 25))))) j) := fun j a1 a2 => by
          obtain ⟨hf1, hf2, hf3⟩ := hpf j a1 a2
          exact pos_fmul (fin_WF (hmt _ hf1) (by omega)) (fin_lines (by omega))
        refine y_iload_n hB 3 dX7_worth_15 rfl rfl ?_
        refine y_aload_n hB 0 dX7_worth_16 rfl rfl ?_
        refine y_iload_n hB 1 dX7_worth_17 rfl rfl ?_
        refine y_iconst (v := 3) hB dX7_worth_18 rfl ?_
        refine m_V hB msX7_of q842 (tX7_of _ G b C S p 3 (32 * p + 19) (S 579 (32 * p + 19)) (by omega) (by omega) rfl) (t := 20) (by decide) (by decide) rfl rfl rfl rfl rfl ⟨Nat.le_of_ble_eq_true rfl, Nat.le_of_ble_eq_true rfl⟩ (Nat.le_of_ble_eq_true rfl) ⟨rfl, rfl⟩ ⟨Nat.le_of_ble_eq_true rfl, Nat.le_of_ble_eq_true rfl⟩ dX7_worth_19 (k_RI (fun v_19 h_19 => ?_))
        obtain rfl := h_19
        refine y_icmp_ge hB 60 dX7_worth_22 (by decide) (by omega) (by omega) (fun c_22 => ?_) (fun c_22 => ?_)
        · refine y_fload_n hB 2 dX7_worth_60 rfl rfl ?_
          exact m_rf hB hE dX7_worth_61 (Or.inr ⟨by omega, by rw [hw, show r = S 579 (32 * p + 19) by omega]⟩)
        · refine y_fload_n hB 2 dX7_worth_25 rfl rfl ?_
          refine y_aload_n hB 0 dX7_worth_26 rfl rfl ?_
          refine y_iload_n hB 1 dX7_worth_27 rfl rfl ?_
          refine y_iload_n hB 3 dX7_worth_28 rfl rfl ?_
          refine y_aload_n hB 0 dX7_worth_29 rfl rfl ?_
          refine gt_7_0 hB (by decide) (t1 := 579) (by omega) dX7_worth_30 ?_
          refine y_iconst (v := 0) hB dX7_worth_33 rfl ?_
          refine ald_21 hB (by decide) (t1 := S 579 0) (by omega) rfl dX7_worth_34 ?_
          refine m_V hB msX7_worthOn q885 (tX7_worthOn _ G b C S p r (S 579 0) N hM hN (by omega) (by omega) (by omega)) (t := 20) (by decide) (by decide) rfl rfl rfl rfl rfl ⟨Nat.le_of_ble_eq_true rfl, Nat.le_of_ble_eq_true rfl⟩ (Nat.le_of_ble_eq_true rfl) ⟨rfl, rfl⟩ ⟨Nat.le_of_ble_eq_true rfl, Nat.le_of_ble_eq_true rfl⟩ dX7_worth_35 (k_RF (fun v_35 h_35 => ?_))
          refine y_aload_n hB 0 dX7_worth_38 rfl rfl ?_
          refine gt_7_0 hB (by decide) (t1 := 579) (by omega) dX7_worth_39 ?_
          refine y_iload_n hB 1 dX7_worth_42 rfl rfl ?_
          refine y_iload_n hB 3 dX7_worth_43 rfl rfl ?_
          refine m_S hB msX7_f q846 (tX7_f _ G b C S p r (32 * p + 3 * r + 24) (by omega)) rfl rfl ⟨Nat.le_of_ble_eq_true rfl, Nat.le_of_ble_eq_true rfl⟩ (Nat.le_of_ble_eq_true rfl) ⟨rfl, rfl⟩ ⟨Nat.le_of_ble_eq_true rfl, Nat.le_of_ble_eq_true rfl⟩ dX7_worth_44 (k_RI (fun v_44 h_44 => ?_))
          obtain rfl := h_44
          refine y_iconst (v := 1) hB dX7_worth_47 rfl ?_
          refine y_iadd (t := 32 * p + 3 * r + 25) hB dX7_worth_48 (by omega) ?_
          refine ald_21 hB (by decide) (t1 := S 579 (32 * p + 3 * r + 25)) (by omega) rfl dX7_worth_49 ?_
          refine y_i2f hB dX7_worth_50 ?_
          refine y_fmul hB dX7_worth_51 (by rw [h_35]; exact vf_pos (hps r hi.1 (by omega))) ?_
          refine y_fadd hB dX7_worth_52 (by rw [h_35, hw]; exact vf_pos (pos_fadd (pos_wsI (fun j a1 a2 => hps j a1 (by omega))) (hps r hi.1 (by omega)))) ?_
          refine y_fstore_n (lv' := [(2, .float (FP.fadd w1 (FP.fmul v_35 (FP.i2f (iI (S 579 (32 * p + 3 * r + 25))))))), (0, .ref (ad b (578))), (1, .int (iI (p))), (3, .int (iI (r)))]) hB dX7_worth_53 rfl (by decide) rfl ?_
          refine y_iinc (v := r + 1) (lv' := [(3, .int (iI (r + 1))), (2, .float (FP.fadd w1 (FP.fmul v_35 (FP.i2f (iI (S 579 (32 * p + 3 * r + 25))))))), (0, .ref (ad b (578))), (1, .int (iI (p)))]) hB 3 dX7_worth_54 rfl (by omega) (by decide) rfl ?_
          refine y_goto hB 15 dX7_worth_57 (by decide) ?_
          refine y_sub (lv' := [(0, .ref (ad b (578))), (1, .int (iI (p))), (2, .float (FP.fadd w1 (FP.fmul v_35 (FP.i2f (iI (S 579 (32 * p + 3 * r + 25))))))), (3, .int (iI (r + 1)))]) [2, 3, 1, 0] rfl ?_
          exact ih_15 (r + 1) _ (by omega) (by rw [wsI_s _ hi.1, ← hw, h_35]) (by omega)
    refine y_sub (lv' := [(0, .ref (ad b (578))), (1, .int (iI (p))), (2, .float (FP.fconst0)), (3, .int (iI (0)))]) [2, 3, 1, 0] rfl ?_
    exact LOOP_15 ((S 579 (32 * p + 19)).toNat + 1) 0 _ (by omega) (wsI_0 _).symm (by omega)
  · refine y_ldcf hB q992 dX7_worth_8 ?_
    exact m_rf hB hE dX7_worth_10 (Or.inl ⟨by omega, rfl⟩)
set_option maxHeartbeats 4000000 in
theorem tX7_count (l : Launch) (G : gG) (b : Nat) (C S : gM) (u N : Int) (hu : -2147483648 ≤ u ∧ u ≤ 2147483647) (hM : MO (S 579) N) (hN : N ≤ 512) : Ct l G b yX7_count cX7_count 2 (some .int) rmX7_count [.ref (ad b (578)), .int (iI (u))] 586 (wM G b C S) (SI G b C (fun v S' => ((u < 0 ∨ 17 < u) ∧ v = -2 ∧ S' = S) ∨ ((u = 0) ∧ v = S 579 0 ∧ S' = S) ∨ ((u = 1) ∧ v = S 579 1 ∧ S' = S) ∨ ((u = 2) ∧ v = S 579 2 ∧ S' = S) ∨ ((u = 3) ∧ v = smI (fun i => if S 579 (32 * i + 18) = u - 3 then 1 else 0) (S 579 1) ∧ S' = S) ∨ ((u = 4) ∧ v = smI (fun i => if S 579 (32 * i + 18) = u - 3 then 1 else 0) (S 579 1) ∧ S' = S) ∨ ((u = 5) ∧ v = smI (fun i => if S 579 (32 * i + 18) = u - 3 then 1 else 0) (S 579 1) ∧ S' = S) ∨ ((u = 6) ∧ v = smI (fun i => if S 579 (32 * i + 18) = u - 3 then 1 else 0) (S 579 1) ∧ S' = S) ∨ ((u = 7) ∧ v = smI (fun i => S 579 (32 * i + 19)) (S 579 1) ∧ S' = S) ∨ ((u = 8) ∧ v = smI (fun i => if S 579 (32 * i + 18) = 3 then 0 else mSt (S 579) i (S 579 0)) (S 579 1) ∧ S' = S) ∨ ((u = 9) ∧ LyD S S' ∧ v = S' 578 6) ∨ ((u = 10) ∧ v = S 579 3 ∧ S' = S) ∨ ((u = 11) ∧ v = S 579 (u - 7) ∧ S' = S) ∨ ((u = 12) ∧ v = S 579 (u - 7) ∧ S' = S) ∨ ((u = 13) ∧ v = S 579 (u - 7) ∧ S' = S) ∨ ((u = 14) ∧ v = S 579 (u - 7) ∧ S' = S) ∨ ((u = 15) ∧ v = S 579 (u - 7) ∧ S' = S) ∨ ((u = 16) ∧ v = S 578 9 ∧ S' = S) ∨ ((u = 17) ∧ v = S 578 8 ∧ S' = S))) := by
  refine CtK_of (by decide) (Nat.le_of_ble_eq_true rfl) q1016 ?_
  intro x hl hB hE _
  subst hl
  show YM x G b 0 0 C S 0 [(0, .ref (ad b (578))), (1, .int (iI (u)))] []
  obtain ⟨hm1, hm0, hm2, hm3, hm4, hm5, hm6, hm7, hm8, hmt, hmp, hmz⟩ := id hM
  refine y_iload_n hB 1 dX7_count_0 rfl rfl ?_
  rcases (show u = 0 ∨ u = 1 ∨ u = 2 ∨ u = 3 ∨ u = 4 ∨ u = 5 ∨ u = 6 ∨ u = 7 ∨ u = 8 ∨ u = 9 ∨ u = 10 ∨ u = 11 ∨ u = 12 ∨ u = 13 ∨ u = 14 ∨ u = 15 ∨ u = 16 ∨ u = 17 ∨ (u < 0 ∨ 17 < u) by omega) with hsw_1 | hsw_1 | hsw_1 | hsw_1 | hsw_1 | hsw_1 | hsw_1 | hsw_1 | hsw_1 | hsw_1 | hsw_1 | hsw_1 | hsw_1 | hsw_1 | hsw_1 | hsw_1 | hsw_1 | hsw_1 | hsw_1
  · refine y_tableIn hB 88 dX7_count_1 (by omega) (by omega) (by rw [hsw_1]; rfl) (by decide) ?_
    refine y_aload_n hB 0 dX7_count_88 rfl rfl ?_
    refine gt_7_0 hB (by decide) (t1 := 579) (by omega) dX7_count_89 ?_
    refine y_iconst (v := 0) hB dX7_count_92 rfl ?_
    refine ald_21 hB (by decide) (t1 := S 579 0) (by omega) rfl dX7_count_93 ?_
    exact m_si hB hE dX7_count_94 rfl (Or.inr (Or.inl (⟨by omega, rfl, rfl⟩)))
  · refine y_tableIn hB 95 dX7_count_1 (by omega) (by omega) (by rw [hsw_1]; rfl) (by decide) ?_
    refine y_aload_n hB 0 dX7_count_95 rfl rfl ?_
    refine gt_7_0 hB (by decide) (t1 := 579) (by omega) dX7_count_96 ?_
    refine y_iconst (v := 1) hB dX7_count_99 rfl ?_
    refine ald_21 hB (by decide) (t1 := S 579 1) (by omega) rfl dX7_count_100 ?_
    exact m_si hB hE dX7_count_101 rfl (Or.inr (Or.inr (Or.inl (⟨by omega, rfl, rfl⟩))))
  · refine y_tableIn hB 102 dX7_count_1 (by omega) (by omega) (by rw [hsw_1]; rfl) (by decide) ?_
    refine y_aload_n hB 0 dX7_count_102 rfl rfl ?_
    refine gt_7_0 hB (by decide) (t1 := 579) (by omega) dX7_count_103 ?_
    refine y_iconst (v := 2) hB dX7_count_106 rfl ?_
    refine ald_21 hB (by decide) (t1 := S 579 2) (by omega) rfl dX7_count_107 ?_
    exact m_si hB hE dX7_count_108 rfl (Or.inr (Or.inr (Or.inr (Or.inl (⟨by omega, rfl, rfl⟩)))))
  · refine y_tableIn hB 109 dX7_count_1 (by omega) (by omega) (by rw [hsw_1]; rfl) (by decide) ?_
    refine y_aload_n hB 0 dX7_count_109 rfl rfl ?_
    refine y_iload_n hB 1 dX7_count_110 rfl rfl ?_
    refine y_iconst (v := 3) hB dX7_count_111 rfl ?_
    refine y_isub (t := u - 3) hB dX7_count_112 (by omega) ?_
    refine m_V hB msX7_inState q918 (tX7_inState _ G b C S (u - 3) (by omega) (by have h9 : S 579 1 = S 579 1 := rfl; omega) (MO_st hM)) (t := 20) (by decide) (by decide) rfl rfl rfl rfl rfl ⟨Nat.le_of_ble_eq_true rfl, Nat.le_of_ble_eq_true rfl⟩ (Nat.le_of_ble_eq_true rfl) ⟨rfl, rfl⟩ ⟨Nat.le_of_ble_eq_true rfl, Nat.le_of_ble_eq_true rfl⟩ dX7_count_113 (k_RI (fun v_113 h_113 => ?_))
    exact m_si hB hE dX7_count_116 rfl (by rcases (show u = 3 ∨ u = 4 ∨ u = 5 ∨ u = 6 by omega) with g | g | g | g; exact (Or.inr (Or.inr (Or.inr (Or.inr (Or.inl (⟨g, h_113, rfl⟩)))))); exact (Or.inr (Or.inr (Or.inr (Or.inr (Or.inr (Or.inl (⟨g, h_113, rfl⟩))))))); exact (Or.inr (Or.inr (Or.inr (Or.inr (Or.inr (Or.inr (Or.inl (⟨g, h_113, rfl⟩)))))))); exact (Or.inr (Or.inr (Or.inr (Or.inr (Or.inr (Or.inr (Or.inr (Or.inl (⟨g, h_113, rfl⟩))))))))))
  · refine y_tableIn hB 109 dX7_count_1 (by omega) (by omega) (by rw [hsw_1]; rfl) (by decide) ?_
    refine y_aload_n hB 0 dX7_count_109 rfl rfl ?_
    refine y_iload_n hB 1 dX7_count_110 rfl rfl ?_
    refine y_iconst (v := 3) hB dX7_count_111 rfl ?_
    refine y_isub (t := u - 3) hB dX7_count_112 (by omega) ?_
    refine m_V hB msX7_inState q918 (tX7_inState _ G b C S (u - 3) (by omega) (by have h9 : S 579 1 = S 579 1 := rfl; omega) (MO_st hM)) (t := 20) (by decide) (by decide) rfl rfl rfl rfl rfl ⟨Nat.le_of_ble_eq_true rfl, Nat.le_of_ble_eq_true rfl⟩ (Nat.le_of_ble_eq_true rfl) ⟨rfl, rfl⟩ ⟨Nat.le_of_ble_eq_true rfl, Nat.le_of_ble_eq_true rfl⟩ dX7_count_113 (k_RI (fun v_113 h_113 => ?_))
    exact m_si hB hE dX7_count_116 rfl (by rcases (show u = 3 ∨ u = 4 ∨ u = 5 ∨ u = 6 by omega) with g | g | g | g; exact (Or.inr (Or.inr (Or.inr (Or.inr (Or.inl (⟨g, h_113, rfl⟩)))))); exact (Or.inr (Or.inr (Or.inr (Or.inr (Or.inr (Or.inl (⟨g, h_113, rfl⟩))))))); exact (Or.inr (Or.inr (Or.inr (Or.inr (Or.inr (Or.inr (Or.inl (⟨g, h_113, rfl⟩)))))))); exact (Or.inr (Or.inr (Or.inr (Or.inr (Or.inr (Or.inr (Or.inr (Or.inl (⟨g, h_113, rfl⟩))))))))))
  · refine y_tableIn hB 109 dX7_count_1 (by omega) (by omega) (by rw [hsw_1]; rfl) (by decide) ?_
    refine y_aload_n hB 0 dX7_count_109 rfl rfl ?_
    refine y_iload_n hB 1 dX7_count_110 rfl rfl ?_
    refine y_iconst (v := 3) hB dX7_count_111 rfl ?_
    refine y_isub (t := u - 3) hB dX7_count_112 (by omega) ?_
    refine m_V hB msX7_inState q918 (tX7_inState _ G b C S (u - 3) (by omega) (by have h9 : S 579 1 = S 579 1 := rfl; omega) (MO_st hM)) (t := 20) (by decide) (by decide) rfl rfl rfl rfl rfl ⟨Nat.le_of_ble_eq_true rfl, Nat.le_of_ble_eq_true rfl⟩ (Nat.le_of_ble_eq_true rfl) ⟨rfl, rfl⟩ ⟨Nat.le_of_ble_eq_true rfl, Nat.le_of_ble_eq_true rfl⟩ dX7_count_113 (k_RI (fun v_113 h_113 => ?_))
    exact m_si hB hE dX7_count_116 rfl (by rcases (show u = 3 ∨ u = 4 ∨ u = 5 ∨ u = 6 by omega) with g | g | g | g; exact (Or.inr (Or.inr (Or.inr (Or.inr (Or.inl (⟨g, h_113, rfl⟩)))))); exact (Or.inr (Or.inr (Or.inr (Or.inr (Or.inr (Or.inl (⟨g, h_113, rfl⟩))))))); exact (Or.inr (Or.inr (Or.inr (Or.inr (Or.inr (Or.inr (Or.inl (⟨g, h_113, rfl⟩)))))))); exact (Or.inr (Or.inr (Or.inr (Or.inr (Or.inr (Or.inr (Or.inr (Or.inl (⟨g, h_113, rfl⟩))))))))))
  · refine y_tableIn hB 109 dX7_count_1 (by omega) (by omega) (by rw [hsw_1]; rfl) (by decide) ?_
    refine y_aload_n hB 0 dX7_count_109 rfl rfl ?_
    refine y_iload_n hB 1 dX7_count_110 rfl rfl ?_
    refine y_iconst (v := 3) hB dX7_count_111 rfl ?_
    refine y_isub (t := u - 3) hB dX7_count_112 (by omega) ?_
    refine m_V hB msX7_inState q918 (tX7_inState _ G b C S (u - 3) (by omega) (by have h9 : S 579 1 = S 579 1 := rfl; omega) (MO_st hM)) (t := 20) (by decide) (by decide) rfl rfl rfl rfl rfl ⟨Nat.le_of_ble_eq_true rfl, Nat.le_of_ble_eq_true rfl⟩ (Nat.le_of_ble_eq_true rfl) ⟨rfl, rfl⟩ ⟨Nat.le_of_ble_eq_true rfl, Nat.le_of_ble_eq_true rfl⟩ dX7_count_113 (k_RI (fun v_113 h_113 => ?_))
    exact m_si hB hE dX7_count_116 rfl (by rcases (show u = 3 ∨ u = 4 ∨ u = 5 ∨ u = 6 by omega) with g | g | g | g; exact (Or.inr (Or.inr (Or.inr (Or.inr (Or.inl (⟨g, h_113, rfl⟩)))))); exact (Or.inr (Or.inr (Or.inr (Or.inr (Or.inr (Or.inl (⟨g, h_113, rfl⟩))))))); exact (Or.inr (Or.inr (Or.inr (Or.inr (Or.inr (Or.inr (Or.inl (⟨g, h_113, rfl⟩)))))))); exact (Or.inr (Or.inr (Or.inr (Or.inr (Or.inr (Or.inr (Or.inr (Or.inl (⟨g, h_113, rfl⟩))))))))))
  · refine y_tableIn hB 117 dX7_count_1 (by omega) (by omega) (by rw [hsw_1]; rfl) (by decide) ?_
    refine y_aload_n hB 0 dX7_count_117 rfl rfl ?_
    refine m_V hB msX7_facts q1017 (tX7_facts _ G b C S N hM hN) (t := 20) (by decide) (by decide) rfl rfl rfl rfl rfl ⟨Nat.le_of_ble_eq_true rfl, Nat.le_of_ble_eq_true rfl⟩ (Nat.le_of_ble_eq_true rfl) ⟨rfl, rfl⟩ ⟨Nat.le_of_ble_eq_true rfl, Nat.le_of_ble_eq_true rfl⟩ dX7_count_118 (k_RI (fun v_118 h_118 => ?_))
    exact m_si hB hE dX7_count_121 rfl (Or.inr (Or.inr (Or.inr (Or.inr (Or.inr (Or.inr (Or.inr (Or.inr (Or.inl (⟨by omega, h_118, rfl⟩))))))))))
  · refine y_tableIn hB 122 dX7_count_1 (by omega) (by omega) (by rw [hsw_1]; rfl) (by decide) ?_
    refine y_aload_n hB 0 dX7_count_122 rfl rfl ?_
    refine y_aload_n hB 0 dX7_count_123 rfl rfl ?_
    refine gt_7_0 hB (by decide) (t1 := 579) (by omega) dX7_count_124 ?_
    refine y_iconst (v := 0) hB dX7_count_127 rfl ?_
    refine ald_21 hB (by decide) (t1 := S 579 0) (by omega) rfl dX7_count_128 ?_
    refine m_V hB msX7_staleOn q1009 (tX7_staleOn _ G b C S (S 579 0) N hM hN (by omega)) (t := 20) (by decide) (by decide) rfl rfl rfl rfl rfl ⟨Nat.le_of_ble_eq_true rfl, Nat.le_of_ble_eq_true rfl⟩ (Nat.le_of_ble_eq_true rfl) ⟨rfl, rfl⟩ ⟨Nat.le_of_ble_eq_true rfl, Nat.le_of_ble_eq_true rfl⟩ dX7_count_129 (k_RI (fun v_129 h_129 => ?_))
    exact m_si hB hE dX7_count_132 rfl (Or.inr (Or.inr (Or.inr (Or.inr (Or.inr (Or.inr (Or.inr (Or.inr (Or.inr (Or.inl (⟨by omega, h_129, rfl⟩)))))))))))
  · refine y_tableIn hB 133 dX7_count_1 (by omega) (by omega) (by rw [hsw_1]; rfl) (by decide) ?_
    refine y_aload_n hB 0 dX7_count_133 rfl rfl ?_
    refine m_V hB msX7_freeLines q1021 (tX7_freeLines _ G b C S N hM hN) (t := 20) (by decide) (by decide) rfl rfl rfl rfl rfl ⟨Nat.le_of_ble_eq_true rfl, Nat.le_of_ble_eq_true rfl⟩ (Nat.le_of_ble_eq_true rfl) ⟨rfl, rfl⟩ ⟨Nat.le_of_ble_eq_true rfl, Nat.le_of_ble_eq_true rfl⟩ dX7_count_134 (k_SI (fun v_134 S_134 h_134 => ?_))
    exact m_si hB hE dX7_count_137 rfl (Or.inr (Or.inr (Or.inr (Or.inr (Or.inr (Or.inr (Or.inr (Or.inr (Or.inr (Or.inr (Or.inl (⟨by omega, h_134.1, h_134.2⟩))))))))))))
  · refine y_tableIn hB 138 dX7_count_1 (by omega) (by omega) (by rw [hsw_1]; rfl) (by decide) ?_
    refine y_aload_n hB 0 dX7_count_138 rfl rfl ?_
    refine gt_7_0 hB (by decide) (t1 := 579) (by omega) dX7_count_139 ?_
    refine y_iconst (v := 3) hB dX7_count_142 rfl ?_
    refine ald_21 hB (by decide) (t1 := S 579 3) (by omega) rfl dX7_count_143 ?_
    exact m_si hB hE dX7_count_144 rfl (Or.inr (Or.inr (Or.inr (Or.inr (Or.inr (Or.inr (Or.inr (Or.inr (Or.inr (Or.inr (Or.inr (Or.inl (⟨by omega, rfl, rfl⟩)))))))))))))
  · refine y_tableIn hB 145 dX7_count_1 (by omega) (by omega) (by rw [hsw_1]; rfl) (by decide) ?_
    refine y_aload_n hB 0 dX7_count_145 rfl rfl ?_
    refine gt_7_0 hB (by decide) (t1 := 579) (by omega) dX7_count_146 ?_
    refine y_iconst (v := 4) hB dX7_count_149 rfl ?_
    refine y_iload_n hB 1 dX7_count_150 rfl rfl ?_
    refine y_iadd (t := u + 4) hB dX7_count_151 (by omega) ?_
    refine y_bipush (v := 11) hB dX7_count_152 (by decide) ?_
    refine y_isub (t := u - 7) hB dX7_count_154 (by omega) ?_
    refine ald_21 hB (by decide) (t1 := S 579 (u - 7)) (by omega) rfl dX7_count_155 ?_
    exact m_si hB hE dX7_count_156 rfl (by rcases (show u = 11 ∨ u = 12 ∨ u = 13 ∨ u = 14 ∨ u = 15 by omega) with g | g | g | g | g; exact (Or.inr (Or.inr (Or.inr (Or.inr (Or.inr (Or.inr (Or.inr (Or.inr (Or.inr (Or.inr (Or.inr (Or.inr (Or.inl (⟨g, rfl, rfl⟩)))))))))))))); exact (Or.inr (Or.inr (Or.inr (Or.inr (Or.inr (Or.inr (Or.inr (Or.inr (Or.inr (Or.inr (Or.inr (Or.inr (Or.inr (Or.inl (⟨g, rfl, rfl⟩))))))))))))))); exact (Or.inr (Or.inr (Or.inr (Or.inr (Or.inr (Or.inr (Or.inr (Or.inr (Or.inr (Or.inr (Or.inr (Or.inr (Or.inr (Or.inr (Or.inl (⟨g, rfl, rfl⟩)))))))))))))))); exact (Or.inr (Or.inr (Or.inr (Or.inr (Or.inr (Or.inr (Or.inr (Or.inr (Or.inr (Or.inr (Or.inr (Or.inr (Or.inr (Or.inr (Or.inr (Or.inl (⟨g, rfl, rfl⟩))))))))))))))))); exact (Or.inr (Or.inr (Or.inr (Or.inr (Or.inr (Or.inr (Or.inr (Or.inr (Or.inr (Or.inr (Or.inr (Or.inr (Or.inr (Or.inr (Or.inr (Or.inr (Or.inl (⟨g, rfl, rfl⟩)))))))))))))))))))
  · refine y_tableIn hB 145 dX7_count_1 (by omega) (by omega) (by rw [hsw_1]; rfl) (by decide) ?_
    refine y_aload_n hB 0 dX7_count_145 rfl rfl ?_
    refine gt_7_0 hB (by decide) (t1 := 579) (by omega) dX7_count_146 ?_
    refine y_iconst (v := 4) hB dX7_count_149 rfl ?_
    refine y_iload_n hB 1 dX7_count_150 rfl rfl ?_
    refine y_iadd (t := u + 4) hB dX7_count_151 (by omega) ?_
    refine y_bipush (v := 11) hB dX7_count_152 (by decide) ?_
    refine y_isub (t := u - 7) hB dX7_count_154 (by omega) ?_
    refine ald_21 hB (by decide) (t1 := S 579 (u - 7)) (by omega) rfl dX7_count_155 ?_
    exact m_si hB hE dX7_count_156 rfl (by rcases (show u = 11 ∨ u = 12 ∨ u = 13 ∨ u = 14 ∨ u = 15 by omega) with g | g | g | g | g; exact (Or.inr (Or.inr (Or.inr (Or.inr (Or.inr (Or.inr (Or.inr (Or.inr (Or.inr (Or.inr (Or.inr (Or.inr (Or.inl (⟨g, rfl, rfl⟩)))))))))))))); exact (Or.inr (Or.inr (Or.inr (Or.inr (Or.inr (Or.inr (Or.inr (Or.inr (Or.inr (Or.inr (Or.inr (Or.inr (Or.inr (Or.inl (⟨g, rfl, rfl⟩))))))))))))))); exact (Or.inr (Or.inr (Or.inr (Or.inr (Or.inr (Or.inr (Or.inr (Or.inr (Or.inr (Or.inr (Or.inr (Or.inr (Or.inr (Or.inr (Or.inl (⟨g, rfl, rfl⟩)))))))))))))))); exact (Or.inr (Or.inr (Or.inr (Or.inr (Or.inr (Or.inr (Or.inr (Or.inr (Or.inr (Or.inr (Or.inr (Or.inr (Or.inr (Or.inr (Or.inr (Or.inl (⟨g, rfl, rfl⟩))))))))))))))))); exact (Or.inr (Or.inr (Or.inr (Or.inr (Or.inr (Or.inr (Or.inr (Or.inr (Or.inr (Or.inr (Or.inr (Or.inr (Or.inr (Or.inr (Or.inr (Or.inr (Or.inl (⟨g, rfl, rfl⟩)))))))))))))))))))
  · refine y_tableIn hB 145 dX7_count_1 (by omega) (by omega) (by rw [hsw_1]; rfl) (by decide) ?_
    refine y_aload_n hB 0 dX7_count_145 rfl rfl ?_
    refine gt_7_0 hB (by decide) (t1 := 579) (by omega) dX7_count_146 ?_
    refine y_iconst (v := 4) hB dX7_count_149 rfl ?_
    refine y_iload_n hB 1 dX7_count_150 rfl rfl ?_
    refine y_iadd (t := u + 4) hB dX7_count_151 (by omega) ?_
    refine y_bipush (v := 11) hB dX7_count_152 (by decide) ?_
    refine y_isub (t := u - 7) hB dX7_count_154 (by omega) ?_
    refine ald_21 hB (by decide) (t1 := S 579 (u - 7)) (by omega) rfl dX7_count_155 ?_
    exact m_si hB hE dX7_count_156 rfl (by rcases (show u = 11 ∨ u = 12 ∨ u = 13 ∨ u = 14 ∨ u = 15 by omega) with g | g | g | g | g; exact (Or.inr (Or.inr (Or.inr (Or.inr (Or.inr (Or.inr (Or.inr (Or.inr (Or.inr (Or.inr (Or.inr (Or.inr (Or.inl (⟨g, rfl, rfl⟩)))))))))))))); exact (Or.inr (Or.inr (Or.inr (Or.inr (Or.inr (Or.inr (Or.inr (Or.inr (Or.inr (Or.inr (Or.inr (Or.inr (Or.inr (Or.inl (⟨g, rfl, rfl⟩))))))))))))))); exact (Or.inr (Or.inr (Or.inr (Or.inr (Or.inr (Or.inr (Or.inr (Or.inr (Or.inr (Or.inr (Or.inr (Or.inr (Or.inr (Or.inr (Or.inl (⟨g, rfl, rfl⟩)))))))))))))))); exact (Or.inr (Or.inr (Or.inr (Or.inr (Or.inr (Or.inr (Or.inr (Or.inr (Or.inr (Or.inr (Or.inr (Or.inr (Or.inr (Or.inr (Or.inr (Or.inl (⟨g, rfl, rfl⟩))))))))))))))))); exact (Or.inr (Or.inr (Or.inr (Or.inr (Or.inr (Or.inr (Or.inr (Or.inr (Or.inr (Or.inr (Or.inr (Or.inr (Or.inr (Or.inr (Or.inr (Or.inr (Or.inl (⟨g, rfl, rfl⟩)))))))))))))))))))
  · refine y_tableIn hB 145 dX7_count_1 (by omega) (by omega) (by rw [hsw_1]; rfl) (by decide) ?_
    refine y_aload_n hB 0 dX7_count_145 rfl rfl ?_
    refine gt_7_0 hB (by decide) (t1 := 579) (by omega) dX7_count_146 ?_
    refine y_iconst (v := 4) hB dX7_count_149 rfl ?_
    refine y_iload_n hB 1 dX7_count_150 rfl rfl ?_
    refine y_iadd (t := u + 4) hB dX7_count_151 (by omega) ?_
    refine y_bipush (v := 11) hB dX7_count_152 (by decide) ?_
    refine y_isub (t := u - 7) hB dX7_count_154 (by omega) ?_
    refine ald_21 hB (by decide) (t1 := S 579 (u - 7)) (by omega) rfl dX7_count_155 ?_
    exact m_si hB hE dX7_count_156 rfl (by rcases (show u = 11 ∨ u = 12 ∨ u = 13 ∨ u = 14 ∨ u = 15 by omega) with g | g | g | g | g; exact (Or.inr (Or.inr (Or.inr (Or.inr (Or.inr (Or.inr (Or.inr (Or.inr (Or.inr (Or.inr (Or.inr (Or.inr (Or.inl (⟨g, rfl, rfl⟩)))))))))))))); exact (Or.inr (Or.inr (Or.inr (Or.inr (Or.inr (Or.inr (Or.inr (Or.inr (Or.inr (Or.inr (Or.inr (Or.inr (Or.inr (Or.inl (⟨g, rfl, rfl⟩))))))))))))))); exact (Or.inr (Or.inr (Or.inr (Or.inr (Or.inr (Or.inr (Or.inr (Or.inr (Or.inr (Or.inr (Or.inr (Or.inr (Or.inr (Or.inr (Or.inl (⟨g, rfl, rfl⟩)))))))))))))))); exact (Or.inr (Or.inr (Or.inr (Or.inr (Or.inr (Or.inr (Or.inr (Or.inr (Or.inr (Or.inr (Or.inr (Or.inr (Or.inr (Or.inr (Or.inr (Or.inl (⟨g, rfl, rfl⟩))))))))))))))))); exact (Or.inr (Or.inr (Or.inr (Or.inr (Or.inr (Or.inr (Or.inr (Or.inr (Or.inr (Or.inr (Or.inr (Or.inr (Or.inr (Or.inr (Or.inr (Or.inr (Or.inl (⟨g, rfl, rfl⟩)))))))))))))))))))
  · refine y_tableIn hB 145 dX7_count_1 (by omega) (by omega) (by rw [hsw_1]; rfl) (by decide) ?_
    refine y_aload_n hB 0 dX7_count_145 rfl rfl ?_
    refine gt_7_0 hB (by decide) (t1 := 579) (by omega) dX7_count_146 ?_
    refine y_iconst (v := 4) hB dX7_count_149 rfl ?_
    refine y_iload_n hB 1 dX7_count_150 rfl rfl ?_
    refine y_iadd (t := u + 4) hB dX7_count_151 (by omega) ?_
    refine y_bipush (v := 11) hB dX7_count_152 (by decide) ?_
    refine y_isub (t := u - 7) hB dX7_count_154 (by omega) ?_
    refine ald_21 hB (by decide) (t1 := S 579 (u - 7)) (by omega) rfl dX7_count_155 ?_
    exact m_si hB hE dX7_count_156 rfl (by rcases (show u = 11 ∨ u = 12 ∨ u = 13 ∨ u = 14 ∨ u = 15 by omega) with g | g | g | g | g; exact (Or.inr (Or.inr (Or.inr (Or.inr (Or.inr (Or.inr (Or.inr (Or.inr (Or.inr (Or.inr (Or.inr (Or.inr (Or.inl (⟨g, rfl, rfl⟩)))))))))))))); exact (Or.inr (Or.inr (Or.inr (Or.inr (Or.inr (Or.inr (Or.inr (Or.inr (Or.inr (Or.inr (Or.inr (Or.inr (Or.inr (Or.inl (⟨g, rfl, rfl⟩))))))))))))))); exact (Or.inr (Or.inr (Or.inr (Or.inr (Or.inr (Or.inr (Or.inr (Or.inr (Or.inr (Or.inr (Or.inr (Or.inr (Or.inr (Or.inr (Or.inl (⟨g, rfl, rfl⟩)))))))))))))))); exact (Or.inr (Or.inr (Or.inr (Or.inr (Or.inr (Or.inr (Or.inr (Or.inr (Or.inr (Or.inr (Or.inr (Or.inr (Or.inr (Or.inr (Or.inr (Or.inl (⟨g, rfl, rfl⟩))))))))))))))))); exact (Or.inr (Or.inr (Or.inr (Or.inr (Or.inr (Or.inr (Or.inr (Or.inr (Or.inr (Or.inr (Or.inr (Or.inr (Or.inr (Or.inr (Or.inr (Or.inr (Or.inl (⟨g, rfl, rfl⟩)))))))))))))))))))
  · refine y_tableIn hB 157 dX7_count_1 (by omega) (by omega) (by rw [hsw_1]; rfl) (by decide) ?_
    refine y_aload_n hB 0 dX7_count_157 rfl rfl ?_
    refine gt_7_9 hB (by decide) (t1 := S 578 9) rfl dX7_count_158 ?_
    exact m_si hB hE dX7_count_161 rfl (Or.inr (Or.inr (Or.inr (Or.inr (Or.inr (Or.inr (Or.inr (Or.inr (Or.inr (Or.inr (Or.inr (Or.inr (Or.inr (Or.inr (Or.inr (Or.inr (Or.inr (Or.inl (⟨by omega, rfl, rfl⟩)))))))))))))))))))
  · refine y_tableIn hB 162 dX7_count_1 (by omega) (by omega) (by rw [hsw_1]; rfl) (by decide) ?_
    refine y_aload_n hB 0 dX7_count_162 rfl rfl ?_
    refine gt_7_8 hB (by decide) (t1 := S 578 8) rfl dX7_count_163 ?_
    exact m_si hB hE dX7_count_166 rfl (Or.inr (Or.inr (Or.inr (Or.inr (Or.inr (Or.inr (Or.inr (Or.inr (Or.inr (Or.inr (Or.inr (Or.inr (Or.inr (Or.inr (Or.inr (Or.inr (Or.inr (Or.inr (⟨by omega, rfl, rfl⟩)))))))))))))))))))
  · refine y_tableOut hB 167 dX7_count_1 (by omega) hsw_1 (by decide) ?_
    refine y_bipush (v := -2) hB dX7_count_167 (by decide) ?_
    exact m_si hB hE dX7_count_169 rfl (Or.inl (⟨by omega, rfl, rfl⟩))
set_option maxHeartbeats 4000000 in
theorem tX7_checkUrgent (l : Launch) (G : gG) (b : Nat) (C S : gM) (N : Int) (hM : MO (S 579) N) (hN : N ≤ 512) (h4 : 0 ≤ S 578 9 ∧ S 578 9 ≤ 4) : Ct l G b yX7_checkUrgent cX7_checkUrgent 3 (some .int) rmX7_checkUrgent [.ref (ad b (578))] 586 (wM G b C S) (SI G b C (fun v S' => (MkDone S ∧ v = -5 ∧ S' = S) ∨ (1 ≤ S 579 2 ∧ (∃ k : Int, 0 ≤ k ∧ isBest (mDue (S 579)) (mUrg (S 579)) (S 579 1) k) ∧ 0 ≤ v ∧ MkN v.toNat (recS S) S' ∧ MkDone S'))) := by
  refine CtK_of (by decide) (Nat.le_of_ble_eq_true rfl) q872 ?_
  intro x hl hB hE _
  subst hl
  show YM x G b 0 0 C S 0 [(0, .ref (ad b (578)))] []
  obtain ⟨hm1, hm0, hm2, hm3, hm4, hm5, hm6, hm7, hm8, hmt, hmp, hmz⟩ := id hM
  refine y_aload_n hB 0 dX7_checkUrgent_0 rfl rfl ?_
  refine gt_7_0 hB (by decide) (t1 := 579) (by omega) dX7_checkUrgent_1 ?_
  refine y_iconst (v := 2) hB dX7_checkUrgent_4 rfl ?_
  refine ald_21 hB (by decide) (t1 := S 579 2) (by omega) rfl dX7_checkUrgent_5 ?_
  refine y_if_eq hB 18 dX7_checkUrgent_6 (by decide) (by omega) (fun c_6 => ?_) (fun c_6 => ?_)
  · refine y_bipush (v := -5) hB dX7_checkUrgent_18 (by decide) ?_
    exact m_si hB hE dX7_checkUrgent_20 rfl (Or.inl ⟨by first | exact Or.inl (by omega) | exact Or.inr (by rw [show (-5 : Int) = v_10 by omega]; exact h_10), rfl, rfl⟩)
  · refine y_aload_n hB 0 dX7_checkUrgent_9 rfl rfl ?_
    refine m_V hB msX7_mostUrgent q873 (tX7_mostUrgent _ G b C S N hM hN) (t := 20) (by decide) (by decide) rfl rfl rfl rfl rfl ⟨Nat.le_of_ble_eq_true rfl, Nat.le_of_ble_eq_true rfl⟩ (Nat.le_of_ble_eq_true rfl) ⟨rfl, rfl⟩ ⟨Nat.le_of_ble_eq_true rfl, Nat.le_of_ble_eq_true rfl⟩ dX7_checkUrgent_10 (k_RI (fun v_10 h_10 => ?_))
    have hr_10 := isBest_r h_10
    refine y_bipush (v := -5) hB dX7_checkUrgent_13 (by decide) ?_
    refine y_icmp_ne hB 21 dX7_checkUrgent_15 (by decide) (by omega) (by omega) (fun c_15 => ?_) (fun c_15 => ?_)
    · refine y_aload_n hB 0 dX7_checkUrgent_21 rfl rfl ?_
      refine m_V hB msX7_record q795 (tX7_record _ G b C S (by omega)) (t := 20) (by decide) (by decide) rfl rfl rfl rfl rfl ⟨Nat.le_of_ble_eq_true rfl, Nat.le_of_ble_eq_true rfl⟩ (Nat.le_of_ble_eq_true rfl) ⟨rfl, rfl⟩ ⟨Nat.le_of_ble_eq_true rfl, Nat.le_of_ble_eq_true rfl⟩ dX7_checkUrgent_22 (k_SV (fun S_22 h_22 => ?_))
      obtain rfl := h_22
      have er : (recS S) 579 = S 579 := recS_out (by omega)
      have er0 : (recS S) 579 1 = S 579 1 := by rw [er]
      have er1 : (recS S) 579 2 = S 579 2 := by rw [er]
      have hMR : MO ((recS S) 579) N := by rw [er]; exact hM
      refine y_iconst (v := 0) hB dX7_checkUrgent_25 rfl ?_
      refine y_istore_n (lv' := [(1, .int (iI (0))), (0, .ref (ad b (578)))]) hB dX7_checkUrgent_26 rfl (by decide) rfl ?_
      refine y_aload_n hB 1 dX7_checkUrgent_27 rfl rfl ?_
      refine m_V hB msX7_mostUrgent q873 (tX7_mostUrgent _ G b C (recS S) N hMR hN) (t := 20) (by decide) (by decide) rfl rfl rfl rfl rfl ⟨Nat.le_of_ble_eq_true rfl, Nat.le_of_ble_eq_true rfl⟩ (Nat.le_of_ble_eq_true rfl) ⟨rfl, rfl⟩ ⟨Nat.le_of_ble_eq_true rfl, Nat.le_of_ble_eq_true rfl⟩ dX7_checkUrgent_28 (k_RI (fun v_28 h_28 => ?_))
      have hr_28 := isBest_r h_28
      refine y_istore_n (lv' := [(2, .int (iI (v_28))), (1, .int (iI (0))), (0, .ref (ad b (578)))]) hB dX7_checkUrgent_31 rfl (by decide) rfl ?_
      have LOOP_32 : ∀ (fu : Nat) (i m : Int) (SM : gM), (0 ≤ i) → (isBest (mDue (SM 579)) (mUrg (SM 579)) (SM 579 1) m) → (MkN i.toNat (recS S) SM) → (MO (SM 579) N) → (SM 579 2 = S 579 2 - i) → S 579 2 - i < (fu : Int) → YM x G b 0 0 C SM 32 [(0, .ref (ad b (578))), (1, .int (iI (i))), (2, .int (iI (m)))] [] := by
        intro fu
        induction fu with
        | zero => intro i m SM hi hbm hrun hMM hh hm_32; exfalso; have h9 := hMM.2.2.1; omega
        | succ fu ih_32 =>
          intro i m SM hi hbm hrun hMM hh hm_32
          have hmr := isBest_r hbm
          have hm1s := hMM.1
          have hm2s := hMM.2.2.1
          refine y_iload_n hB 2 dX7_checkUrgent_32 rfl rfl ?_
          refine y_bipush (v := -5) hB dX7_checkUrgent_33 (by decide) ?_
          refine y_icmp_eq hB 90 dX7_checkUrgent_35 (by decide) (by omega) (by omega) (fun c_35 => ?_) (fun c_35 => ?_)
          · refine y_iload_n hB 1 dX7_checkUrgent_90 rfl rfl ?_
            exact m_si hB hE dX7_checkUrgent_91 rfl (Or.inr ⟨by omega, ⟨v_10, by omega, h_10⟩, hi, hrun, by first | exact Or.inl (by omega) | exact Or.inr (by rw [show (-5 : Int) = m by omega]; exact hbm)⟩)
          · refine y_aload_n hB 0 dX7_checkUrgent_38 rfl rfl ?_
            refine gt_7_0 hB (by decide) (t1 := 579) (by omega) dX7_checkUrgent_39 ?_
            refine y_iconst (v := 2) hB dX7_checkUrgent_42 rfl ?_
            refine ald_21 hB (by decide) (t1 := SM 579 2) (by omega) rfl dX7_checkUrgent_43 ?_
            refine y_if_le hB 90 dX7_checkUrgent_44 (by decide) (by omega) (fun c_44 => ?_) (fun c_44 => ?_)
            · refine y_iload_n hB 1 dX7_checkUrgent_90 rfl rfl ?_
              exact m_si hB hE dX7_checkUrgent_91 rfl (Or.inr ⟨by omega, ⟨v_10, by omega, h_10⟩, hi, hrun, by first | exact Or.inl (by omega) | exact Or.inr (by rw [show (-5 : Int) = m by omega]; exact hbm)⟩)
            · have hm0 : 0 ≤ m := by omega
              refine y_aload_n hB 0 dX7_checkUrgent_47 rfl rfl ?_
              refine gt_7_0 hB (by decide) (t1 := 579) (by omega) dX7_checkUrgent_48 ?_
              refine y_iload_n hB 2 dX7_checkUrgent_51 rfl rfl ?_
              refine y_aload_n hB 0 dX7_checkUrgent_52 rfl rfl ?_
              refine y_iload_n hB 2 dX7_checkUrgent_53 rfl rfl ?_
              refine m_V hB msX7_due q877 (tX7_due _ G b C SM m N hMM hN (by omega)) (t := 20) (by decide) (by decide) rfl rfl rfl rfl rfl ⟨Nat.le_of_ble_eq_true rfl, Nat.le_of_ble_eq_true rfl⟩ (Nat.le_of_ble_eq_true rfl) ⟨rfl, rfl⟩ ⟨Nat.le_of_ble_eq_true rfl, Nat.le_of_ble_eq_true rfl⟩ dX7_checkUrgent_54 (k_RI (fun v_54 h_54 => ?_))
              have hdu := (isBest_k hbm hm0).2
              have hv54 : 0 ≤ v_54 ∧ v_54 < SM 579 (32 * m + 19) := (by rcases h_54 with ⟨g1, g2⟩ | ⟨g1, g2, g3, g4⟩; (obtain ⟨d1, j, d2, d3, d4⟩ := hdu; exact absurd d4 (g2 j d2 d3)); exact ⟨g1, g2⟩)
              have hm8 := (hMM.2.2.2.2.2.2.2.2.2.2.1 m hm0 (by omega)).2.2.2.1
              refine m_S hB msX7_f q846 (tX7_f _ G b C SM m v_54 (32 * m + 3 * v_54 + 24) (by omega)) rfl rfl ⟨Nat.le_of_ble_eq_true rfl, Nat.le_of_ble_eq_true rfl⟩ (Nat.le_of_ble_eq_true rfl) ⟨rfl, rfl⟩ ⟨Nat.le_of_ble_eq_true rfl, Nat.le_of_ble_eq_true rfl⟩ dX7_checkUrgent_57 (k_RI (fun v_57 h_57 => ?_))
              obtain rfl := h_57
              refine y_iconst (v := 2) hB dX7_checkUrgent_60 rfl ?_
              refine y_iadd (t := 32 * m + 3 * v_54 + 26) hB dX7_checkUrgent_61 (by omega) ?_
              refine y_aload_n hB 0 dX7_checkUrgent_62 rfl rfl ?_
              refine gt_7_0 hB (by decide) (t1 := 579) (by omega) dX7_checkUrgent_63 ?_
              refine y_iconst (v := 0) hB dX7_checkUrgent_66 rfl ?_
              refine ald_21 hB (by decide) (t1 := SM 579 0) (by omega) rfl dX7_checkUrgent_67 ?_
              refine ast_21 hB (by decide) (by omega) dX7_checkUrgent_68 ?_
              refine y_aload_n hB 0 dX7_checkUrgent_69 rfl rfl ?_
              refine gt_7_0 hB (by decide) (t1 := 579) (by omega) dX7_checkUrgent_70 ?_
              refine y_iconst (v := 2) hB dX7_checkUrgent_73 rfl ?_
              refine y_dup2 hB dX7_checkUrgent_74 rfl rfl ?_
              refine ald_21 hB (by decide) (t1 := SM 579 2) (by omega) (rd_i (by omega)) dX7_checkUrgent_75 ?_
              refine y_iconst (v := 1) hB dX7_checkUrgent_76 rfl ?_
              refine y_isub (t := SM 579 2 - 1) hB dX7_checkUrgent_77 (by omega) ?_
              refine ast_21 hB (by decide) (by omega) dX7_checkUrgent_78 ?_
              refine y_iinc (v := i + 1) (lv' := [(1, .int (iI (i + 1))), (0, .ref (ad b (578))), (2, .int (iI (m)))]) hB 1 dX7_checkUrgent_79 rfl (by omega) (by decide) rfl ?_
              have hMc : MO ((up2 (up2 SM 579 (32 * m + 3 * v_54 + 26) (SM 579 0)) 579 2 (SM 579 2 - 1)) 579) N := MO_mchk hMM (by omega) hv54 (by omega)
              have hS : MkS SM (up2 (up2 SM 579 (32 * m + 3 * v_54 + 26) (SM 579 0)) 579 2 (SM 579 2 - 1)) := ⟨m, v_54, hm0, by omega, hbm, hv54.1, h_54, rfl⟩
              refine y_aload_n hB 1 dX7_checkUrgent_82 rfl rfl ?_
              refine m_V hB msX7_mostUrgent q873 (tX7_mostUrgent _ G b C (up2 (up2 SM 579 (32 * m + 3 * v_54 + 26) (SM 579 0)) 579 2 (SM 579 2 - 1)) N hMc hN) (t := 20) (by decide) (by decide) rfl rfl rfl rfl rfl ⟨Nat.le_of_ble_eq_true rfl, Nat.le_of_ble_eq_true rfl⟩ (Nat.le_of_ble_eq_true rfl) ⟨rfl, rfl⟩ ⟨Nat.le_of_ble_eq_true rfl, Nat.le_of_ble_eq_true rfl⟩ dX7_checkUrgent_83 (k_RI (fun v_83 h_83 => ?_))
              have hr_83 := isBest_r h_83
              refine y_istore_n (lv' := [(2, .int (iI (v_83))), (1, .int (iI (i + 1))), (0, .ref (ad b (578)))]) hB dX7_checkUrgent_86 rfl (by decide) rfl ?_
              refine y_goto hB 32 dX7_checkUrgent_87 (by decide) ?_
              refine y_sub (lv' := [(0, .ref (ad b (578))), (1, .int (iI (i + 1))), (2, .int (iI (v_83)))]) [2, 1, 0] rfl ?_
              exact ih_32 (i + 1) v_83 _ (by omega) h_83 (MkN_s hi hrun hS) hMc (by rw [rd_hit rfl rfl]; omega) (by omega)
      refine y_sub (lv' := [(0, .ref (ad b (578))), (1, .int (iI (0))), (2, .int (iI (v_28)))]) [2, 1, 0] rfl ?_
      exact LOOP_32 ((S 579 2).toNat + 1) 0 v_28 _ (by omega) h_28 rfl hMR (by omega) (by omega)
    · refine y_bipush (v := -5) hB dX7_checkUrgent_18 (by decide) ?_
      exact m_si hB hE dX7_checkUrgent_20 rfl (Or.inl ⟨by first | exact Or.inl (by omega) | exact Or.inr (by rw [show (-5 : Int) = v_10 by omega]; exact h_10), rfl, rfl⟩)
set_option maxHeartbeats 4000000 in
theorem tX7_urgent (l : Launch) (G : gG) (b : Nat) (C S : gM) (u N : Int) (hu : -2147483648 ≤ u ∧ u ≤ 2147483647) (hM : MO (S 579) N) (hN : N ≤ 512) : Ct l G b yX7_urgent cX7_urgent 7 (some .int) rmX7_urgent [.ref (ad b (578)), .int (iI (u))] 586 (wM G b C S) (RI G b C S (fun v => (u < 0 ∧ v = -2) ∨ (0 ≤ u ∧ ((v = -5 ∧ ∀ k : Int, 0 ≤ k → k < S 579 1 → ¬ (fun k => S 579 (32 * k + 18) = 0 ∧ ahN (fun y => S 579 (32 * y + 18) = 0) (mUrg (S 579)) (S 579 1) k = u) k) ∨ (0 ≤ v ∧ v < S 579 1 ∧ (fun k => S 579 (32 * k + 18) = 0 ∧ ahN (fun y => S 579 (32 * y + 18) = 0) (mUrg (S 579)) (S 579 1) k = u) v))))) := by
  refine CtK_of (by decide) (Nat.le_of_ble_eq_true rfl) q996 ?_
  intro x hl hB hE _
  subst hl
  show YM x G b 0 0 C S 0 [(0, .ref (ad b (578))), (1, .int (iI (u)))] []
  obtain ⟨hm1, hm0, hm2, hm3, hm4, hm5, hm6, hm7, hm8, hmt, hmp, hmz⟩ := id hM
  refine y_iload_n hB 1 dX7_urgent_0 rfl rfl ?_
  refine y_if_ge hB 7 dX7_urgent_1 (by decide) (by omega) (fun c_1 => ?_) (fun c_1 => ?_)
  · refine y_bipush (v := -5) hB dX7_urgent_7 (by decide) ?_
    refine y_istore_n (lv' := [(2, .int (iI (-5))), (0, .ref (ad b (578))), (1, .int (iI (u)))]) hB dX7_urgent_9 rfl (by decide) rfl ?_
    refine y_iconst (v := 0) hB dX7_urgent_10 rfl ?_
    refine y_istore_n (lv' := [(3, .int (iI (0))), (2, .int (iI (-5))), (0, .ref (ad b (578))), (1, .int (iI (u)))]) hB dX7_urgent_11 rfl (by decide) rfl ?_
    have LOOP_12 : ∀ (fu : Nat) (i w : Int), (0 ≤ i ∧ i ≤ S 579 1) → ((w = -5 ∧ ∀ k : Int, 0 ≤ k → k < i → ¬ (fun k => S 579 (32 * k + 18) = 0 ∧ ahN (fun y => S 579 (32 * y + 18) = 0) (mUrg (S 579)) (S 579 1) k = u) k) ∨ (0 ≤ w ∧ w < i ∧ (fun k => S 579 (32 * k + 18) = 0 ∧ ahN (fun y => S 579 (32 * y + 18) = 0) (mUrg (S 579)) (S 579 1) k = u) w)) → S 579 1 - i < (fu : Int) → YM x G b 0 0 C S 12 [(0, .ref (ad b (578))), (1, .int (iI (u))), (2, .int (iI (w))), (3, .int (iI (i)))] [] := by
      intro fu
      induction fu with
      | zero => intro i w hi hv hm_12; exfalso; omega
      | succ fu ih_12 =>
        intro i w hi hv hm_12
        refine y_iload_n hB 3 dX7_urgent_12 rfl rfl ?_
        refine y_aload_n hB 0 dX7_urgent_13 rfl rfl ?_
        refine gt_7_0 hB (by decide) (t1 := 579) (by omega) dX7_urgent_14 ?_
        refine y_iconst (v := 1) hB dX7_urgent_17 rfl ?_
        refine ald_21 hB (by decide) (t1 := S 579 1) (by omega) rfl dX7_urgent_18 ?_
        refine y_icmp_ge hB 131 dX7_urgent_19 (by decide) (by omega) (by omega) (fun c_19 => ?_) (fun c_19 => ?_)
        · refine y_iload_n hB 2 dX7_urgent_131 rfl rfl ?_
          exact m_ri hB hE dX7_urgent_132 rfl (Or.inr ⟨by omega, by have hie : i = S 579 1 := (by omega); rw [hie] at hv; exact hv⟩)
        · obtain ⟨hp1, hp2, hp3, hp4, hp5, hp6, hp7, hpf⟩ := id (hmp i (by omega) (by omega))
          have hui := mUrg_b (hmp i (by omega) (by omega))
          refine y_iconst (v := 0) hB dX7_urgent_22 rfl ?_
          refine y_istore (lv' := [(4, .int (iI (0))), (0, .ref (ad b (578))), (1, .int (iI (u))), (2, .int (iI (w))), (3, .int (iI (i)))]) hB dX7_urgent_23 (by decide) rfl ?_
          refine y_iconst (v := 0) hB dX7_urgent_25 rfl ?_
          refine y_istore (lv' := [(5, .int (iI (0))), (4, .int (iI (0))), (0, .ref (ad b (578))), (1, .int (iI (u))), (2, .int (iI (w))), (3, .int (iI (i)))]) hB dX7_urgent_26 (by decide) rfl ?_
          have LOOP_28 : ∀ (fu : Nat) (j r : Int), (0 ≤ j ∧ j ≤ S 579 1) → (r = smI (fun y => ci (S 579 (32 * y + 18) = 0 ∧ ahd (mUrg (S 579)) y i)) j) → (0 ≤ r ∧ r ≤ j) → S 579 1 - j < (fu : Int) → YM x G b 0 0 C S 28 [(0, .ref (ad b (578))), (1, .int (iI (u))), (2, .int (iI (w))), (3, .int (iI (i))), (4, .int (iI (r))), (5, .int (iI (j)))] [] := by
            intro fu
            induction fu with
            | zero => intro j r hj hr hrb hm_28; exfalso; omega
            | succ fu ih_28 =>
              intro j r hj hr hrb hm_28
              refine y_iload hB 5 dX7_urgent_28 rfl ?_
              refine y_aload_n hB 0 dX7_urgent_30 rfl rfl ?_
              refine gt_7_0 hB (by decide) (t1 := 579) (by omega) dX7_urgent_31 ?_
              refine y_iconst (v := 1) hB dX7_urgent_34 rfl ?_
              refine ald_21 hB (by decide) (t1 := S 579 1) (by omega) rfl dX7_urgent_35 ?_
              refine y_icmp_ge hB 104 dX7_urgent_36 (by decide) (by omega) (by omega) (fun c_36 => ?_) (fun c_36 => ?_)
              · refine y_aload_n hB 0 dX7_urgent_104 rfl rfl ?_
                refine y_iload_n hB 3 dX7_urgent_105 rfl rfl ?_
                refine y_iconst (v := 2) hB dX7_urgent_106 rfl ?_
                refine m_V hB msX7_of q842 (tX7_of _ G b C S i 2 (32 * i + 18) (S 579 (32 * i + 18)) (by omega) (by omega) rfl) (t := 20) (by decide) (by decide) rfl rfl rfl rfl rfl ⟨Nat.le_of_ble_eq_true rfl, Nat.le_of_ble_eq_true rfl⟩ (Nat.le_of_ble_eq_true rfl) ⟨rfl, rfl⟩ ⟨Nat.le_of_ble_eq_true rfl, Nat.le_of_ble_eq_true rfl⟩ dX7_urgent_107 (k_RI (fun v_107 h_107 => ?_))
                obtain rfl := h_107
                refine y_if_ne hB 123 dX7_urgent_110 (by decide) (by omega) (fun c_110 => ?_) (fun c_110 => ?_)
                · refine y_iload_n hB 2 dX7_urgent_123 rfl rfl ?_
                  refine y_istore_n (lv' := [(2, .int (iI (w))), (0, .ref (ad b (578))), (1, .int (iI (u))), (3, .int (iI (i))), (4, .int (iI (r))), (5, .int (iI (j)))]) hB dX7_urgent_124 rfl (by decide) rfl ?_
                  refine y_iinc (v := i + 1) (lv' := [(3, .int (iI (i + 1))), (2, .int (iI (w))), (0, .ref (ad b (578))), (1, .int (iI (u))), (4, .int (iI (r))), (5, .int (iI (j)))]) hB 3 dX7_urgent_125 rfl (by omega) (by decide) rfl ?_
                  refine y_goto hB 12 dX7_urgent_128 (by decide) ?_
                  refine y_sub (lv' := [(0, .ref (ad b (578))), (1, .int (iI (u))), (2, .int (iI (w))), (3, .int (iI (i + 1)))]) [2, 3, 1, 0] rfl ?_
                  exact ih_12 (i + 1) w (by omega) (by have hno : ¬ (fun k => S 579 (32 * k + 18) = 0 ∧ ahN (fun y => S 579 (32 * y + 18) = 0) (mUrg (S 579)) (S 579 1) k = u) i := (fun z => by have z1 := z.1; have z2 := z.2; first | omega | (unfold ahN at z2; rw [show S 579 1 = j by omega, ← hr] at z2; omega)); rcases hv with ⟨g1, g2⟩ | ⟨g1, g2, g3⟩; exact Or.inl ⟨g1, fun k a1 a2 => by rcases (show k = i ∨ k < i by omega) with a3 | a3; rw [a3]; exact hno; exact g2 k a1 a3⟩; exact Or.inr ⟨g1, by omega, g3⟩) (by omega)
                · refine y_iload hB 4 dX7_urgent_113 rfl ?_
                  refine y_iload_n hB 1 dX7_urgent_115 rfl rfl ?_
                  refine y_icmp_ne hB 123 dX7_urgent_116 (by decide) (by omega) (by omega) (fun c_116 => ?_) (fun c_116 => ?_)
                  · refine y_iload_n hB 2 dX7_urgent_123 rfl rfl ?_
                    refine y_istore_n (lv' := [(2, .int (iI (w))), (0, .ref (ad b (578))), (1, .int (iI (u))), (3, .int (iI (i))), (4, .int (iI (r))), (5, .int (iI (j)))]) hB dX7_urgent_124 rfl (by decide) rfl ?_
                    refine y_iinc (v := i + 1) (lv' := [(3, .int (iI (i + 1))), (2, .int (iI (w))), (0, .ref (ad b (578))), (1, .int (iI (u))), (4, .int (iI (r))), (5, .int (iI (j)))]) hB 3 dX7_urgent_125 rfl (by omega) (by decide) rfl ?_
                    refine y_goto hB 12 dX7_urgent_128 (by decide) ?_
                    refine y_sub (lv' := [(0, .ref (ad b (578))), (1, .int (iI (u))), (2, .int (iI (w))), (3, .int (iI (i + 1)))]) [2, 3, 1, 0] rfl ?_
                    exact ih_12 (i + 1) w (by omega) (by have hno : ¬ (fun k => S 579 (32 * k + 18) = 0 ∧ ahN (fun y => S 579 (32 * y + 18) = 0) (mUrg (S 579)) (S 579 1) k = u) i := (fun z => by have z1 := z.1; have z2 := z.2; first | omega | (unfold ahN at z2; rw [show S 579 1 = j by omega, ← hr] at z2; omega)); rcases hv with ⟨g1, g2⟩ | ⟨g1, g2, g3⟩; exact Or.inl ⟨g1, fun k a1 a2 => by rcases (show k = i ∨ k < i by omega) with a3 | a3; rw [a3]; exact hno; exact g2 k a1 a3⟩; exact Or.inr ⟨g1, by omega, g3⟩) (by omega)
                  · refine y_iload_n hB 3 dX7_urgent_119 rfl rfl ?_
                    refine y_goto hB 124 dX7_urgent_120 (by decide) ?_
                    refine y_istore_n (lv' := [(2, .int (iI (i))), (0, .ref (ad b (578))), (1, .int (iI (u))), (3, .int (iI (i))), (4, .int (iI (r))), (5, .int (iI (j)))]) hB dX7_urgent_124 rfl (by decide) rfl ?_
                    refine y_iinc (v := i + 1) (lv' := [(3, .int (iI (i + 1))), (2, .int (iI (i))), (0, .ref (ad b (578))), (1, .int (iI (u))), (4, .int (iI (r))), (5, .int (iI (j)))]) hB 3 dX7_urgent_125 rfl (by omega) (by decide) rfl ?_
                    refine y_goto hB 12 dX7_urgent_128 (by decide) ?_
                    refine y_sub (lv' := [(0, .ref (ad b (578))), (1, .int (iI (u))), (2, .int (iI (i))), (3, .int (iI (i + 1)))]) [2, 3, 1, 0] rfl ?_
                    exact ih_12 (i + 1) i (by omega) (by first | (exfalso; omega) | exact Or.inr ⟨hi.1, by omega, ⟨by omega, by unfold ahN; rw [show S 579 1 = j by omega, ← hr]; omega⟩⟩) (by omega)
              · have hsj := MO_st hM j hj.1 (by omega)
                have huj := mUrg_b (hmp j (by omega) (by omega))
                refine y_aload_n hB 0 dX7_urgent_39 rfl rfl ?_
                refine y_iload_n hB 3 dX7_urgent_40 rfl rfl ?_
                refine y_iconst (v := 2) hB dX7_urgent_41 rfl ?_
                refine m_V hB msX7_of q842 (tX7_of _ G b C S i 2 (32 * i + 18) (S 579 (32 * i + 18)) (by omega) (by omega) rfl) (t := 20) (by decide) (by decide) rfl rfl rfl rfl rfl ⟨Nat.le_of_ble_eq_true rfl, Nat.le_of_ble_eq_true rfl⟩ (Nat.le_of_ble_eq_true rfl) ⟨rfl, rfl⟩ ⟨Nat.le_of_ble_eq_true rfl, Nat.le_of_ble_eq_true rfl⟩ dX7_urgent_42 (k_RI (fun v_42 h_42 => ?_))
                obtain rfl := h_42
                refine y_if_ne hB 104 dX7_urgent_45 (by decide) (by omega) (fun c_45 => ?_) (fun c_45 => ?_)
                · refine y_aload_n hB 0 dX7_urgent_104 rfl rfl ?_
                  refine y_iload_n hB 3 dX7_urgent_105 rfl rfl ?_
                  refine y_iconst (v := 2) hB dX7_urgent_106 rfl ?_
                  refine m_V hB msX7_of q842 (tX7_of _ G b C S i 2 (32 * i + 18) (S 579 (32 * i + 18)) (by omega) (by omega) rfl) (t := 20) (by decide) (by decide) rfl rfl rfl rfl rfl ⟨Nat.le_of_ble_eq_true rfl, Nat.le_of_ble_eq_true rfl⟩ (Nat.le_of_ble_eq_true rfl) ⟨rfl, rfl⟩ ⟨Nat.le_of_ble_eq_true rfl, Nat.le_of_ble_eq_true rfl⟩ dX7_urgent_107 (k_RI (fun v_107 h_107 => ?_))
                  obtain rfl := h_107
                  refine y_if_ne hB 123 dX7_urgent_110 (by decide) (by omega) (fun c_110 => ?_) (fun c_110 => ?_)
                  · refine y_iload_n hB 2 dX7_urgent_123 rfl rfl ?_
                    refine y_istore_n (lv' := [(2, .int (iI (w))), (0, .ref (ad b (578))), (1, .int (iI (u))), (3, .int (iI (i))), (4, .int (iI (r))), (5, .int (iI (j)))]) hB dX7_urgent_124 rfl (by decide) rfl ?_
                    refine y_iinc (v := i + 1) (lv' := [(3, .int (iI (i + 1))), (2, .int (iI (w))), (0, .ref (ad b (578))), (1, .int (iI (u))), (4, .int (iI (r))), (5, .int (iI (j)))]) hB 3 dX7_urgent_125 rfl (by omega) (by decide) rfl ?_
                    refine y_goto hB 12 dX7_urgent_128 (by decide) ?_
                    refine y_sub (lv' := [(0, .ref (ad b (578))), (1, .int (iI (u))), (2, .int (iI (w))), (3, .int (iI (i + 1)))]) [2, 3, 1, 0] rfl ?_
                    exact ih_12 (i + 1) w (by omega) (by have hno : ¬ (fun k => S 579 (32 * k + 18) = 0 ∧ ahN (fun y => S 579 (32 * y + 18) = 0) (mUrg (S 579)) (S 579 1) k = u) i := (fun z => by have z1 := z.1; have z2 := z.2; first | omega | (unfold ahN at z2; rw [show S 579 1 = j by omega, ← hr] at z2; omega)); rcases hv with ⟨g1, g2⟩ | ⟨g1, g2, g3⟩; exact Or.inl ⟨g1, fun k a1 a2 => by rcases (show k = i ∨ k < i by omega) with a3 | a3; rw [a3]; exact hno; exact g2 k a1 a3⟩; exact Or.inr ⟨g1, by omega, g3⟩) (by omega)
                  · refine y_iload hB 4 dX7_urgent_113 rfl ?_
                    refine y_iload_n hB 1 dX7_urgent_115 rfl rfl ?_
                    refine y_icmp_ne hB 123 dX7_urgent_116 (by decide) (by omega) (by omega) (fun c_116 => ?_) (fun c_116 => ?_)
                    · refine y_iload_n hB 2 dX7_urgent_123 rfl rfl ?_
                      refine y_istore_n (lv' := [(2, .int (iI (w))), (0, .ref (ad b (578))), (1, .int (iI (u))), (3, .int (iI (i))), (4, .int (iI (r))), (5, .int (iI (j)))]) hB dX7_urgent_124 rfl (by decide) rfl ?_
                      refine y_iinc (v := i + 1) (lv' := [(3, .int (iI (i + 1))), (2, .int (iI (w))), (0, .ref (ad b (578))), (1, .int (iI (u))), (4, .int (iI (r))), (5, .int (iI (j)))]) hB 3 dX7_urgent_125 rfl (by omega) (by decide) rfl ?_
                      refine y_goto hB 12 dX7_urgent_128 (by decide) ?_
                      refine y_sub (lv' := [(0, .ref (ad b (578))), (1, .int (iI (u))), (2, .int (iI (w))), (3, .int (iI (i + 1)))]) [2, 3, 1, 0] rfl ?_
                      exact ih_12 (i + 1) w (by omega) (by have hno : ¬ (fun k => S 579 (32 * k + 18) = 0 ∧ ahN (fun y => S 579 (32 * y + 18) = 0) (mUrg (S 579)) (S 579 1) k = u) i := (fun z => by have z1 := z.1; have z2 := z.2; first | omega | (unfold ahN at z2; rw [show S 579 1 = j by omega, ← hr] at z2; omega)); rcases hv with ⟨g1, g2⟩ | ⟨g1, g2, g3⟩; exact Or.inl ⟨g1, fun k a1 a2 => by rcases (show k = i ∨ k < i by omega) with a3 | a3; rw [a3]; exact hno; exact g2 k a1 a3⟩; exact Or.inr ⟨g1, by omega, g3⟩) (by omega)
                    · refine y_iload_n hB 3 dX7_urgent_119 rfl rfl ?_
                      refine y_goto hB 124 dX7_urgent_120 (by decide) ?_
                      refine y_istore_n (lv' := [(2, .int (iI (i))), (0, .ref (ad b (578))), (1, .int (iI (u))), (3, .int (iI (i))), (4, .int (iI (r))), (5, .int (iI (j)))]) hB dX7_urgent_124 rfl (by decide) rfl ?_
                      refine y_iinc (v := i + 1) (lv' := [(3, .int (iI (i + 1))), (2, .int (iI (i))), (0, .ref (ad b (578))), (1, .int (iI (u))), (4, .int (iI (r))), (5, .int (iI (j)))]) hB 3 dX7_urgent_125 rfl (by omega) (by decide) rfl ?_
                      refine y_goto hB 12 dX7_urgent_128 (by decide) ?_
                      refine y_sub (lv' := [(0, .ref (ad b (578))), (1, .int (iI (u))), (2, .int (iI (i))), (3, .int (iI (i + 1)))]) [2, 3, 1, 0] rfl ?_
                      exact ih_12 (i + 1) i (by omega) (by first | (exfalso; omega) | exact Or.inr ⟨hi.1, by omega, ⟨by omega, by unfold ahN; rw [show S 579 1 = j by omega, ← hr]; omega⟩⟩) (by omega)
                · refine y_aload_n hB 0 dX7_urgent_48 rfl rfl ?_
                  refine y_iload hB 5 dX7_urgent_49 rfl ?_
                  refine m_V hB msX7_urgency q891 (tX7_urgency _ G b C S j N hM hN (by omega)) (t := 20) (by decide) (by decide) rfl rfl rfl rfl rfl ⟨Nat.le_of_ble_eq_true rfl, Nat.le_of_ble_eq_true rfl⟩ (Nat.le_of_ble_eq_true rfl) ⟨rfl, rfl⟩ ⟨Nat.le_of_ble_eq_true rfl, Nat.le_of_ble_eq_true rfl⟩ dX7_urgent_51 (k_RI (fun v_51 h_51 => ?_))
                  refine y_aload_n hB 0 dX7_urgent_54 rfl rfl ?_
                  refine y_iload_n hB 3 dX7_urgent_55 rfl rfl ?_
                  refine m_V hB msX7_urgency q891 (tX7_urgency _ G b C S i N hM hN (by omega)) (t := 20) (by decide) (by decide) rfl rfl rfl rfl rfl ⟨Nat.le_of_ble_eq_true rfl, Nat.le_of_ble_eq_true rfl⟩ (Nat.le_of_ble_eq_true rfl) ⟨rfl, rfl⟩ ⟨Nat.le_of_ble_eq_true rfl, Nat.le_of_ble_eq_true rfl⟩ dX7_urgent_56 (k_RI (fun v_56 h_56 => ?_))
                  refine y_isub (t := v_51 - v_56) hB dX7_urgent_59 (by omega) ?_
                  refine y_istore (lv' := [(6, .int (iI (v_51 - v_56))), (0, .ref (ad b (578))), (1, .int (iI (u))), (2, .int (iI (w))), (3, .int (iI (i))), (4, .int (iI (r))), (5, .int (iI (j)))]) hB dX7_urgent_60 (by decide) rfl ?_
                  refine y_iload hB 5 dX7_urgent_62 rfl ?_
                  refine y_aload_n hB 1 dX7_urgent_64 rfl rfl ?_
                  refine y_iload hB 6 dX7_urgent_65 rfl ?_
                  refine y_iconst (v := 2) hB dX7_urgent_67 rfl ?_
                  refine m_V hB msX7_of q842 (tX7_of _ G b C S j 2 (32 * j + 18) (S 579 (32 * j + 18)) (by omega) (by omega) rfl) (t := 20) (by decide) (by decide) rfl rfl rfl rfl rfl ⟨Nat.le_of_ble_eq_true rfl, Nat.le_of_ble_eq_true rfl⟩ (Nat.le_of_ble_eq_true rfl) ⟨rfl, rfl⟩ ⟨Nat.le_of_ble_eq_true rfl, Nat.le_of_ble_eq_true rfl⟩ dX7_urgent_68 (k_RI (fun v_68 h_68 => ?_))
                  obtain rfl := h_68
                  refine y_if_ne hB 94 dX7_urgent_71 (by decide) (by omega) (fun c_71 => ?_) (fun c_71 => ?_)
                  · have hz : ci (S 579 (32 * j + 18) = 0 ∧ ahd (mUrg (S 579)) j i) = 0 := ci_f (fun z => by have z1 := z.1; omega)
                    refine y_iconst (v := 0) hB dX7_urgent_94 rfl ?_
                    refine y_iadd (t := r) hB dX7_urgent_95 (by omega) ?_
                    refine y_istore (lv' := [(4, .int (iI (r))), (6, .int (iI (v_51 - v_56))), (0, .ref (ad b (578))), (1, .int (iI (u))), (2, .int (iI (w))), (3, .int (iI (i))), (5, .int (iI (j)))]) hB dX7_urgent_96 (by decide) rfl ?_
                    refine y_iinc (v := j + 1) (lv' := [(5, .int (iI (j + 1))), (4, .int (iI (r))), (6, .int (iI (v_51 - v_56))), (0, .ref (ad b (578))), (1, .int (iI (u))), (2, .int (iI (w))), (3, .int (iI (i)))]) hB 6 dX7_urgent_98 rfl (by omega) (by decide) rfl ?_
                    refine y_goto hB 28 dX7_urgent_101 (by decide) ?_
                    refine y_sub (lv' := [(0, .ref (ad b (578))), (1, .int (iI (u))), (2, .int (iI (w))), (3, .int (iI (i))), (4, .int (iI (r))), (5, .int (iI (j + 1)))]) [3, 4, 5, 6, 1, 0] rfl ?_
                    exact ih_28 (j + 1) _ (by omega) (by rw [smI_s _ hj.1, ← hr]; omega) (by omega) (by omega)
                  · refine y_iload hB 0 dX7_urgent_74 rfl ?_
                    refine y_if_gt hB 90 dX7_urgent_76 (by decide) (by omega) (fun c_76 => ?_) (fun c_76 => ?_)
                    · have hz : ci (S 579 (32 * j + 18) = 0 ∧ ahd (mUrg (S 579)) j i) = 1 := ci_t ⟨by omega, Or.inl (by omega)⟩
                      refine y_iconst (v := 1) hB dX7_urgent_90 rfl ?_
                      refine y_goto hB 95 dX7_urgent_91 (by decide) ?_
                      refine y_iadd (t := r + 1) hB dX7_urgent_95 (by omega) ?_
                      refine y_istore (lv' := [(4, .int (iI (r + 1))), (6, .int (iI (v_51 - v_56))), (0, .ref (ad b (578))), (1, .int (iI (u))), (2, .int (iI (w))), (3, .int (iI (i))), (5, .int (iI (j)))]) hB dX7_urgent_96 (by decide) rfl ?_
                      refine y_iinc (v := j + 1) (lv' := [(5, .int (iI (j + 1))), (4, .int (iI (r + 1))), (6, .int (iI (v_51 - v_56))), (0, .ref (ad b (578))), (1, .int (iI (u))), (2, .int (iI (w))), (3, .int (iI (i)))]) hB 6 dX7_urgent_98 rfl (by omega) (by decide) rfl ?_
                      refine y_goto hB 28 dX7_urgent_101 (by decide) ?_
                      refine y_sub (lv' := [(0, .ref (ad b (578))), (1, .int (iI (u))), (2, .int (iI (w))), (3, .int (iI (i))), (4, .int (iI (r + 1))), (5, .int (iI (j + 1)))]) [3, 4, 5, 6, 1, 0] rfl ?_
                      exact ih_28 (j + 1) _ (by omega) (by rw [smI_s _ hj.1, ← hr]; omega) (by omega) (by omega)
                    · refine y_iload hB 0 dX7_urgent_79 rfl ?_
                      refine y_if_ne hB 94 dX7_urgent_81 (by decide) (by omega) (fun c_81 => ?_) (fun c_81 => ?_)
                      · have hz : ci (S 579 (32 * j + 18) = 0 ∧ ahd (mUrg (S 579)) j i) = 0 := ci_f (fun z => by have z2 := z.2; unfold ahd at z2; omega)
                        refine y_iconst (v := 0) hB dX7_urgent_94 rfl ?_
                        refine y_iadd (t := r) hB dX7_urgent_95 (by omega) ?_
                        refine y_istore (lv' := [(4, .int (iI (r))), (6, .int (iI (v_51 - v_56))), (0, .ref (ad b (578))), (1, .int (iI (u))), (2, .int (iI (w))), (3, .int (iI (i))), (5, .int (iI (j)))]) hB dX7_urgent_96 (by decide) rfl ?_
                        refine y_iinc (v := j + 1) (lv' := [(5, .int (iI (j + 1))), (4, .int (iI (r))), (6, .int (iI (v_51 - v_56))), (0, .ref (ad b (578))), (1, .int (iI (u))), (2, .int (iI (w))), (3, .int (iI (i)))]) hB 6 dX7_urgent_98 rfl (by omega) (by decide) rfl ?_
                        refine y_goto hB 28 dX7_urgent_101 (by decide) ?_
                        refine y_sub (lv' := [(0, .ref (ad b (578))), (1, .int (iI (u))), (2, .int (iI (w))), (3, .int (iI (i))), (4, .int (iI (r))), (5, .int (iI (j + 1)))]) [3, 4, 5, 6, 1, 0] rfl ?_
                        exact ih_28 (j + 1) _ (by omega) (by rw [smI_s _ hj.1, ← hr]; omega) (by omega) (by omega)
                      · refine y_iload hB 6 dX7_urgent_84 rfl ?_
                        refine y_iload_n hB 4 dX7_urgent_86 rfl rfl ?_
                        refine y_icmp_ge hB 94 dX7_urgent_87 (by decide) (by omega) (by omega) (fun c_87 => ?_) (fun c_87 => ?_)
                        · have hz : ci (S 579 (32 * j + 18) = 0 ∧ ahd (mUrg (S 579)) j i) = 0 := ci_f (fun z => by have z2 := z.2; unfold ahd at z2; omega)
                          refine y_iconst (v := 0) hB dX7_urgent_94 rfl ?_
                          refine y_iadd (t := r) hB dX7_urgent_95 (by omega) ?_
                          refine y_istore (lv' := [(4, .int (iI (r))), (6, .int (iI (v_51 - v_56))), (0, .ref (ad b (578))), (1, .int (iI (u))), (2, .int (iI (w))), (3, .int (iI (i))), (5, .int (iI (j)))]) hB dX7_urgent_96 (by decide) rfl ?_
                          refine y_iinc (v := j + 1) (lv' := [(5, .int (iI (j + 1))), (4, .int (iI (r))), (6, .int (iI (v_51 - v_56))), (0, .ref (ad b (578))), (1, .int (iI (u))), (2, .int (iI (w))), (3, .int (iI (i)))]) hB 6 dX7_urgent_98 rfl (by omega) (by decide) rfl ?_
                          refine y_goto hB 28 dX7_urgent_101 (by decide) ?_
                          refine y_sub (lv' := [(0, .ref (ad b (578))), (1, .int (iI (u))), (2, .int (iI (w))), (3, .int (iI (i))), (4, .int (iI (r))), (5, .int (iI (j + 1)))]) [3, 4, 5, 6, 1, 0] rfl ?_
                          exact ih_28 (j + 1) _ (by omega) (by rw [smI_s _ hj.1, ← hr]; omega) (by omega) (by omega)
                        · have hz : ci (S 579 (32 * j + 18) = 0 ∧ ahd (mUrg (S 579)) j i) = 1 := ci_t ⟨by omega, Or.inr ⟨by omega, by omega⟩⟩
                          refine y_iconst (v := 1) hB dX7_urgent_90 rfl ?_
                          refine y_goto hB 95 dX7_urgent_91 (by decide) ?_
                          refine y_iadd (t := r + 1) hB dX7_urgent_95 (by omega) ?_
                          refine y_istore (lv' := [(4, .int (iI (r + 1))), (6, .int (iI (v_51 - v_56))), (0, .ref (ad b (578))), (1, .int (iI (u))), (2, .int (iI (w))), (3, .int (iI (i))), (5, .int (iI (j)))]) hB dX7_urgent_96 (by decide) rfl ?_
                          refine y_iinc (v := j + 1) (lv' := [(5, .int (iI (j + 1))), (4, .int (iI (r + 1))), (6, .int (iI (v_51 - v_56))), (0, .ref (ad b (578))), (1, .int (iI (u))), (2, .int (iI (w))), (3, .int (iI (i)))]) hB 6 dX7_urgent_98 rfl (by omega) (by decide) rfl ?_
                          refine y_goto hB 28 dX7_urgent_101 (by decide) ?_
                          refine y_sub (lv' := [(0, .ref (ad b (578))), (1, .int (iI (u))), (2, .int (iI (w))), (3, .int (iI (i))), (4, .int (iI (r + 1))), (5, .int (iI (j + 1)))]) [3, 4, 5, 6, 1, 0] rfl ?_
                          exact ih_28 (j + 1) _ (by omega) (by rw [smI_s _ hj.1, ← hr]; omega) (by omega) (by omega)
          refine y_sub (lv' := [(0, .ref (ad b (578))), (1, .int (iI (u))), (2, .int (iI (w))), (3, .int (iI (i))), (4, .int (iI (0))), (5, .int (iI (0)))]) [2, 3, 4, 5, 1, 0] rfl ?_
          exact LOOP_28 ((S 579 1).toNat + 1) 0 0 (by omega) (smI_0 _).symm (by omega) (by omega)
    refine y_sub (lv' := [(0, .ref (ad b (578))), (1, .int (iI (u))), (2, .int (iI (-5))), (3, .int (iI (0)))]) [2, 3, 1, 0] rfl ?_
    exact LOOP_12 ((S 579 1).toNat + 1) 0 (-5) (by omega) (Or.inl ⟨rfl, fun k a1 a2 => by omega⟩) (by omega)
  · refine y_bipush (v := -2) hB dX7_urgent_4 (by decide) ?_
    exact m_ri hB hE dX7_urgent_6 rfl (Or.inl ⟨by omega, rfl⟩)
