/-! bounds of what is read; lives joined; a page printed; facts checked -/
theorem bgn_out {M : gM} {q u t a : Int} (h : a ≠ q) : bgn M q u t a = M a := by
  unfold bgn
  rw [up2_ne _ _ _ h, up2_ne _ _ _ h, up2_ne _ _ _ h, up2_ne _ _ _ h, up2_ne _ _ _ h, up2_ne _ _ _ h, up2_ne _ _ _ h]
theorem bgn_cp {M : gM} {q u t : Int} (f : Int → Int) : cpI f (bgn M q u t q) 7 = cpI f (M q) 7 := by
  funext j
  unfold cpI
  by_cases hj : 0 ≤ j ∧ j < 7
  · rw [if_pos hj, if_pos hj]
  · rw [if_neg hj, if_neg hj]
    unfold bgn
    rw [rd_i (by omega), rd_i (by omega), rd_i (by omega), rd_i (by omega), rd_i (by omega), rd_i (by omega), rd_i (by omega)]
theorem DkOk_mod {C C' : gM} {N : Int} (h : DkOk C 1 N) (h3 : C' 1 3 = C 1 3) (h4 : C' 1 4 = C 1 4) (h5 : 0 ≤ C' 1 5 ∧ C' 1 5 ≤ 24) (h6 : C' 1 6 = C 1 6) (e2 : C' 2 = C 2) (e3 : C' 3 = C 3) (hl : ∀ i : Int, 0 ≤ i → i < C 1 3 → LfOk C (4 * i + 1 + 4) (C 1 4) → LfOk C' (4 * i + 1 + 4) (C 1 4)) : DkOk C' 1 N := by
  obtain ⟨g1, g2, g3, g4, g5, g6, g7, g8, g9, g10, g11⟩ := h
  unfold DkOk
  rw [h3, h4, h6]
  rw [show (1 : Int) + 1 = 2 from rfl] at *
  rw [show (1 : Int) + 2 = 3 from rfl] at *
  rw [e2, e3]
  exact ⟨g1, g2, h5, g4, g5, g6, g7, g8, g9, g10, fun i a1 a2 => hl i a1 a2 (g11 i a1 a2)⟩
theorem LfOk_days {C C' : gM} {q T : Int} (h : LfOk C q T) (e0 : C' q = C q) (e1 : C' (q + 1) = C (q + 1)) (e2 : C' (q + 2) = C (q + 2)) (e3 : ∀ j, C' (q + 3) j = C (q + 3) j ∨ C' (q + 3) j = T) (hT : 0 ≤ T) : LfOk C' q T := by
  obtain ⟨g1, g2, g3, g4, g5, g6, g7, g8, g9⟩ := h
  unfold LfOk
  rw [e0, e1, e2]
  refine ⟨g1, g2, g3, g4, g5, g6, g7, g8, fun j a1 a2 => ?_⟩
  have := g9 j a1 a2
  rcases e3 j with h | h
  · rw [h]; exact this
  · rw [h]; exact ⟨this.1, this.2.1, by omega⟩
/-- a fact checked -/
def chk (M : gM) (k f : Int) : gM := up2 (up2 M (4 * k + 8) f (M 1 4)) 1 5 (M 1 5 - 1)
theorem DkOk_chk {M : gM} {N k f : Int} (h : DkOk M 1 N) (hk : 0 ≤ k) (h5 : 1 ≤ M 1 5) : DkOk (chk M k f) 1 N := by
  have g := h.2.2.1
  have gT := h.2.1
  unfold chk
  refine DkOk_mod h ?_ ?_ ?_ ?_ ?_ ?_ (fun i a1 a2 hl => LfOk_days hl ?_ ?_ ?_ (fun j => ?_) gT.1)
  · rw [rd_i (by omega), rd_k (by omega)]
  · rw [rd_i (by omega), rd_k (by omega)]
  · rw [rd_hit rfl rfl]; omega
  · rw [rd_i (by omega), rd_k (by omega)]
  · rw [up2_ne _ _ _ (by omega), up2_ne _ _ _ (by omega)]
  · rw [up2_ne _ _ _ (by omega), up2_ne _ _ _ (by omega)]
  · rw [up2_ne _ _ _ (by omega), up2_ne _ _ _ (by omega)]
  · rw [up2_ne _ _ _ (by omega), up2_ne _ _ _ (by omega)]
  · rw [up2_ne _ _ _ (by omega), up2_ne _ _ _ (by omega)]
  · rw [rd_k (by omega)]
    by_cases hi : 4 * i + 1 + 4 + 3 = 4 * k + 8
    · by_cases hj : j = f
      · rw [rd_hit hi hj]; exact Or.inr rfl
      · rw [rd_i hj]; exact Or.inl rfl
    · rw [rd_k hi]; exact Or.inl rfl
def CkDone (M : gM) : Prop := M 1 5 < 1 ∨ isBest (due M 1) (urgP M 1) (M 1 3) (-5)
def CkS (M M' : gM) : Prop := ∃ k f : Int, 0 ≤ k ∧ 1 ≤ M 1 5 ∧ isBest (due M 1) (urgP M 1) (M 1 3) k ∧ 0 ≤ f ∧ isFirst (toChk M 1 (4 * k + 5)) (M (4 * k + 5) 6) f ∧ M' = chk M k f
def CkN : Nat → gM → gM → Prop
  | 0, M, M' => M' = M
  | n + 1, M, M' => ∃ M1, CkN n M M1 ∧ CkS M1 M'
theorem CkN_s {i : Int} {M M1 M' : gM} (hi : 0 ≤ i) (h : CkN i.toNat M M1) (h2 : CkS M1 M') : CkN (i + 1).toNat M M' := by
  rw [show (i + 1).toNat = i.toNat + 1 by omega]
  exact ⟨M1, h, h2⟩
theorem isBest_P {P : Int → Prop} {f : Int → Int} {n v : Int} (h : isBest P f n v) (hv : 0 ≤ v) : P v := by
  rcases h with ⟨h1, h2⟩ | ⟨h1, h2, h3, h4⟩
  · omega
  · exact h3
/-- those of the page, printed -/
def mkPn (M : gM) : Nat → gM
  | 0 => M
  | k + 1 => up2 (up2 (mkPn M k) (4 * M 577 k + 5) 2 3) (4 * M 577 k + 5) 5 (M 1 4)
def mkP (M : gM) (i : Int) : gM := mkPn M i.toNat
theorem mkP_0 (M : gM) : mkP M 0 = M := rfl
theorem mkP_s {M : gM} {i : Int} (h : 0 ≤ i) : up2 (up2 (mkP M i) (4 * M 577 i + 5) 2 3) (4 * M 577 i + 5) 5 (M 1 4) = mkP M (i + 1) := by
  unfold mkP
  rw [show (i + 1).toNat = i.toNat + 1 by omega]
  show _ = up2 (up2 (mkPn M i.toNat) (4 * M 577 (i.toNat : Int) + 5) 2 3) (4 * M 577 (i.toNat : Int) + 5) 5 (M 1 4)
  rw [Int.toNat_of_nonneg h]
theorem mkP_out {M : gM} {i a : Int} (h0 : 0 ≤ i) (h : ∀ s : Int, 0 ≤ s → s < i → a ≠ 4 * M 577 s + 5) : mkP M i a = M a := by
  have key : ∀ k : Nat, (k : Int) ≤ i → mkP M k a = M a := by
    intro k
    induction k with
    | zero => intro _; exact congrFun (mkP_0 M) a
    | succ k ih =>
      intro hk
      rw [show ((k + 1 : Nat) : Int) = (k : Int) + 1 by omega, ← mkP_s (by omega), up2_ne _ _ _ (h k (by omega) (by omega)), up2_ne _ _ _ (h k (by omega) (by omega))]
      exact ih (by omega)
  have := key i.toNat (by omega)
  rwa [Int.toNat_of_nonneg h0] at this
theorem mkP_j {M : gM} {i a j : Int} (h0 : 0 ≤ i) (h : j ≠ 2 ∧ j ≠ 5) : mkP M i a j = M a j := by
  have key : ∀ k : Nat, mkP M k a j = M a j := by
    intro k
    induction k with
    | zero => exact congrFun (congrFun (mkP_0 M) a) j
    | succ k ih =>
      rw [show ((k + 1 : Nat) : Int) = (k : Int) + 1 by omega, ← mkP_s (by omega), rd_i (by omega), rd_i (by omega)]
      exact ih
  have := key i.toNat
  rwa [Int.toNat_of_nonneg h0] at this
theorem mkP_in {M : gM} {i a : Int} (h0 : 0 ≤ i) (h : ∃ s : Int, 0 ≤ s ∧ s < i ∧ a = 4 * M 577 s + 5) : mkP M i a 2 = 3 ∧ mkP M i a 5 = M 1 4 := by
  obtain ⟨s, s0, s1, s2⟩ := h
  have key : ∀ k : Nat, s < (k : Int) → mkP M k a 2 = 3 ∧ mkP M k a 5 = M 1 4 := by
    intro k
    induction k with
    | zero => intro h; omega
    | succ k ih =>
      intro hk
      rw [show ((k + 1 : Nat) : Int) = (k : Int) + 1 by omega, ← mkP_s (by omega)]
      by_cases ha : a = 4 * M 577 (k : Int) + 5
      · rw [rd_i (by omega), rd_hit ha rfl, rd_hit ha rfl]
        exact ⟨rfl, rfl⟩
      · have hs : s ≠ (k : Int) := fun z => ha (by rw [← z]; exact s2)
        rw [rd_k ha, rd_k ha, rd_k ha, rd_k ha]
        exact ih (by omega)
  have := key i.toNat (by omega)
  rwa [Int.toNat_of_nonneg h0] at this
theorem DkOk_mk {M : gM} {N i : Int} (h : DkOk M 1 N) (h0 : 0 ≤ i) (hp : ∀ s : Int, 0 ≤ s → s < i → (0 ≤ M 577 s ∧ M 577 s < M 1 3) ∧ 0 ≤ M (4 * M 577 s + 5) 4) : DkOk (mkP M i) 1 N := by
  have O : ∀ a, (a < 5 ∨ (a - 5) % 4 ≠ 0) → mkP M i a = M a := fun a ha => mkP_out h0 (fun s s0 s1 => by have := (hp s s0 s1).1; omega)
  have gT := h.2.1
  have g5 := h.2.2.1
  refine DkOk_mod h ?_ ?_ ?_ ?_ (O 2 (by omega)) (O 3 (by omega)) (fun j a1 a2 hl => ?_)
  · rw [O 1 (by omega)]
  · rw [O 1 (by omega)]
  · rw [O 1 (by omega)]; exact g5
  · rw [O 1 (by omega)]
  · by_cases hz : ∃ s : Int, 0 ≤ s ∧ s < i ∧ 4 * j + 1 + 4 = 4 * M 577 s + 5
    · have hv := mkP_in h0 hz
      obtain ⟨s, s0, s1, s2⟩ := hz
      have hd := (hp s s0 s1).2
      rw [← s2] at hd
      obtain ⟨b1, b2, b3, b4, b5, b6, b7, b8, b9⟩ := hl
      unfold LfOk
      rw [O (4 * j + 1 + 4 + 1) (by omega), O (4 * j + 1 + 4 + 2) (by omega), O (4 * j + 1 + 4 + 3) (by omega), mkP_j h0 (j := 0) (by omega), mkP_j h0 (j := 1) (by omega), mkP_j h0 (j := 3) (by omega), mkP_j h0 (j := 4) (by omega), mkP_j h0 (j := 6) (by omega), hv.1, hv.2]
      exact ⟨b1, b2, by omega, b4, b5, by omega, b7, fun _ => hd, b9⟩
    · have e : mkP M i (4 * j + 1 + 4) = M (4 * j + 1 + 4) := mkP_out h0 (fun s s0 s1 z => hz ⟨s, s0, s1, z⟩)
      exact LfOk_ag (fun a c1 c2 => by
        rcases (show a = 4 * j + 1 + 4 ∨ a = 4 * j + 1 + 4 + 1 ∨ a = 4 * j + 1 + 4 + 2 ∨ a = 4 * j + 1 + 4 + 3 by omega) with g | g | g | g
        · rw [g]; exact e
        · rw [g]; exact O _ (by omega)
        · rw [g]; exact O _ (by omega)
        · rw [g]; exact O _ (by omega)) hl
theorem Laid_dead {C L : gM} (h : Laid C L 1) : ∀ r : Int, 0 ≤ r → r < L 573 2 → (0 ≤ L 577 r ∧ L 577 r < C 1 3) ∧ C (4 * L 577 r + 5) 2 = 2 := by
  intro r a1 a2
  obtain ⟨q, m, h1, h2, h3, h4, h5, h6, h7, h8⟩ := h
  rw [h3] at a2
  obtain ⟨s, b1, b2, b3, b4⟩ := pg_at (h1.1.1) ⟨a1, a2⟩
  have e := h4 s b1 b2 b3
  rw [b4] at e
  have g := h1.2.1 s b1 b2
  rw [e]
  refine ⟨⟨g.1, g.2.1⟩, ?_⟩
  have := g.2.2.1
  rwa [show 4 * q s + 1 + 4 = 4 * q s + 5 by omega] at this
def prtM (M : gM) : gM := up2 (up2 (tbk M 1 (M 1 3)) 1 4 (tbk M 1 (M 1 3) 1 4 + 1)) 1 5 (tbk M 1 (M 1 3) (1 + 1) 0)
set_option maxHeartbeats 4000000 in
theorem tX6_print (l : Launch) (G : gG) (b : Nat) (C S : gM) (N : Int) (hD : DkOk C 1 N) (hN : N ≤ 512) (hhf : 0 ≤ C 169 1 ∧ C 169 1 < 4) (hhs : 0 ≤ C 169 2 ∧ C 169 2 ≤ 4) : Ct l G b yX6_print cX6_print 3 (some .int) rmX6_print [.ref (ad b (0))] 578 (wM G b C S) (WI G b S (fun v C' => ∃ L, Laid (remC C) L 1 ∧ v = L 573 2 ∧ C' = prtM (mkP L (L 573 2)))) := by
  refine CtK_of (by decide) (Nat.le_of_ble_eq_true rfl) q566 ?_
  intro x hl hB hE _
  subst hl
  show YM x G b 0 0 C S 0 [(0, .ref (ad b (0)))] []
  obtain ⟨hd3, hd4, hd5, hd6, hs0, hs1, hs2, hs3, hs4, htr, hlv⟩ := id hD
  refine y_aload_n hB 0 dX6_print_0 rfl rfl ?_
  refine gt_6_0 hB (by decide) (t1 := 1) (by omega) dX6_print_1 ?_
  refine m_V hB msX0_today q356 (tX0_today _ G b C S 1 (desk_1).1) (t := 1) (desk_1).1 (by decide) rfl rfl rfl rfl rfl ⟨Nat.le_of_ble_eq_true rfl, Nat.le_of_ble_eq_true rfl⟩ (Nat.le_of_ble_eq_true rfl) ⟨rfl, rfl⟩ ⟨Nat.le_of_ble_eq_true rfl, Nat.le_of_ble_eq_true rfl⟩ dX6_print_4 (k_RI (fun v_4 h_4 => ?_))
  refine y_sipush (v := 9999) hB dX6_print_7 (by decide) ?_
  refine y_icmp_lt hB 16 dX6_print_10 (by decide) (by omega) (by omega) (fun c_10 => ?_) (fun c_10 => ?_)
  · refine y_aload_n hB 0 dX6_print_16 rfl rfl ?_
    refine gt_6_3 hB (by decide) (t1 := 169) (by omega) dX6_print_17 ?_
    refine y_aload_n hB 0 dX6_print_20 rfl rfl ?_
    refine gt_6_0 hB (by decide) (t1 := 1) (by omega) dX6_print_21 ?_
    refine m_V hB msX1_remember q199 (tX1_remember _ G b C S hhf hhs hd3) (t := 7) (by decide) (by decide) rfl rfl rfl rfl rfl ⟨Nat.le_of_ble_eq_true rfl, Nat.le_of_ble_eq_true rfl⟩ (Nat.le_of_ble_eq_true rfl) ⟨rfl, rfl⟩ ⟨Nat.le_of_ble_eq_true rfl, Nat.le_of_ble_eq_true rfl⟩ dX6_print_24 (k_WV (fun C_24 h_24 => ?_))
    obtain rfl := h_24
    have agR := remC_ag hd3
    have hDR := DkOk_ag agR hD
    have er := agR 1 (by omega) (by omega)
    have e3 : (remC C) 1 3 = C 1 3 := by rw [er]
    have e4 : (remC C) 1 4 = C 1 4 := by rw [er]
    have e5 : (remC C) 1 5 = C 1 5 := by rw [er]
    have e6 : (remC C) 1 6 = C 1 6 := by rw [er]
    refine y_aload_n hB 0 dX6_print_27 rfl rfl ?_
    refine gt_6_6 hB (by decide) (t1 := 573) (by omega) dX6_print_28 ?_
    refine y_aload_n hB 0 dX6_print_31 rfl rfl ?_
    refine gt_6_0 hB (by decide) (t1 := 1) (by omega) dX6_print_32 ?_
    refine m_V hB msX3_lay q415 (tX3_lay _ G b (remC C) S 1 N desk_1 (by omega) hDR hN) (t := 14) (by decide) (by decide) rfl rfl rfl rfl rfl ⟨Nat.le_of_ble_eq_true rfl, Nat.le_of_ble_eq_true rfl⟩ (Nat.le_of_ble_eq_true rfl) ⟨rfl, rfl⟩ ⟨Nat.le_of_ble_eq_true rfl, Nat.le_of_ble_eq_true rfl⟩ dX6_print_35 (k_WV (fun C_35 h_35 => ?_))
    obtain ⟨q35, m35, hk1, hk2, hk3, hk4, hk5, hk6, hk7, hk8⟩ := id h_35
    have hde := Laid_dead h_35
    have agL : agD (remC C) C_35 1 := fun a a1 a2 => hk8 a (by omega)
    have hDL : DkOk C_35 1 N := DkOk_ag agL hDR
    have eL : C_35 1 = C 1 := (agL 1 (by omega) (by omega)).trans er
    have eL3 : C_35 1 3 = C 1 3 := by rw [eL]
    have hps : ∀ s : Int, 0 ≤ s → s < C_35 573 2 → (0 ≤ C_35 577 s ∧ C_35 577 s < C_35 1 3) ∧ 0 ≤ C_35 (4 * C_35 577 s + 5) 4 := fun s s0 s1 => (by have h9 := hde s s0 s1; have h8 := (hDL.2.2.2.2.2.2.2.2.2.2 (C_35 577 s) h9.1.1 (by omega)).2.2.2.2.2.2.2.1; rw [show 4 * C_35 577 s + 1 + 4 = 4 * C_35 577 s + 5 by omega, agL (4 * C_35 577 s + 5) (by omega) (by omega)] at h8; refine ⟨by omega, ?_⟩; rw [agL (4 * C_35 577 s + 5) (by omega) (by omega)]; exact h8 (by omega))
    refine y_aload_n hB 0 dX6_print_38 rfl rfl ?_
    refine gt_6_6 hB (by decide) (t1 := 573) (by omega) dX6_print_39 ?_
    refine m_V hB msX3_size q567 (tX3_size _ G b C_35 S) (t := 14) (by decide) (by decide) rfl rfl rfl rfl rfl ⟨Nat.le_of_ble_eq_true rfl, Nat.le_of_ble_eq_true rfl⟩ (Nat.le_of_ble_eq_true rfl) ⟨rfl, rfl⟩ ⟨Nat.le_of_ble_eq_true rfl, Nat.le_of_ble_eq_true rfl⟩ dX6_print_42 (k_RI (fun v_42 h_42 => ?_))
    refine y_istore_n (lv' := [(1, .int (iI (v_42))), (0, .ref (ad b (0)))]) hB dX6_print_45 rfl (by decide) rfl ?_
    refine y_iconst (v := 0) hB dX6_print_46 rfl ?_
    refine y_istore_n (lv' := [(2, .int (iI (0))), (1, .int (iI (v_42))), (0, .ref (ad b (0)))]) hB dX6_print_47 rfl (by decide) rfl ?_
    have LOOP_48 : ∀ (fu : Nat) (i : Int), (0 ≤ i ∧ i ≤ v_42) → v_42 - i < (fu : Int) → YM x G b 0 0 (mkP C_35 i) S 48 [(0, .ref (ad b (0))), (1, .int (iI (v_42))), (2, .int (iI (i)))] [] := by
      intro fu
      induction fu with
      | zero => intro i hi hm_48; exfalso; omega
      | succ fu ih_48 =>
        intro i hi hm_48
        have e573 : mkP C_35 i 573 2 = C_35 573 2 := by rw [mkP_out hi.1 (fun s s0 s1 => by have h9 := (hps s s0 (by omega)).1; omega)]
        have e577 : mkP C_35 i 577 = C_35 577 := mkP_out hi.1 (fun s s0 s1 => by have h9 := (hps s s0 (by omega)).1; omega)
        have e13 : mkP C_35 i 1 3 = C_35 1 3 := mkP_j hi.1 (by omega)
        have e14 : mkP C_35 i 1 4 = C_35 1 4 := mkP_j hi.1 (by omega)
        refine y_iload_n hB 2 dX6_print_48 rfl rfl ?_
        refine y_iload_n hB 1 dX6_print_49 rfl rfl ?_
        refine y_icmp_ge hB 74 dX6_print_50 (by decide) (by omega) (by omega) (fun c_50 => ?_) (fun c_50 => ?_)
        · refine y_aload_n hB 0 dX6_print_74 rfl rfl ?_
          refine gt_6_0 hB (by decide) (t1 := 1) (by omega) dX6_print_75 ?_
          have hie : i = C_35 573 2 := by omega
          have hDk : DkOk (mkP C_35 i) 1 N := by rw [hie]; exact DkOk_mk hDL hk5.1 hps
          refine m_V hB msX0_takeBackOldDeaths q579 (tX0_takeBackOldDeaths _ G b (mkP C_35 i) S 1 N desk_1 hDk hN) (t := 1) (desk_1).1 (by decide) rfl rfl rfl rfl rfl ⟨Nat.le_of_ble_eq_true rfl, Nat.le_of_ble_eq_true rfl⟩ (Nat.le_of_ble_eq_true rfl) ⟨rfl, rfl⟩ ⟨Nat.le_of_ble_eq_true rfl, Nat.le_of_ble_eq_true rfl⟩ dX6_print_78 (k_WV (fun C_78 h_78 => ?_))
          refine y_aload_n hB 0 dX6_print_81 rfl rfl ?_
          refine gt_6_0 hB (by decide) (t1 := 1) (by omega) dX6_print_82 ?_
          refine m_V hB msX0_beginNextDay q585 (tX0_beginNextDay _ G b C_78 S 1 desk_1) (t := 1) (desk_1).1 (by decide) rfl rfl rfl rfl rfl ⟨Nat.le_of_ble_eq_true rfl, Nat.le_of_ble_eq_true rfl⟩ (Nat.le_of_ble_eq_true rfl) ⟨rfl, rfl⟩ ⟨Nat.le_of_ble_eq_true rfl, Nat.le_of_ble_eq_true rfl⟩ dX6_print_85 (k_WV (fun C_85 h_85 => ?_))
          refine y_iload_n hB 1 dX6_print_88 rfl rfl ?_
          exact m_wi hB hE dX6_print_89 rfl (⟨C_35, h_35, h_42, by rw [h_85, h_78, hie]; rfl⟩)
        · refine y_aload_n hB 0 dX6_print_53 rfl rfl ?_
          refine gt_6_0 hB (by decide) (t1 := 1) (by omega) dX6_print_54 ?_
          refine y_aload_n hB 0 dX6_print_57 rfl rfl ?_
          refine gt_6_6 hB (by decide) (t1 := 573) (by omega) dX6_print_58 ?_
          refine y_iload_n hB 2 dX6_print_61 rfl rfl ?_
          refine m_V hB msX3_personAt q450 (tX3_personAt _ G b (mkP C_35 i) S i (by omega) (by omega)) (t := 14) (by decide) (by decide) rfl rfl rfl rfl rfl ⟨Nat.le_of_ble_eq_true rfl, Nat.le_of_ble_eq_true rfl⟩ (Nat.le_of_ble_eq_true rfl) ⟨rfl, rfl⟩ ⟨Nat.le_of_ble_eq_true rfl, Nat.le_of_ble_eq_true rfl⟩ dX6_print_62 (k_RI (fun v_62 h_62 => ?_))
          have hp_62 : v_62 = C_35 577 i := (by rcases h_62 with g | g; exact g.2.2.trans (by rw [e577]); exact absurd ⟨hi.1, by omega⟩ g.1)
          have hpi := hps i hi.1 (by omega)
          rw [hp_62]
          refine m_V hB msX0_markPrinted q571 (tX0_markPrinted _ G b (mkP C_35 i) S 1 (C_35 577 i) (4 * C_35 577 i + 5) desk_1 (by omega) (by omega) (by omega)) (t := 1) (desk_1).1 (by decide) rfl rfl rfl rfl rfl ⟨Nat.le_of_ble_eq_true rfl, Nat.le_of_ble_eq_true rfl⟩ (Nat.le_of_ble_eq_true rfl) ⟨rfl, rfl⟩ ⟨Nat.le_of_ble_eq_true rfl, Nat.le_of_ble_eq_true rfl⟩ dX6_print_65 (k_WV (fun C_65 h_65 => ?_))
          obtain rfl := h_65
          refine y_iinc (v := i + 1) (lv' := [(2, .int (iI (i + 1))), (0, .ref (ad b (0))), (1, .int (iI (v_42)))]) hB 2 dX6_print_68 rfl (by omega) (by decide) rfl ?_
          refine y_goto hB 48 dX6_print_71 (by decide) ?_
          refine y_sub (lv' := [(0, .ref (ad b (0))), (1, .int (iI (v_42))), (2, .int (iI (i + 1)))]) [1, 2, 0] rfl ?_
          rw [e14, mkP_s hi.1]
          exact ih_48 (i + 1) (by omega) (by omega)
    refine y_sub (lv' := [(0, .ref (ad b (0))), (1, .int (iI (v_42))), (2, .int (iI (0)))]) [2, 1, 0] rfl ?_
    rw [← mkP_0 C_35]
    exact LOOP_48 ((v_42).toNat + 1) 0 (by omega) (by omega)
  · exfalso
    omega
