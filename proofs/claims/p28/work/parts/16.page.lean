/-! the page: those who are dead and ready, as long as their lines fit -/
def dky (C : gM) (o i : Int) : Int := 10000 * C (4 * i + o + 4) 1 + (9999 - C (4 * i + o + 4) 4)
def rdy (C : gM) (o i : Int) : Prop := C (o + 1) 3 ≤ pcI (mkI (C (4 * i + o + 4 + 1)) (C (4 * i + o + 4) 6)) ∧ staleN C o (4 * i + o + 4) (C o 4) = 0
def lnP (C : gM) (o i : Int) : Int := smI (C (4 * i + o + 4 + 2)) (C (4 * i + o + 4) 6)
theorem smI_lines {C : gM} {q T : Int} (h : LfOk C q T) : 0 ≤ smI (C (q + 2)) (C q 6) ∧ smI (C (q + 2)) (C q 6) ≤ 72 := by
  obtain ⟨-, -, -, -, -, -, h6, -, h9⟩ := h
  have := smI_le (f := C (q + 2)) (n := C q 6) (a := 0) (c := 9) h6.1 (fun j a1 a2 => by have := (h9 j a1 a2).2.1; omega)
  omega
theorem cnR_s (R : Int → Prop) (e : Int → Int) {i : Int} (h : 0 ≤ i) (hR : R (e i)) : cnR R e (i + 1) = cnR R e i + 1 := by
  unfold cnR
  rw [smI_s _ h, ci_t hR]
theorem cnR_n (R : Int → Prop) (e : Int → Int) {i : Int} (h : 0 ≤ i) (hR : ¬ R (e i)) : cnR R e (i + 1) = cnR R e i := by
  unfold cnR
  rw [smI_s _ h, ci_f hR, Int.add_zero]
def PgI (C1 CM : gM) (R : Int → Prop) (e q ln : Int → Int) (f0 i : Int) : Prop :=
  CM 573 3 = pgf q ln f0 (cnR R e i) ∧ CM 573 2 = pgc q ln f0 (cnR R e i) ∧ (∀ t, 0 ≤ t → t < cnR R e i → tkn q ln f0 t → CM 577 (pgc q ln f0 t) = q t) ∧ ∀ a, a ≠ 573 → a ≠ 577 → CM a = C1 a
section
variable {C1 CM : gM} {R : Int → Prop} {e q ln : Int → Int} {f0 i : Int}
theorem PgI_no (h : PgI C1 CM R e q ln f0 i) (hi : 0 ≤ i) (hR : ¬ R (e i)) : PgI C1 CM R e q ln f0 (i + 1) := by
  unfold PgI
  rw [cnR_n R e hi hR]
  exact h
theorem PgI_out (h : PgI C1 CM R e q ln f0 i) (hi : 0 ≤ i) (hR : R (e i)) (hq : q (cnR R e i) = e i) (hl : ¬ ln (e i) ≤ CM 573 3) : PgI C1 CM R e q ln f0 (i + 1) := by
  obtain ⟨h1, h2, h3, h4⟩ := h
  have hc := (cnR_b R e hi).1
  have hk : ¬ tkn q ln f0 (cnR R e i) := by unfold tkn; rw [hq, ← h1]; exact hl
  have hp := pg_n hc hk
  unfold PgI
  rw [cnR_s R e hi hR, hp.1, hp.2]
  refine ⟨h1, h2, fun t a1 a2 a3 => ?_, h4⟩
  rcases (show t < cnR R e i ∨ t = cnR R e i by omega) with a4 | a4
  · exact h3 t a1 a4 a3
  · rw [a4] at a3; exact absurd a3 hk
theorem PgI_in (h : PgI C1 CM R e q ln f0 i) (hi : 0 ≤ i) (hR : R (e i)) (hq : q (cnR R e i) = e i) (hl : ln (e i) ≤ CM 573 3) {v z w k : Int} (hv : v = ln (e i)) (hz : z = CM 573 3 - v) (hk0 : k = CM 573 2) (hw : w = CM 573 2 + 1) : PgI C1 (up2 (up2 (up2 CM 573 3 z) 577 k (e i)) 573 2 w) R e q ln f0 (i + 1) := by
  obtain ⟨h1, h2, h3, h4⟩ := h
  have hc := (cnR_b R e hi).1
  have hk : tkn q ln f0 (cnR R e i) := by unfold tkn; rw [hq, ← h1]; exact hl
  have hp := pg_s hc hk
  unfold PgI
  rw [cnR_s R e hi hR, hp.1, hp.2, hq, ← h1, ← h2]
  refine ⟨?_, ?_, fun t a1 a2 a3 => ?_, fun a a1 a2 => ?_⟩
  · rw [rd_i (by omega), rd_k (by omega), rd_hit rfl rfl]; omega
  · rw [rd_hit rfl rfl]; omega
  · rw [rd_k (by omega)]
    rcases (show t < cnR R e i ∨ t = cnR R e i by omega) with a4 | a4
    · have := pg_lt ⟨a1, a4⟩ a3
      rw [rd_i (by omega), rd_k (by omega)]
      exact h3 t a1 a4 a3
    · rw [a4, hq, rd_hit rfl (by omega)]
  · rw [up2_ne _ _ _ a1, up2_ne _ _ _ a2, up2_ne _ _ _ a1]
    exact h4 a a1 a2
end
theorem rdy_ag {C C' : gM} {o i : Int} (e : agD C C' o) (hi : 0 ≤ i ∧ i < 20) : rdy C' o i ↔ rdy C o i := by
  unfold rdy
  rw [staleN_ag e (by omega), e o (by omega) (by omega), e (o + 1) (by omega) (by omega), e (4 * i + o + 4) (by omega) (by omega), e (4 * i + o + 4 + 1) (by omega) (by omega)]
theorem dky_ag {C C' : gM} {o i : Int} (e : agD C C' o) (hi : 0 ≤ i ∧ i < 20) : dky C' o i = dky C o i := by
  unfold dky
  rw [e (4 * i + o + 4) (by omega) (by omega)]
theorem lnP_ag {C C' : gM} {o i : Int} (e : agD C C' o) (hi : 0 ≤ i ∧ i < 20) : lnP C' o i = lnP C o i := by
  unfold lnP
  rw [e (4 * i + o + 4) (by omega) (by omega), e (4 * i + o + 4 + 2) (by omega) (by omega)]
/-- what the page is, laid -/
def Laid (C C' : gM) (o : Int) : Prop := ∃ (q : Int → Int) (m : Int), Rnk q m (fun i => C (4 * i + o + 4) 2 = 2 ∧ rdy C o i) (dky C o) (C o 3) ∧ C' 573 3 = pgf q (lnP C o) (C (o + 1) 1) m ∧ C' 573 2 = pgc q (lnP C o) (C (o + 1) 1) m ∧ (∀ t, 0 ≤ t → t < m → tkn q (lnP C o) (C (o + 1) 1) t → C' 577 (pgc q (lnP C o) (C (o + 1) 1) t) = q t) ∧ (0 ≤ C' 573 2 ∧ C' 573 2 ≤ 20) ∧ (0 ≤ C' 573 3 ∧ C' 573 3 ≤ 200) ∧ (∀ t, 0 ≤ t → t < C' 573 2 → 0 ≤ C' 577 t ∧ C' 577 t < C o 3) ∧ ∀ a, a < 573 ∨ 577 < a → C' a = C a
theorem Laid_of {C C0 C1 CM : gM} {o m0 : Int} {q : Int → Int} (hp : 0 ≤ C o 3 ∧ C o 3 ≤ 20) (hr : Rkd C1 574 (fun i => C (4 * i + o + 4) 2 = 2) (dky C o) (C o 3)) (hq : Rnk q (cnR (rdy C o) (C1 575) (C1 574 2)) (fun i => C (4 * i + o + 4) 2 = 2 ∧ rdy C o i) (dky C o) (C o 3)) (hm : m0 = C1 574 2)
    (h : PgI C0 CM (rdy C o) (C1 575) q (lnP C o) (C (o + 1) 1) m0) (hf : ∀ a, a < 573 ∨ 577 < a → C0 a = C a) (hz : 0 ≤ CM 573 2 ∧ CM 573 2 ≤ 20) (hz3 : 0 ≤ CM 573 3 ∧ CM 573 3 ≤ 200) : Laid C CM o := by
  subst hm
  obtain ⟨h1, h2, h3, h4⟩ := h
  refine ⟨q, _, hq, h1, h2, h3, hz, hz3, fun t a1 a2 => ?_, fun a a1 => ?_⟩
  · rw [h2] at a2
    obtain ⟨s, b1, b2, b3, b4⟩ := pg_at (cnR_b _ _ hr.1.1).1 ⟨a1, a2⟩
    have := h3 s b1 b2 b3
    rw [b4] at this
    rw [this]
    have := hq.2.1 s b1 b2
    omega
  · rw [h4 a (by omega) (by omega)]; exact hf a a1
set_option maxHeartbeats 4000000 in
theorem tX3_size (l : Launch) (G : gG) (b : Nat) (C S : gM)  : Ct l G b yX3_size cX3_size 1 (some .int) rmX3_size [.ref (ad b (573))] 578 (wM G b C S) (RI G b C S (fun v => v = C 573 2)) := by
  refine CtK_of (by decide) (Nat.le_of_ble_eq_true rfl) q570 ?_
  intro x hl hB hE _
  subst hl
  show YM x G b 0 0 C S 0 [(0, .ref (ad b (573)))] []
  refine y_aload_n hB 0 dX3_size_0 rfl rfl ?_
  refine gt_3_2 hB (by decide) (t1 := C 573 2) rfl dX3_size_1 ?_
  exact m_ri hB hE dX3_size_4 rfl (rfl)
set_option maxHeartbeats 4000000 in
theorem tX3_linesFree (l : Launch) (G : gG) (b : Nat) (C S : gM)  : Ct l G b yX3_linesFree cX3_linesFree 1 (some .int) rmX3_linesFree [.ref (ad b (573))] 578 (wM G b C S) (RI G b C S (fun v => v = C 573 3)) := by
  refine CtK_of (by decide) (Nat.le_of_ble_eq_true rfl) q482 ?_
  intro x hl hB hE _
  subst hl
  show YM x G b 0 0 C S 0 [(0, .ref (ad b (573)))] []
  refine y_aload_n hB 0 dX3_linesFree_0 rfl rfl ?_
  refine gt_3_3 hB (by decide) (t1 := C 573 3) rfl dX3_linesFree_1 ?_
  exact m_ri hB hE dX3_linesFree_4 rfl (rfl)
set_option maxHeartbeats 4000000 in
theorem tX3_personAt (l : Launch) (G : gG) (b : Nat) (C S : gM) (u : Int) (hs : 0 ≤ C 573 2 ∧ C 573 2 ≤ 20) (hu : -2147483648 ≤ u ∧ u ≤ 2147483647) : Ct l G b yX3_personAt cX3_personAt 2 (some .int) rmX3_personAt [.ref (ad b (573)), .int (iI (u))] 578 (wM G b C S) (RI G b C S (fun v => (0 ≤ u ∧ u < C 573 2 ∧ v = C 577 u) ∨ (¬ (0 ≤ u ∧ u < C 573 2) ∧ v = -5))) := by
  refine CtK_of (by decide) (Nat.le_of_ble_eq_true rfl) q453 ?_
  intro x hl hB hE _
  subst hl
  show YM x G b 0 0 C S 0 [(0, .ref (ad b (573))), (1, .int (iI (u)))] []
  refine y_iload_n hB 1 dX3_personAt_0 rfl rfl ?_
  refine y_if_lt hB 27 dX3_personAt_1 (by decide) (by omega) (fun c_1 => ?_) (fun c_1 => ?_)
  · refine y_bipush (v := -5) hB dX3_personAt_27 (by decide) ?_
    exact m_ri hB hE dX3_personAt_29 rfl (by omega)
  · refine y_iload_n hB 1 dX3_personAt_4 rfl rfl ?_
    refine y_aload_n hB 0 dX3_personAt_5 rfl rfl ?_
    refine gt_3_2 hB (by decide) (t1 := C 573 2) rfl dX3_personAt_6 ?_
    refine y_icmp_ge hB 27 dX3_personAt_9 (by decide) (by omega) (by omega) (fun c_9 => ?_) (fun c_9 => ?_)
    · refine y_bipush (v := -5) hB dX3_personAt_27 (by decide) ?_
      exact m_ri hB hE dX3_personAt_29 rfl (by omega)
    · refine y_iload_n hB 1 dX3_personAt_12 rfl rfl ?_
      refine y_bipush (v := 20) hB dX3_personAt_13 (by decide) ?_
      refine y_icmp_ge hB 27 dX3_personAt_15 (by decide) (by omega) (by omega) (fun c_15 => ?_) (fun c_15 => ?_)
      · exfalso
        omega
      · refine y_aload_n hB 0 dX3_personAt_18 rfl rfl ?_
        refine gt_3_1 hB (by decide) (t1 := 577) (by omega) dX3_personAt_19 ?_
        refine y_iload_n hB 1 dX3_personAt_22 rfl rfl ?_
        refine ald_13 hB (by decide) (t1 := C 577 u) (by omega) rfl dX3_personAt_23 ?_
        refine y_goto hB 29 dX3_personAt_24 (by decide) ?_
        exact m_ri hB hE dX3_personAt_29 rfl (by omega)
set_option maxHeartbeats 4000000 in
theorem tX3_queueDead (l : Launch) (G : gG) (b : Nat) (C S : gM) (o N : Int) (ho : isDesk o) (hd : o + 84 ≤ 573) (hD : DkOk C o N) (hN : N ≤ 512) : Ct l G b yX3_queueDead cX3_queueDead 5 none rmX3_queueDead [.ref (ad b (573)), .ref (ad b (o))] 578 (wM G b C S) (WV G b S (fun C' => Rkd C' 574 (fun i => C (4 * i + o + 4) 2 = 2) (dky C o) (C o 3) ∧ ∀ a, a < 574 ∨ 576 < a → C' a = C a)) := by
  refine CtK_of (by decide) (Nat.le_of_ble_eq_true rfl) q422 ?_
  intro x hl hB hE _
  subst hl
  show YM x G b 0 0 C S 0 [(0, .ref (ad b (573))), (1, .ref (ad b (o)))] []
  obtain ⟨hd3, hd4, hd5, hd6, hs0, hs1, hs2, hs3, hs4, htr, hlv⟩ := id hD
  refine y_aload_n hB 0 dX3_queueDead_0 rfl rfl ?_
  refine gt_3_0 hB (by decide) (t1 := 574) (by omega) dX3_queueDead_1 ?_
  refine m_V hB msX5_clear q423 (tX5_clear _ G b C S 574 rk_574) (t := 12) (by decide) (by decide) rfl rfl rfl rfl rfl ⟨Nat.le_of_ble_eq_true rfl, Nat.le_of_ble_eq_true rfl⟩ (Nat.le_of_ble_eq_true rfl) ⟨rfl, rfl⟩ ⟨Nat.le_of_ble_eq_true rfl, Nat.le_of_ble_eq_true rfl⟩ dX3_queueDead_4 (k_WV (fun C_4 h_4 => ?_))
  obtain rfl := h_4
  refine y_iconst (v := 0) hB dX3_queueDead_7 rfl ?_
  refine y_istore_n (lv' := [(2, .int (iI (0))), (0, .ref (ad b (573))), (1, .ref (ad b (o)))]) hB dX3_queueDead_8 rfl (by decide) rfl ?_
  have LOOP_9 : ∀ (fu : Nat) (i : Int) (CM : gM), (0 ≤ i ∧ i ≤ C o 3) → (Rkd CM 574 (fun i => C (4 * i + o + 4) 2 = 2) (dky C o) i) → (∀ a, a < 574 ∨ 576 < a → CM a = C a) → C o 3 - i < (fu : Int) → YM x G b 0 0 CM S 9 [(0, .ref (ad b (573))), (1, .ref (ad b (o))), (2, .int (iI (i)))] [] := by
    intro fu
    induction fu with
    | zero => intro i CM hi hk hm hm_9; exfalso; omega
    | succ fu ih_9 =>
      intro i CM hi hk hm hm_9
      have hk1 := hk.1
      have ag : agD C CM o := fun a a1 a2 => hm a (by omega)
      have hDM : DkOk CM o N := DkOk_ag ag hD
      have eo : CM o = C o := ag o (by omega) (by omega)
      have e3 : CM o 3 = C o 3 := by rw [eo]
      refine y_iload_n hB 2 dX3_queueDead_9 rfl rfl ?_
      refine y_aload_n hB 1 dX3_queueDead_10 rfl rfl ?_
      refine m_V hB msX0_persons q427 (tX0_persons _ G b CM S o (ho).1) (t := 1) (ho).1 (by decide) rfl rfl rfl rfl rfl ⟨Nat.le_of_ble_eq_true rfl, Nat.le_of_ble_eq_true rfl⟩ (Nat.le_of_ble_eq_true rfl) ⟨rfl, rfl⟩ ⟨Nat.le_of_ble_eq_true rfl, Nat.le_of_ble_eq_true rfl⟩ dX3_queueDead_11 (k_RI (fun v_11 h_11 => ?_))
      refine y_icmp_ge hB 70 dX3_queueDead_14 (by decide) (by omega) (by omega) (fun c_14 => ?_) (fun c_14 => ?_)
      · exact m_wv hB hE dX3_queueDead_70 (by rw [show C o 3 = i by omega]; exact ⟨hk, hm⟩)
      · refine y_aload_n hB 1 dX3_queueDead_17 rfl rfl ?_
        refine y_iload_n hB 2 dX3_queueDead_18 rfl rfl ?_
        refine m_V hB msX0_lifeOf q431 (tX0_lifeOf _ G b CM S o i (4 * i + o + 4) ho (by omega) (by omega) (by omega)) (t := 1) (ho).1 (by decide) rfl rfl rfl rfl rfl ⟨Nat.le_of_ble_eq_true rfl, Nat.le_of_ble_eq_true rfl⟩ (Nat.le_of_ble_eq_true rfl) ⟨rfl, rfl⟩ ⟨Nat.le_of_ble_eq_true rfl, Nat.le_of_ble_eq_true rfl⟩ dX3_queueDead_19 (k_RR ?_)
        have hq_19 : isLife (4 * i + o + 4) := life_at ho (i := i) (by omega) (by omega)
        have eq : CM (4 * i + o + 4) = C (4 * i + o + 4) := ag _ (by omega) (by omega)
        have hl_19 : LfOk CM (4 * i + o + 4) (CM o 4) := hDM.2.2.2.2.2.2.2.2.2.2 i (by omega) (by omega)
        have hc_19 := hl_19.2.2.1
        have hb_19 := hl_19.2.1
        have he_19 := hl_19.2.2.2.2.1
        have hT_19 := hDM.2.1
        refine y_astore_n (lv' := [(3, .ref (ad b (4 * i + o + 4))), (0, .ref (ad b (573))), (1, .ref (ad b (o))), (2, .int (iI (i)))]) hB dX3_queueDead_22 rfl (by decide) rfl ?_
        refine y_aload_n hB 0 dX3_queueDead_23 rfl rfl ?_
        refine y_ifnull hB dX3_queueDead_24 ?_
        refine y_aload_n hB 0 dX3_queueDead_27 rfl rfl ?_
        refine y_iconst (v := 2) hB dX3_queueDead_28 rfl ?_
        refine m_V hB msX2_isIn q432 (tX2_isIn _ G b CM S (4 * i + o + 4) 2 (hq_19).1 (by omega) (by omega)) (t := 5) (hq_19).1 (by decide) rfl rfl rfl rfl rfl ⟨Nat.le_of_ble_eq_true rfl, Nat.le_of_ble_eq_true rfl⟩ (Nat.le_of_ble_eq_true rfl) ⟨rfl, rfl⟩ ⟨Nat.le_of_ble_eq_true rfl, Nat.le_of_ble_eq_true rfl⟩ dX3_queueDead_29 (k_RI (fun v_29 h_29 => ?_))
        rw [eq] at h_29
        refine y_if_eq hB 64 dX3_queueDead_32 (by decide) (by omega) (fun c_32 => ?_) (fun c_32 => ?_)
        · refine y_iinc (v := i + 1) (lv' := [(2, .int (iI (i + 1))), (3, .ref (ad b (4 * i + o + 4))), (0, .ref (ad b (573))), (1, .ref (ad b (o)))]) hB 3 dX3_queueDead_64 rfl (by omega) (by decide) rfl ?_
          refine y_goto hB 9 dX3_queueDead_67 (by decide) ?_
          refine y_sub (lv' := [(0, .ref (ad b (573))), (1, .ref (ad b (o))), (2, .int (iI (i + 1)))]) [2, 3, 0] rfl ?_
          exact ih_9 (i + 1) _ (by omega) (Rkd_no hk hi.1 (by omega)) hm (by omega)
        · refine y_sipush (v := 9999) hB dX3_queueDead_35 (by decide) ?_
          refine y_aload_n hB 0 dX3_queueDead_38 rfl rfl ?_
          refine m_V hB msX2_deathDay q433 (tX2_deathDay _ G b CM S (4 * i + o + 4) (hq_19).1) (t := 5) (hq_19).1 (by decide) rfl rfl rfl rfl rfl ⟨Nat.le_of_ble_eq_true rfl, Nat.le_of_ble_eq_true rfl⟩ (Nat.le_of_ble_eq_true rfl) ⟨rfl, rfl⟩ ⟨Nat.le_of_ble_eq_true rfl, Nat.le_of_ble_eq_true rfl⟩ dX3_queueDead_39 (k_RI (fun v_39 h_39 => ?_))
          refine y_isub (t := -v_39 + 9999) hB dX3_queueDead_42 (by omega) ?_
          refine y_istore (lv' := [(4, .int (iI (-v_39 + 9999))), (3, .ref (ad b (4 * i + o + 4))), (0, .ref (ad b (573))), (1, .ref (ad b (o))), (2, .int (iI (i)))]) hB dX3_queueDead_43 (by decide) rfl ?_
          refine y_aload_n hB 2 dX3_queueDead_45 rfl rfl ?_
          refine gt_3_0 hB (by decide) (t1 := 574) (by omega) dX3_queueDead_46 ?_
          refine y_iload_n hB 4 dX3_queueDead_49 rfl rfl ?_
          refine y_aload_n hB 1 dX3_queueDead_50 rfl rfl ?_
          refine m_V hB msX2_rank q434 (tX2_rank _ G b CM S (4 * i + o + 4) (hq_19).1) (t := 5) (hq_19).1 (by decide) rfl rfl rfl rfl rfl ⟨Nat.le_of_ble_eq_true rfl, Nat.le_of_ble_eq_true rfl⟩ (Nat.le_of_ble_eq_true rfl) ⟨rfl, rfl⟩ ⟨Nat.le_of_ble_eq_true rfl, Nat.le_of_ble_eq_true rfl⟩ dX3_queueDead_51 (k_RI (fun v_51 h_51 => ?_))
          have hdk : -v_39 + 10000 * v_51 + 9999 = dky C o i := by unfold dky; rw [h_51, h_39, eq]; omega
          refine y_sipush (v := 10000) hB dX3_queueDead_54 (by decide) ?_
          refine y_imul (t := 10000 * v_51) hB dX3_queueDead_57 (by omega) ?_
          refine y_iload hB 0 dX3_queueDead_58 rfl ?_
          refine y_iadd (t := -v_39 + 10000 * v_51 + 9999) hB dX3_queueDead_60 (by omega) ?_
          refine m_V hB msX5_enter q435 (tX5_enter _ G b CM S 574 i (-v_39 + 10000 * v_51 + 9999) rk_574 (by omega) (by omega) (fun j a1 a2 => (by have h9 := (hk.2.1 j a1 a2); have h8 := hlv (CM (574 + 1) j) h9.1 (by omega); have h7 := h8.2.1; have h6 := h8.2.2.2.2.1; have h5 := hDM.2.1; rw [h9.2.2.2]; unfold dky; omega))) (t := 12) (by decide) (by decide) rfl rfl rfl rfl rfl ⟨Nat.le_of_ble_eq_true rfl, Nat.le_of_ble_eq_true rfl⟩ (Nat.le_of_ble_eq_true rfl) ⟨rfl, rfl⟩ ⟨Nat.le_of_ble_eq_true rfl, Nat.le_of_ble_eq_true rfl⟩ dX3_queueDead_61 (k_WV (fun C_61 h_61 => ?_))
          refine y_iinc (v := i + 1) (lv' := [(2, .int (iI (i + 1))), (4, .int (iI (-v_39 + 9999))), (3, .ref (ad b (4 * i + o + 4))), (0, .ref (ad b (573))), (1, .ref (ad b (o)))]) hB 4 dX3_queueDead_64 rfl (by omega) (by decide) rfl ?_
          refine y_goto hB 9 dX3_queueDead_67 (by decide) ?_
          refine y_sub (lv' := [(0, .ref (ad b (573))), (1, .ref (ad b (o))), (2, .int (iI (i + 1)))]) [3, 4, 0] rfl ?_
          exact ih_9 (i + 1) _ (by omega) (by obtain ⟨t, g1, g2, g3, g4⟩ := h_61; rw [g4, hdk]; exact Rkd_in hk hi.1 (by omega) g1 (by rw [← hdk]; exact g2) (by rw [← hdk]; exact g3)) (fun a a1 => (by obtain ⟨t, g1, g2, g3, g4⟩ := h_61; rw [g4, entM_out (by omega) (by omega) (by omega)]; exact hm a a1)) (by omega)
  refine y_sub (lv' := [(0, .ref (ad b (573))), (1, .ref (ad b (o))), (2, .int (iI (0)))]) [1, 2, 0] rfl ?_
  exact LOOP_9 ((C o 3).toNat + 1) 0 _ (by omega) (Rkd_0 _ _ (by rw [rd_hit rfl rfl])) (fun a a1 => (by rw [up2_ne _ _ _ (by omega)])) (by omega)
set_option maxHeartbeats 4000000 in
theorem tX3_lay (l : Launch) (G : gG) (b : Nat) (C S : gM) (o N : Int) (ho : isDesk o) (hd : o + 84 ≤ 573) (hD : DkOk C o N) (hN : N ≤ 512) : Ct l G b yX3_lay cX3_lay 5 none rmX3_lay [.ref (ad b (573)), .ref (ad b (o))] 578 (wM G b C S) (WV G b S (fun C' => Laid C C' o)) := by
  refine CtK_of (by decide) (Nat.le_of_ble_eq_true rfl) q418 ?_
  intro x hl hB hE _
  subst hl
  show YM x G b 0 0 C S 0 [(0, .ref (ad b (573))), (1, .ref (ad b (o)))] []
  obtain ⟨hd3, hd4, hd5, hd6, hs0, hs1, hs2, hs3, hs4, htr, hlv⟩ := id hD
  refine y_aload_n hB 0 dX3_lay_0 rfl rfl ?_
  refine y_aload_n hB 1 dX3_lay_1 rfl rfl ?_
  refine m_V hB msX3_queueDead q419 (tX3_queueDead _ G b C S o N ho (by omega) hD hN) (t := 14) (by decide) (by decide) rfl rfl rfl rfl rfl ⟨Nat.le_of_ble_eq_true rfl, Nat.le_of_ble_eq_true rfl⟩ (Nat.le_of_ble_eq_true rfl) ⟨rfl, rfl⟩ ⟨Nat.le_of_ble_eq_true rfl, Nat.le_of_ble_eq_true rfl⟩ dX3_lay_2 (k_WV (fun C_2 h_2 => ?_))
  obtain ⟨hR_2, hF_2⟩ := h_2
  have ag2 : agD C C_2 o := fun a a1 a2 => hF_2 a (by omega)
  have eo1 : C_2 (o + 1) 1 = C (o + 1) 1 := by rw [ag2 (o + 1) (by omega) (by omega)]
  have hm0 := hR_2.1
  obtain ⟨q, hqR, hqe⟩ := Rnk_part (Rkd_rnk hR_2) (rdy C o)
  refine y_aload_n hB 0 dX3_lay_5 rfl rfl ?_
  refine y_iconst (v := 0) hB dX3_lay_6 rfl ?_
  refine pt_3_2 hB (by decide) dX3_lay_7 ?_
  refine y_aload_n hB 0 dX3_lay_10 rfl rfl ?_
  refine y_aload_n hB 1 dX3_lay_11 rfl rfl ?_
  refine y_iconst (v := 1) hB dX3_lay_12 rfl ?_
  refine m_V hB msX0_setting q439 (tX0_setting _ G b (up2 C_2 573 2 0) S o 1 ho (by omega)) (t := 1) (ho).1 (by decide) rfl rfl rfl rfl rfl ⟨Nat.le_of_ble_eq_true rfl, Nat.le_of_ble_eq_true rfl⟩ (Nat.le_of_ble_eq_true rfl) ⟨rfl, rfl⟩ ⟨Nat.le_of_ble_eq_true rfl, Nat.le_of_ble_eq_true rfl⟩ dX3_lay_13 (k_RI (fun v_13 h_13 => ?_))
  rw [rd_k (by omega), eo1] at h_13
  refine pt_3_3 hB (by decide) dX3_lay_16 ?_
  refine y_iconst (v := 0) hB dX3_lay_19 rfl ?_
  refine y_istore_n (lv' := [(2, .int (iI (0))), (0, .ref (ad b (573))), (1, .ref (ad b (o)))]) hB dX3_lay_20 rfl (by decide) rfl ?_
  have LOOP_21 : ∀ (fu : Nat) (i : Int) (CM : gM), (0 ≤ i ∧ i ≤ C_2 574 2) → (PgI C_2 CM (rdy C o) (C_2 575) q (lnP C o) (C (o + 1) 1) i) → (0 ≤ CM 573 2 ∧ CM 573 2 ≤ i) → (0 ≤ CM 573 3 ∧ CM 573 3 ≤ 200) → C_2 574 2 - i < (fu : Int) → YM x G b 0 0 CM S 21 [(0, .ref (ad b (573))), (1, .ref (ad b (o))), (2, .int (iI (i)))] [] := by
    intro fu
    induction fu with
    | zero => intro i CM hi hk hb2 hb3 hm_21; exfalso; omega
    | succ fu ih_21 =>
      intro i CM hi hk hb2 hb3 hm_21
      have hM := hk.2.2.2
      have ag : agD C CM o := fun a a1 a2 => (hM a (by omega) (by omega)).trans (ag2 a a1 a2)
      have hDM : DkOk CM o N := DkOk_ag ag hD
      have eo : CM o = C o := ag o (by omega) (by omega)
      have e3 : CM o 3 = C o 3 := by rw [eo]
      have e574 : CM 574 2 = C_2 574 2 := by rw [hM 574 (by omega) (by omega)]
      refine y_iload_n hB 2 dX3_lay_21 rfl rfl ?_
      refine y_aload_n hB 0 dX3_lay_22 rfl rfl ?_
      refine gt_3_0 hB (by decide) (t1 := 574) (by omega) dX3_lay_23 ?_
      refine m_V hB msX5_size q440 (tX5_size _ G b CM S 574 rk_574) (t := 12) (by decide) (by decide) rfl rfl rfl rfl rfl ⟨Nat.le_of_ble_eq_true rfl, Nat.le_of_ble_eq_true rfl⟩ (Nat.le_of_ble_eq_true rfl) ⟨rfl, rfl⟩ ⟨Nat.le_of_ble_eq_true rfl, Nat.le_of_ble_eq_true rfl⟩ dX3_lay_26 (k_RI (fun v_26 h_26 => ?_))
      rw [e574] at h_26
      refine y_icmp_ge hB 123 dX3_lay_29 (by decide) (by omega) (by omega) (fun c_29 => ?_) (fun c_29 => ?_)
      · exact m_wv hB hE dX3_lay_123 (Laid_of hD.1 hR_2 hqR (show i = C_2 574 2 by omega) hk (fun a a1 => hF_2 a (by omega)) (by omega) hb3)
      · refine y_aload_n hB 0 dX3_lay_32 rfl rfl ?_
        refine gt_3_2 hB (by decide) (t1 := CM 573 2) rfl dX3_lay_33 ?_
        refine y_bipush (v := 20) hB dX3_lay_36 (by decide) ?_
        refine y_icmp_ge hB 123 dX3_lay_38 (by decide) (by omega) (by omega) (fun c_38 => ?_) (fun c_38 => ?_)
        · exfalso
          omega
        · refine y_aload_n hB 0 dX3_lay_41 rfl rfl ?_
          refine gt_3_0 hB (by decide) (t1 := 574) (by omega) dX3_lay_42 ?_
          refine y_iload_n hB 2 dX3_lay_45 rfl rfl ?_
          refine m_V hB msX5_personAt q444 (tX5_personAt _ G b CM S 574 i rk_574 (by omega) (by omega)) (t := 12) (by decide) (by decide) rfl rfl rfl rfl rfl ⟨Nat.le_of_ble_eq_true rfl, Nat.le_of_ble_eq_true rfl⟩ (Nat.le_of_ble_eq_true rfl) ⟨rfl, rfl⟩ ⟨Nat.le_of_ble_eq_true rfl, Nat.le_of_ble_eq_true rfl⟩ dX3_lay_46 (k_RI (fun v_46 h_46 => ?_))
          have hp_46 : v_46 = C_2 575 i := (by rcases h_46 with ⟨g1, g2, g3⟩ | ⟨g1, g2⟩; exact g3.trans (by rw [hM (574 + 1) (by omega) (by omega)]; rfl); exact absurd ⟨hi.1, by rw [e574]; omega⟩ g1)
          have hR_46 := hR_2.2.1 i hi.1 (by omega)
          rw [show (574 : Int) + 1 = 575 by omega, ← hp_46] at hR_46
          refine y_istore_n (lv' := [(3, .int (iI (v_46))), (0, .ref (ad b (573))), (1, .ref (ad b (o))), (2, .int (iI (i)))]) hB dX3_lay_49 rfl (by decide) rfl ?_
          refine y_aload_n hB 2 dX3_lay_50 rfl rfl ?_
          refine y_iload_n hB 0 dX3_lay_51 rfl rfl ?_
          refine m_V hB msX0_lifeOf q431 (tX0_lifeOf _ G b CM S o v_46 (4 * v_46 + o + 4) ho (by omega) (by omega) (by omega)) (t := 1) (ho).1 (by decide) rfl rfl rfl rfl rfl ⟨Nat.le_of_ble_eq_true rfl, Nat.le_of_ble_eq_true rfl⟩ (Nat.le_of_ble_eq_true rfl) ⟨rfl, rfl⟩ ⟨Nat.le_of_ble_eq_true rfl, Nat.le_of_ble_eq_true rfl⟩ dX3_lay_52 (k_RR ?_)
          have hq_52 : isLife (4 * v_46 + o + 4) := life_at ho (i := v_46) (by omega) (by omega)
          have hl_52 : LfOk CM (4 * v_46 + o + 4) (CM o 4) := hDM.2.2.2.2.2.2.2.2.2.2 v_46 (by omega) (by omega)
          have hg_52 := hl_52.2.2.2.2.2.2.1
          have hRe : rdy CM o v_46 ↔ rdy C o (C_2 575 i) := by rw [← hp_46]; exact rdy_ag ag (by omega)
          have hln := smI_lines hl_52
          have hlE : lnP CM o v_46 = lnP C o (C_2 575 i) := by rw [← hp_46]; exact lnP_ag ag (by omega)
          refine y_astore (lv' := [(4, .ref (ad b (4 * v_46 + o + 4))), (3, .int (iI (v_46))), (0, .ref (ad b (573))), (1, .ref (ad b (o))), (2, .int (iI (i)))]) hB dX3_lay_55 (by decide) rfl ?_
          refine y_aload hB 0 dX3_lay_57 rfl ?_
          refine y_ifnull hB dX3_lay_59 ?_
          refine y_aload_n hB 3 dX3_lay_62 rfl rfl ?_
          refine y_aload hB 0 dX3_lay_63 rfl ?_
          refine m_V hB msX0_couldPrint q448 (tX0_couldPrint _ G b CM S o (4 * v_46 + o + 4) N ho hq_52 hDM hl_52 hN) (t := 1) (ho).1 (by decide) rfl rfl rfl rfl rfl ⟨Nat.le_of_ble_eq_true rfl, Nat.le_of_ble_eq_true rfl⟩ (Nat.le_of_ble_eq_true rfl) ⟨rfl, rfl⟩ ⟨Nat.le_of_ble_eq_true rfl, Nat.le_of_ble_eq_true rfl⟩ dX3_lay_65 (k_RI (fun v_65 h_65 => ?_))
          have hlf := hl_52.2.2.2.2.2.2.2.2
          refine y_if_eq hB 117 dX3_lay_68 (by decide) (by omega) (fun c_68 => ?_) (fun c_68 => ?_)
          · have hnr : ¬ rdy C o (C_2 575 i) := fun z => (by rcases h_65 with ⟨g1, g2⟩ | ⟨g1, g2⟩; omega; exact g2 (hRe.mpr z))
            refine y_iinc (v := i + 1) (lv' := [(2, .int (iI (i + 1))), (4, .ref (ad b (4 * v_46 + o + 4))), (3, .int (iI (v_46))), (0, .ref (ad b (573))), (1, .ref (ad b (o)))]) hB 4 dX3_lay_117 rfl (by omega) (by decide) rfl ?_
            refine y_goto hB 21 dX3_lay_120 (by decide) ?_
            refine y_sub (lv' := [(0, .ref (ad b (573))), (1, .ref (ad b (o))), (2, .int (iI (i + 1)))]) [3, 4, 0] rfl ?_
            exact ih_21 (i + 1) _ (by omega) (PgI_no hk hi.1 hnr) (by omega) hb3 (by omega)
          · have hyr : rdy C o (C_2 575 i) := (by rcases h_65 with ⟨g1, g2⟩ | ⟨g1, g2⟩; exact hRe.mp g2; omega)
            have hqi := hqe i hi.1 (by omega) hyr
            refine y_aload hB 0 dX3_lay_71 rfl ?_
            refine m_V hB msX2_length q449 (tX2_length _ G b CM S (4 * v_46 + o + 4) hq_52 (by omega)) (t := 5) (hq_52).1 (by decide) rfl rfl rfl rfl rfl ⟨Nat.le_of_ble_eq_true rfl, Nat.le_of_ble_eq_true rfl⟩ (Nat.le_of_ble_eq_true rfl) ⟨rfl, rfl⟩ ⟨Nat.le_of_ble_eq_true rfl, Nat.le_of_ble_eq_true rfl⟩ dX3_lay_73 (k_RI (fun v_73 h_73 => ?_))
            have hl_73 : v_73 = lnP C o (C_2 575 i) := by rw [← hlE]; exact h_73
            refine y_aload_n hB 2 dX3_lay_76 rfl rfl ?_
            refine gt_3_3 hB (by decide) (t1 := CM 573 3) rfl dX3_lay_77 ?_
            refine y_icmp_gt hB 117 dX3_lay_80 (by decide) (by omega) (by omega) (fun c_80 => ?_) (fun c_80 => ?_)
            · refine y_iinc (v := i + 1) (lv' := [(2, .int (iI (i + 1))), (4, .ref (ad b (4 * v_46 + o + 4))), (3, .int (iI (v_46))), (0, .ref (ad b (573))), (1, .ref (ad b (o)))]) hB 4 dX3_lay_117 rfl (by omega) (by decide) rfl ?_
              refine y_goto hB 21 dX3_lay_120 (by decide) ?_
              refine y_sub (lv' := [(0, .ref (ad b (573))), (1, .ref (ad b (o))), (2, .int (iI (i + 1)))]) [3, 4, 0] rfl ?_
              exact ih_21 (i + 1) _ (by omega) (PgI_out hk hi.1 hyr hqi (by omega)) (by omega) hb3 (by omega)
            · refine y_aload_n hB 2 dX3_lay_83 rfl rfl ?_
              refine y_dup hB dX3_lay_84 rfl ?_
              refine gt_3_3 hB (by decide) (t1 := CM 573 3) rfl dX3_lay_85 ?_
              refine y_aload hB 0 dX3_lay_88 rfl ?_
              refine m_V hB msX2_length q449 (tX2_length _ G b CM S (4 * v_46 + o + 4) hq_52 (by omega)) (t := 5) (hq_52).1 (by decide) rfl rfl rfl rfl rfl ⟨Nat.le_of_ble_eq_true rfl, Nat.le_of_ble_eq_true rfl⟩ (Nat.le_of_ble_eq_true rfl) ⟨rfl, rfl⟩ ⟨Nat.le_of_ble_eq_true rfl, Nat.le_of_ble_eq_true rfl⟩ dX3_lay_90 (k_RI (fun v_90 h_90 => ?_))
              have hl_90 : v_90 = lnP C o (C_2 575 i) := by rw [← hlE]; exact h_90
              refine y_isub (t := -v_90 + CM 573 3) hB dX3_lay_93 (by omega) ?_
              refine pt_3_3 hB (by decide) dX3_lay_94 ?_
              refine y_aload_n hB 2 dX3_lay_97 rfl rfl ?_
              refine gt_3_1 hB (by decide) (t1 := 577) (by omega) dX3_lay_98 ?_
              refine y_aload_n hB 2 dX3_lay_101 rfl rfl ?_
              refine gt_3_2 hB (by decide) (t1 := CM 573 2) (rd_i (by omega)) dX3_lay_102 ?_
              refine y_iload_n hB 1 dX3_lay_105 rfl rfl ?_
              refine ast_13 hB (by decide) (by omega) dX3_lay_106 ?_
              refine y_aload_n hB 2 dX3_lay_107 rfl rfl ?_
              refine y_dup hB dX3_lay_108 rfl ?_
              refine gt_3_2 hB (by decide) (t1 := CM 573 2) ((rd_k (by omega)).trans (rd_i (by omega))) dX3_lay_109 ?_
              refine y_iconst (v := 1) hB dX3_lay_112 rfl ?_
              refine y_iadd (t := CM 573 2 + 1) hB dX3_lay_113 (by omega) ?_
              refine pt_3_2 hB (by decide) dX3_lay_114 ?_
              refine y_iinc (v := i + 1) (lv' := [(2, .int (iI (i + 1))), (4, .ref (ad b (4 * v_46 + o + 4))), (3, .int (iI (v_46))), (0, .ref (ad b (573))), (1, .ref (ad b (o)))]) hB 4 dX3_lay_117 rfl (by omega) (by decide) rfl ?_
              refine y_goto hB 21 dX3_lay_120 (by decide) ?_
              refine y_sub (lv' := [(0, .ref (ad b (573))), (1, .ref (ad b (o))), (2, .int (iI (i + 1)))]) [3, 4, 0] rfl ?_
              exact ih_21 (i + 1) _ (by omega) (by rw [hp_46]; exact PgI_in hk hi.1 hyr hqi (by omega) hl_90 (by omega) (by omega) (by omega)) (by rw [rd_hit rfl rfl]; omega) (by rw [rd_i (by omega), rd_k (by omega), rd_hit rfl rfl]; omega) (by omega)
  refine y_sub (lv' := [(0, .ref (ad b (573))), (1, .ref (ad b (o))), (2, .int (iI (0)))]) [1, 2, 0] rfl ?_
  exact LOOP_21 ((C_2 574 2).toNat + 1) 0 _ (by omega) ⟨by rw [rd_hit rfl rfl, h_13]; rfl, by rw [rd_i (by omega), rd_hit rfl rfl]; rfl, fun t a1 a2 => (by have h9 : cnR (rdy C o) (C_2 575) 0 = 0 := rfl; omega), fun a a1 a2 => (by rw [up2_ne _ _ _ a1, up2_ne _ _ _ a1])⟩ (by rw [rd_i (by omega), rd_hit rfl rfl]; omega) (by rw [rd_hit rfl rfl, h_13]; have h9 := hD.2.2.2.2.2.1; omega) (by omega)
