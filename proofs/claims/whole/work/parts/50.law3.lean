/-! the law's loop, and its start -/
section
variable {x : gX} {G : gG} {b0 b L : Nat} {xs : Nat → Int32} {nm : String}
set_option maxHeartbeats 4000000 in
theorem law_loop (hB : Bx x G b0 RL cL_law 8 ret room_1 nm) (hX : va_X b L xs (gs x) (gs x).heap) (hbl : b < (gs x).heap.size) (hb0 : b < b0) (hZ : Zs b0 (gs x)) (hL : L ≤ 2048) (hEnd : ∀ (k : Int) (C S : gM), YM x G b0 586 9472 C S 857 [(3, .int (iI (4 * k))), (2, .ref (ad b0 578)), (1, .ref (ad b0 0)), (0, .ref b)] []) : ∀ (fu : Nat) (k : Int) (C S : gM), 0 ≤ k → 4 * k ≤ (L : Int) + 4 → JJ C S k → (L : Int) + 4 - 4 * k < (fu : Int) → YM x G b0 586 9472 C S 18 [(3, .int (iI (4 * k))), (2, .ref (ad b0 578)), (1, .ref (ad b0 0)), (0, .ref b)] [] := by
  intro fu
  induction fu with
  | zero => intro k C S h0 h1 hJ hm; exfalso; omega
  | succ fu ih =>
    intro k C S h0 h1 hJ hm
    refine y_iload_n hB 0 dL_law_18 rfl rfl ?_
    refine y_aload_n hB 3 dL_law_19 rfl rfl ?_
    refine y_scl hB hX hbl hb0 dL_law_20 ?_
    refine y_iconst (v := 4) hB dL_law_21 rfl ?_
    refine y_isub (t := (L : Int) - 4) hB dL_law_22 (by omega) ?_
    refine y_icmp_gt hB 857 dL_law_23 (by decide) (by omega) (by omega) (fun c => hEnd k C S) (fun c => ?_)
    have hi : 0 ≤ k ∧ 4 * k + 3 < (L : Int) := by omega
    have hNX : NX x G b0 b k := fun C' S' hJ' => by
      refine y_iinc (v := 4 * (k + 1)) (lv' := [(3, .int (iI (4 * (k + 1)))), (2, .ref (ad b0 578)), (1, .ref (ad b0 0)), (0, .ref b)]) hB 0 dL_law_851 rfl (by omega) (by decide) rfl ?_
      refine y_goto hB 18 dL_law_854 (by decide) ?_
      exact ih (k + 1) C' S' (by omega) (by omega) hJ' (by omega)
    obtain ⟨q, eq⟩ : ∃ q : Int, (xs (4 * k).toNat).toInt = q := ⟨_, rfl⟩
    refine y_aload_n hB 3 dL_law_26 rfl rfl ?_
    refine y_iload_n hB 0 dL_law_27 rfl rfl ?_
    refine y_scr hB hX hbl hb0 (by omega) hL eq dL_law_28 ?_
    refine y_bipush (v := 31) hB dL_law_29 (by decide) ?_
    refine y_sw hB dL_law_31 ?_
    have hv := swV_b (iI q)
    obtain ⟨v, ev⟩ : ∃ v : Int, swV (iI q) = v := ⟨_, rfl⟩
    rw [ev] at hv ⊢
    rcases (show v = 0 ∨ v = 1 ∨ v = 2 ∨ v = 3 ∨ v = 4 ∨ v = 5 ∨ v = 6 ∨ v = 7 ∨ v = 8 ∨ v = 9 ∨ v = 10 ∨ v = 11 ∨ v = 12 ∨ v = 13 ∨ v = 14 ∨ v = 15 ∨ v = 16 ∨ v = 17 ∨ v = 18 ∨ v = 19 ∨ v = 20 ∨ v = 21 ∨ v = 22 ∨ v = 23 ∨ v = 24 ∨ 25 ≤ v by omega) with hv9 | hv9 | hv9 | hv9 | hv9 | hv9 | hv9 | hv9 | hv9 | hv9 | hv9 | hv9 | hv9 | hv9 | hv9 | hv9 | hv9 | hv9 | hv9 | hv9 | hv9 | hv9 | hv9 | hv9 | hv9 | hv9
    · refine y_tableIn hB 148 dL_law_32 (by omega) (by omega) (by rw [hv9]; rfl) (by decide) ?_
      exact lc_addPerson hB hX hbl hb0 hZ hL hi hJ hNX
    · refine y_tableIn hB 181 dL_law_32 (by omega) (by omega) (by rw [hv9]; rfl) (by decide) ?_
      exact lc_addPersons hB hX hbl hb0 hZ hL hi hJ hNX
    · refine y_tableIn hB 194 dL_law_32 (by omega) (by omega) (by rw [hv9]; rfl) (by decide) ?_
      exact lc_write hB hX hbl hb0 hZ hL hi hJ hNX
    · refine y_tableIn hB 237 dL_law_32 (by omega) (by omega) (by rw [hv9]; rfl) (by decide) ?_
      exact lc_check hB hX hbl hb0 hZ hL hi hJ hNX
    · refine y_tableIn hB 270 dL_law_32 (by omega) (by omega) (by rw [hv9]; rfl) (by decide) ?_
      exact lc_strike hB hX hbl hb0 hZ hL hi hJ hNX
    · refine y_tableIn hB 303 dL_law_32 (by omega) (by omega) (by rw [hv9]; rfl) (by decide) ?_
      exact lc_checkUrgent hB hX hbl hb0 hZ hL hi hJ hNX
    · refine y_tableIn hB 316 dL_law_32 (by omega) (by omega) (by rw [hv9]; rfl) (by decide) ?_
      exact lc_trust hB hX hbl hb0 hZ hL hi hJ hNX
    · refine y_tableIn hB 349 dL_law_32 (by omega) (by omega) (by rw [hv9]; rfl) (by decide) ?_
      exact lc_set hB hX hbl hb0 hZ hL hi hJ hNX
    · refine y_tableIn hB 382 dL_law_32 (by omega) (by omega) (by rw [hv9]; rfl) (by decide) ?_
      exact lc_tellDeath hB hX hbl hb0 hZ hL hi hJ hNX
    · refine y_tableIn hB 415 dL_law_32 (by omega) (by omega) (by rw [hv9]; rfl) (by decide) ?_
      exact lc_decide hB hX hbl hb0 hZ hL hi hJ hNX
    · refine y_tableIn hB 464 dL_law_32 (by omega) (by omega) (by rw [hv9]; rfl) (by decide) ?_
      exact lc_print hB hX hbl hb0 hZ hL hi hJ hNX
    · refine y_tableIn hB 477 dL_law_32 (by omega) (by omega) (by rw [hv9]; rfl) (by decide) ?_
      exact lc_correct hB hX hbl hb0 hZ hL hi hJ hNX
    · refine y_tableIn hB 520 dL_law_32 (by omega) (by omega) (by rw [hv9]; rfl) (by decide) ?_
      exact lc_type hB hX hbl hb0 hZ hL hi hJ hNX
    · refine y_tableIn hB 545 dL_law_32 (by omega) (by omega) (by rw [hv9]; rfl) (by decide) ?_
      exact lc_clearText hB hX hbl hb0 hZ hL hi hJ hNX
    · refine y_tableIn hB 558 dL_law_32 (by omega) (by omega) (by rw [hv9]; rfl) (by decide) ?_
      exact lc_undo hB hX hbl hb0 hZ hL hi hJ hNX
    · refine y_tableIn hB 571 dL_law_32 (by omega) (by omega) (by rw [hv9]; rfl) (by decide) ?_
      exact lc_keep hB hX hbl hb0 hZ hL hi hJ hNX
    · refine y_tableIn hB 584 dL_law_32 (by omega) (by omega) (by rw [hv9]; rfl) (by decide) ?_
      exact lc_restore hB hX hbl hb0 hZ hL hi hJ hNX
    · refine y_tableIn hB 597 dL_law_32 (by omega) (by omega) (by rw [hv9]; rfl) (by decide) ?_
      exact lc_person hB hX hbl hb0 hZ hL hi hJ hNX
    · refine y_tableIn hB 630 dL_law_32 (by omega) (by omega) (by rw [hv9]; rfl) (by decide) ?_
      exact lc_fact hB hX hbl hb0 hZ hL hi hJ hNX
    · refine y_tableIn hB 673 dL_law_32 (by omega) (by omega) (by rw [hv9]; rfl) (by decide) ?_
      exact lc_worth hB hX hbl hb0 hZ hL hi hJ hNX
    · refine y_tableIn hB 726 dL_law_32 (by omega) (by omega) (by rw [hv9]; rfl) (by decide) ?_
      exact lc_urgent hB hX hbl hb0 hZ hL hi hJ hNX
    · refine y_tableIn hB 749 dL_law_32 (by omega) (by omega) (by rw [hv9]; rfl) (by decide) ?_
      exact lc_page hB hX hbl hb0 hZ hL hi hJ hNX
    · refine y_tableIn hB 772 dL_law_32 (by omega) (by omega) (by rw [hv9]; rfl) (by decide) ?_
      exact lc_source hB hX hbl hb0 hZ hL hi hJ hNX
    · refine y_tableIn hB 805 dL_law_32 (by omega) (by omega) (by rw [hv9]; rfl) (by decide) ?_
      exact lc_staleIn hB hX hbl hb0 hZ hL hi hJ hNX
    · refine y_tableIn hB 828 dL_law_32 (by omega) (by omega) (by rw [hv9]; rfl) (by decide) ?_
      exact lc_count hB hX hbl hb0 hZ hL hi hJ hNX
    · refine y_tableOut hB 851 dL_law_32 (by omega) (Or.inr (by omega)) (by decide) ?_
      exact hNX C S (JJ_mono hJ)
set_option maxHeartbeats 4000000 in
theorem law_go (hB : Bx x G b0 RL cL_law 8 ret room_1 nm) (hX : va_X b L xs (gs x) (gs x).heap) (hbl : b < (gs x).heap.size) (hb0 : b < b0) (hZ : Zs b0 (gs x)) (hL : L ≤ 2048) (w0 : Int → va_E) (hEnd : ∀ (k : Int) (C S : gM), YM x G b0 586 9472 C S 857 [(3, .int (iI (4 * k))), (2, .ref (ad b0 578)), (1, .ref (ad b0 0)), (0, .ref b)] []) : Y x G b0 0 0 0 w0 0 [(0, .ref b)] [] := by
  refine y_new hB (C := RX6) (T := TX6) (N := 7) (ci := 6) tyX6 tyX6_ok inX6 q48 q49 q36 rfl (fs := frX6) frX6_ok (Nat.le_of_ble_eq_true rfl) (Nat.le_of_ble_eq_true rfl) dL_law_0 ?_
  refine y_dup hB dL_law_3 rfl ?_
  refine y_callI hB msX6_init q50 (iX6 _ G b0 _ (upW_self _ _ _)) rfl rfl ⟨Nat.le_of_ble_eq_true rfl, Nat.le_of_ble_eq_true rfl⟩ (Nat.le_of_ble_eq_true rfl) ⟨Nat.le_of_ble_eq_true rfl, Nat.le_of_ble_eq_true rfl⟩ dL_law_4 (fun r1 n1 w1 h1 => ?_)
  obtain ⟨rfl, rfl, hw1⟩ := h1
  show Y x G b0 _ _ 578 w1 7 [(0, .ref b)] (.ref (ad b0 0) :: [])
  refine y_astore_n (lv' := [(1, .ref (ad b0 0)), (0, .ref b)]) hB dL_law_7 rfl (by decide) rfl ?_
  refine y_new hB (C := RX7) (T := TX7) (N := 14) (ci := 7) tyX7 tyX7_ok inX7 q738 q739 q43 rfl (fs := frX7) frX7_ok (Nat.le_of_ble_eq_true rfl) (Nat.le_of_ble_eq_true rfl) dL_law_8 ?_
  refine y_dup hB dL_law_11 rfl ?_
  refine y_callI hB msX7_init q740 (iX7 _ G b0 578 _ (by omega) (upW_self _ _ _)) rfl rfl ⟨Nat.le_of_ble_eq_true rfl, Nat.le_of_ble_eq_true rfl⟩ (Nat.le_of_ble_eq_true rfl) ⟨Nat.le_of_ble_eq_true rfl, Nat.le_of_ble_eq_true rfl⟩ dL_law_12 (fun r2 n2 w2 h2 => ?_)
  obtain ⟨rfl, rfl, hlo, hhi⟩ := h2
  show Y x G b0 _ _ 586 w2 15 [(1, .ref (ad b0 0)), (0, .ref b)] (.ref (ad b0 578) :: [])
  refine y_astore_n (lv' := [(2, .ref (ad b0 578)), (1, .ref (ad b0 0)), (0, .ref b)]) hB dL_law_15 rfl (by decide) rfl ?_
  refine y_iconst (v := 0) hB dL_law_16 rfl ?_
  refine y_istore_n (lv' := [(3, .int (iI 0)), (2, .ref (ad b0 578)), (1, .ref (ad b0 0)), (0, .ref b)]) hB dL_law_17 rfl (by decide) rfl ?_
  refine y_world (w2 := wM G b0 C0 S0) (fun j a1 a2 => ?_) ?_
  · by_cases hj : j < 578
    · exact (hlo j a1 hj).trans ((upW_ne _ _ (by omega)).trans (hw1 j a1 hj))
    · have h9 := hhi (j - 578) (by omega) (by omega)
      rw [show (578 : Int) + (j - 578) = j by omega] at h9
      exact h9.trans (C0_mod ⟨by omega, a2⟩)
  · refine y_widen (cl' := 586) (sl' := 9472) (Nat.le_of_ble_eq_true rfl) (Nat.le_of_ble_eq_true rfl) ?_
    exact law_loop hB hX hbl hb0 hZ hL hEnd (L + 5) 0 C0 S0 (by omega) (by omega) JJ_0 (by omega)
end
