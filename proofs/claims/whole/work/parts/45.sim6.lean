/-! the text, the history, the snapshot, the most urgent checks -/
section
variable {C C' D E S S' : gM} {N N' : Int} {f f' : Int → Int}
theorem hd_modn (h : HdR C 1 f N) (e3 : C' 1 3 = C 1 3) (e4 : C' 1 4 = C 1 4) (e5 : 0 ≤ C' 1 5 ∧ C' 1 5 ≤ 24) (e6 : C' 1 6 = C 1 6) (c2 : C' 2 = C 2) (c3 : C' 3 = C 3) (ff : ∀ k : Int, 0 ≤ k → k ≤ 14 → k ≠ 2 → f' k = f k) (f2 : f' 2 = C' 1 5) : HdR C' 1 f' N := by
  obtain ⟨h1, h2, h3, h4, h5⟩ := h
  have c2' : C' (1 + 1) = C (1 + 1) := c2
  have c3' : C' (1 + 2) = C (1 + 2) := c3
  unfold HdR
  rw [c2', c3', e3, e4, e6, ff 0 (by omega) (by omega) (by omega), ff 1 (by omega) (by omega) (by omega), ff 3 (by omega) (by omega) (by omega), ff 4 (by omega) (by omega) (by omega), ff 5 (by omega) (by omega) (by omega), ff 6 (by omega) (by omega) (by omega), ff 7 (by omega) (by omega) (by omega), ff 8 (by omega) (by omega) (by omega)]
  refine ⟨⟨h1.1, h1.2.1, f2, h1.2.2.2⟩, ⟨h2.1, h2.2.1, e5, h2.2.2.2⟩, h3, h4, fun s hs => ?_⟩
  rw [ff _ (by omega) (by omega) (by omega)]
  exact h5 s hs
theorem Rest_9 {n : Int} (hN : N ≤ N') (hn : 0 ≤ n ∧ n ≤ C 169 2) (h : Rest C S N) (e : ∀ a : Int, 85 ≤ a → a < 507 → a ≠ 169 → C' a = C a) (c1 : C' 169 1 = C 169 1) (c2 : C' 169 2 = n) (e0 : C' 0 2 = C 0 2) (e507 : C' 507 = C 507) (e508 : C' 508 = C 508) (s580 : S' 580 = S 580) (s581 : S' 581 = S 581) (s584 : S' 584 = S 584) (s9 : S' 578 9 = n) (sj : ∀ j : Int, j ≠ 9 → S' 578 j = S 578 j) : Rest C' S' N' := by
  obtain ⟨⟨a1, a2, a3⟩, h2, ⟨h3, h4, h5, h6⟩, h7, h8, h9, h10, h11⟩ := h
  have e85 := e 85 (by omega) (by omega) (by omega)
  unfold Rest
  rw [c1, c2, e85, e0, e507, e508, s580, s581, s584, sj 8 (by omega), s9, sj 10 (by omega), sj 12 (by omega)]
  refine ⟨⟨a1, by omega, rfl⟩, fun h b1 b2 => ?_, ⟨h3, h4, fun z => ?_, h6⟩, h7, h8, h9, h10, h11⟩
  · have hb := hat_b (C 169 1) h
    exact Cur_e hN (fun a x1 x2 => e a (by omega) (by omega) (by omega)) (fun _ _ _ => rfl) (h2 h b1 (by omega))
  · exact Cur_e hN (fun a x1 x2 => e a (by omega) (by omega) (by omega)) (fun _ _ _ => rfl) (h5 z)
theorem Rest_t (hN : N ≤ N') (h : Rest C S N) (e : ∀ a : Int, a ≠ 507 → a ≠ 508 → C' a = C a) (e4 : C' 507 4 = C 507 4) (hT : TxB (C' 508) (C' 507 1)) (s : ∀ a : Int, a ≠ 578 → a ≠ 584 → S' a = S a) (s84 : S' 584 = C' 508) (s8 : S' 578 8 = C' 507 1) (sj : ∀ j : Int, j ≠ 8 → S' 578 j = S 578 j) : Rest C' S' N' := by
  obtain ⟨h1, h2, ⟨h3, h4, h5, h6⟩, h7, h8, h9, h10, h11⟩ := h
  unfold Rest
  rw [e 169 (by omega) (by omega), e 0 (by omega) (by omega), e 85 (by omega) (by omega), e4, s 580 (by omega) (by omega), s 581 (by omega) (by omega), sj 9 (by omega), sj 10 (by omega), sj 12 (by omega)]
  refine ⟨h1, fun h b1 b2 => ?_, ⟨h3, h4, fun z => ?_, h6⟩, hT, s84, s8, h10, h11⟩
  · have hb := hat_b (C 169 1) h
    exact Cur_e hN (fun a x1 x2 => e a (by omega) (by omega)) (fun _ _ _ => rfl) (h2 h b1 b2)
  · exact Cur_e hN (fun a x1 x2 => e a (by omega) (by omega)) (fun _ _ _ => rfl) (h5 z)
theorem sm_type {u v v' : Int} (hu : 0 ≤ u ∧ u < 65536) (hJ : JJ C S N) (hA : (fun v C' => ((C 507 1 < 60) ∧ v = C 507 1 + 1 ∧ C' = up2 (up2 C 508 (C 507 1) u) 507 1 (C 507 1 + 1)) ∨ ((¬ C 507 1 < 60) ∧ v = -3 ∧ C' = C)) v C') (hB : (fun v S' => ((S 578 8 < 60) ∧ v = S 578 8 + 1 ∧ S' = up2 (up2 S 584 (S 578 8) u) 578 8 (S 578 8 + 1)) ∨ ((¬ S 578 8 < 60) ∧ v = -3 ∧ S' = S)) v' S') : v = v' ∧ JJ C' S' (N + 1) := by
  have hr := hJ.2.2.2.2
  have h8 : S 578 8 = C 507 1 := hr.2.2.1
  have hb := hr.1
  rcases hA with ⟨a, ha, hC⟩ | ⟨a, ha, hC⟩
  · rcases hB with ⟨c, hc, hS⟩ | ⟨c, hc, hS⟩
    · have k8 : C' 508 = up1 (C 508) (C 507 1) u := by rw [hC, up2_ne _ _ _ (by omega), up2_self]
      have k7 : C' 507 1 = C 507 1 + 1 := by rw [hC, rd_hit rfl rfl]
      refine ⟨by rw [ha, hc, h8], Cur_e (by omega) (fun a x1 x2 => by rw [hC, up2_ne _ _ _ (by omega), up2_ne _ _ _ (by omega)]) (fun k _ _ => by rw [hS, rd_k (by omega), rd_k (by omega)]) hJ.1, Rest_t (by omega) hJ.2 (fun a x1 x2 => by rw [hC, up2_ne _ _ _ x1, up2_ne _ _ _ x2]) (by rw [hC, rd_i (by omega), rd_k (by omega)]) ?_ (fun a x1 x2 => by rw [hS, up2_ne _ _ _ x1, up2_ne _ _ _ x2]) ?_ ?_ (fun j x1 => by rw [hS, rd_i x1, rd_k (by omega)])⟩
      · rw [k8, k7]
        refine ⟨by have := hb.1; omega, fun j x1 x2 => ?_⟩
        unfold up1
        by_cases hj : j = C 507 1
        · rw [if_pos hj]
          exact hu
        · rw [if_neg hj]
          exact hb.2 j x1 x2
      · rw [k8, hS, up2_ne _ _ _ (by omega), up2_self, hr.2.1, h8]
      · rw [k7, hS, rd_hit rfl rfl, h8]
    · exfalso; omega
  · rcases hB with ⟨c, hc, hS⟩ | ⟨c, hc, hS⟩
    · exfalso; omega
    · exact ⟨by rw [ha, hc], by rw [hC, hS]; exact JJ_mono hJ⟩
theorem sm_clearText {v v' : Int} (hJ : JJ C S N) (hA : (fun v C' => v = C 507 1 ∧ C' = up2 C 507 1 0) v C') (hB : (fun v S' => v = S 578 8 ∧ S' = up2 S 578 8 0) v' S') : v = v' ∧ JJ C' S' (N + 1) := by
  have hr := hJ.2.2.2.2
  have h8 : S 578 8 = C 507 1 := hr.2.2.1
  have hb := hr.1
  obtain ⟨ha, hC⟩ := hA
  obtain ⟨hc, hS⟩ := hB
  have k7 : C' 507 1 = 0 := by rw [hC, rd_hit rfl rfl]
  have k8 : C' 508 = C 508 := by rw [hC, up2_ne _ _ _ (by omega)]
  refine ⟨by rw [ha, hc, h8], Cur_e (by omega) (fun a x1 x2 => by rw [hC, up2_ne _ _ _ (by omega)]) (fun k _ _ => by rw [hS, rd_k (by omega)]) hJ.1, Rest_t (by omega) hJ.2 (fun a x1 x2 => by rw [hC, up2_ne _ _ _ x1]) (by rw [hC, rd_i (by omega)]) (by rw [k7, k8]; exact ⟨by omega, hb.2⟩) (fun a x1 x2 => by rw [hS, up2_ne _ _ _ x1]) (by rw [k8, hS, up2_ne _ _ _ (by omega)]; exact hr.2.1) (by rw [k7, hS, rd_hit rfl rfl]) (fun j x1 => by rw [hS, rd_i x1])⟩
theorem sm_undo {v v' : Int} (hJ : JJ C S N) (hA : (fun v C' => ((C 169 2 < 1) ∧ v = -5 ∧ C' = C) ∨ ((1 ≤ C 169 2) ∧ v = C 169 2 - 1 ∧ C' = tkL C)) v C') (hB : (fun v S' => ((S 578 9 = 0) ∧ v = -5 ∧ S' = S) ∨ ((¬ S 578 9 = 0) ∧ v = S 578 9 - 1 ∧ S' = cpR (up2 S 578 9 (S 578 9 - 1)) 579 580 (656 * (S 578 9 - 1)) 656)) v' S') : v = v' ∧ JJ C' S' (N + 1) := by
  have h9 : S 578 9 = C 169 2 := hJ.2.1.2.2
  have hs := hJ.2.1.2.1
  rcases hA with ⟨a, ha, hC⟩ | ⟨a, ha, hC⟩
  · rcases hB with ⟨c, hc, hS⟩ | ⟨c, hc, hS⟩
    · exact ⟨by rw [ha, hc], by rw [hC, hS]; exact JJ_mono hJ⟩
    · exfalso; omega
  · rcases hB with ⟨c, hc, hS⟩ | ⟨c, hc, hS⟩
    · exfalso; omega
    · rw [h9] at hc hS
      obtain ⟨h, hh⟩ : ∃ h : Int, C 169 2 - 1 = h := ⟨_, rfl⟩
      unfold tkL at hC
      rw [hh] at ha hC hc hS
      have hb := hat_b (C 169 1) h
      have hcur := hJ.2.2.1 h (by omega) (by omega)
      have h20 := hcur.1.2.1.1
      have key := Cur_cp (o := 1) (p := hat (C 169 1) h) (by omega) hcur
      have out : ∀ a : Int, 85 ≤ a → a ≠ 169 → C' a = C a := fun a x1 x2 => by rw [hC, up2_ne _ _ _ x2, cpN_out (by omega) (by omega)]
      refine ⟨by rw [ha, hc], Cur_e (by omega) (fun a x1 x2 => by rw [hC, up2_ne _ _ _ (by omega)]) (fun k x1 x2 => ?_) key, Rest_9 (n := h) (by omega) (by omega) hJ.2 (fun a x1 x2 x3 => out a x1 x3) (by rw [hC, rd_i (by omega), cpN_out (by omega) (by omega)]) (by rw [hC, rd_hit rfl rfl]) (by rw [hC, rd_k (by omega), cpN_out (by omega) (by omega)]) (out 507 (by omega) (by omega)) (out 508 (by omega) (by omega)) ?_ ?_ ?_ ?_ (fun j x1 => ?_)⟩
      · show S' 579 k = S 580 (656 * h + k)
        rw [hS]
        unfold cpR
        rw [if_pos rfl, if_pos ⟨x1, x2⟩, up2_ne _ _ _ (by omega)]
      · rw [hS, cpR_ne (by omega), up2_ne _ _ _ (by omega)]
      · rw [hS, cpR_ne (by omega), up2_ne _ _ _ (by omega)]
      · rw [hS, cpR_ne (by omega), up2_ne _ _ _ (by omega)]
      · rw [hS, cpR_ne (by omega), rd_hit rfl rfl]
      · rw [hS, cpR_ne (by omega), rd_i x1]
theorem sm_keep {v v' : Int} (hJ : JJ C S N) (hA : (fun v C' => v = C 1 4 ∧ C' = up2 (cpN C 85 1 (C 1 3)) 0 2 1) v C') (hB : (fun v S' => v = S 579 0 ∧ S' = up2 (cpR S 581 579 0 656) 578 10 1) v' S') : v = v' ∧ JJ C' S' (N + 1) := by
  obtain ⟨ha, hC⟩ := hA
  obtain ⟨hc, hS⟩ := hB
  have e0 : S 579 0 = C 1 4 := hJ.1.1.1.1
  have h13 := hJ.1.1.2.1.1
  have key := Cur_cp (o := 85) (p := 1) (by omega) hJ.1
  have out : ∀ a : Int, a < 85 ∨ 169 ≤ a → a ≠ 0 → C' a = C a := fun a x1 x2 => by rw [hC, up2_ne _ _ _ x2, cpN_out (by omega) (by omega)]
  have sout : ∀ a : Int, a ≠ 578 → a ≠ 581 → S' a = S a := fun a x1 x2 => by rw [hS, up2_ne _ _ _ x1, cpR_ne x2]
  have s8 : ∀ j : Int, j ≠ 10 → S' 578 j = S 578 j := fun j x1 => by rw [hS, rd_i x1, cpR_ne (by omega)]
  have hsn : Cur C' 85 (S' 581) (N + 1) := Cur_e (by omega) (fun a x1 x2 => by rw [hC, up2_ne _ _ _ (by omega)]) (fun k x1 x2 => by
    rw [hS, rd_k (by omega)]
    unfold cpR
    rw [if_pos rfl, if_pos ⟨x1, x2⟩, Int.zero_add]) key
  obtain ⟨h1, h2, ⟨h3, h4, h5, h6⟩, h7, h8, h9, h10, h11⟩ := hJ.2
  refine ⟨by rw [ha, hc, e0], Cur_e (by omega) (fun a x1 x2 => out a (by omega) (by omega)) (fun k _ _ => by rw [sout 579 (by omega) (by omega)]) hJ.1, ?_⟩
  have k2 : C' 0 2 = 1 := by rw [hC, rd_hit rfl rfl]
  have k3 : C' 85 3 = C 1 3 := by rw [hC, rd_k (by omega), cpN_o (by omega)]
  have k10 : S' 578 10 = 1 := by rw [hS, rd_hit rfl rfl]
  unfold Rest
  rw [out 169 (by omega) (by omega), out 507 (by omega) (by omega), out 508 (by omega) (by omega), k2, k3, k10, sout 580 (by omega) (by omega), sout 584 (by omega) (by omega), s8 8 (by omega), s8 9 (by omega), s8 12 (by omega)]
  refine ⟨h1, fun h b1 b2 => ?_, ⟨by omega, rfl, fun _ => hsn, h13⟩, h7, h8, h9, h10, h11⟩
  have hb := hat_b (C 169 1) h
  exact Cur_e (by omega) (fun a x1 x2 => out a (by omega) (by omega)) (fun _ _ _ => rfl) (h2 h b1 b2)
theorem sm_restore {v v' : Int} (hJ : JJ C S N) (hA : (fun v C' => ((C 0 2 = 0) ∧ v = -5 ∧ C' = C) ∨ ((C 0 2 = 1) ∧ v = remC C 85 4 ∧ C' = cpN (remC C) 1 85 (remC C 85 3))) v C') (hB : (fun v S' => ((S 578 10 = 0) ∧ v = -5 ∧ S' = S) ∨ ((S 578 10 = 1) ∧ v = recS S 581 0 ∧ S' = cpR (recS S) 579 581 0 656)) v' S') : v = v' ∧ JJ C' S' (N + 1) := by
  have h10 : S 578 10 = C 0 2 := hJ.2.2.2.1.2.1
  have h13 := hJ.1.1.2.1.1
  rcases hA with ⟨a, ha, hC⟩ | ⟨a, ha, hC⟩
  · rcases hB with ⟨c, hc, hS⟩ | ⟨c, hc, hS⟩
    · exact ⟨by rw [ha, hc], by rw [hC, hS]; exact JJ_mono hJ⟩
    · exfalso; omega
  · rcases hB with ⟨c, hc, hS⟩ | ⟨c, hc, hS⟩
    · exfalso; omega
    · have hJ2 := rem_J hJ
      have r0 : remC C 0 = C 0 := remC_out (by omega) h13
      generalize remC C = D at *
      generalize recS S = E at *
      have hcur := hJ2.2.2.2.1.2.2.1 (by rw [r0]; exact a)
      have h20 := hcur.1.2.1.1
      have key := Cur_cp (o := 1) (p := 85) (by omega) hcur
      have e0 : E 581 0 = D 85 4 := hcur.1.1.1
      refine ⟨by rw [ha, hc, e0], act_J hJ2 (Cur_e (by omega) (fun a x1 x2 => by rw [hC]) (fun k x1 x2 => ?_) key) (fun a x1 => by rw [hC, cpN_out (by omega) (by omega)]) (fun a x1 => by rw [hS, cpR_ne (by omega)]) (fun j _ _ => by rw [hS, cpR_ne (by omega)])⟩
      rw [hS]
      unfold cpR
      rw [if_pos rfl, if_pos ⟨x1, x2⟩, Int.zero_add]
/-! the most urgent checks -/
theorem isBest_t {P P' : Int → Prop} {g g' : Int → Int} {n v : Int} (hP : ∀ j : Int, 0 ≤ j → j < n → (P j ↔ P' j)) (hg : ∀ j : Int, 0 ≤ j → j < n → g j = g' j) (h : isBest P g n v) : isBest P' g' n v := by
  rcases h with ⟨h1, h2⟩ | ⟨h1, h2, h3, h4⟩
  · exact Or.inl ⟨h1, fun j a1 a2 a3 => h2 j a1 a2 ((hP j a1 a2).mpr a3)⟩
  · refine Or.inr ⟨h1, h2, (hP v h1 h2).mp h3, fun j a1 a2 a3 => ?_⟩
    have := h4 j a1 a2 ((hP j a1 a2).mpr a3)
    rw [hg j a1 a2, hg v h1 h2] at this
    exact this
theorem ck_best (h : Cur C 1 (S 579) N) {v : Int} : isBest (due C 1) (urgP C 1) (C 1 3) v ↔ isBest (mDue (S 579)) (mUrg (S 579)) (S 579 1) v := by
  rw [show S 579 1 = C 1 3 from h.1.1.2.1]
  exact ⟨fun z => isBest_t (fun j a1 a2 => (c_due h ⟨a1, a2⟩).symm) (fun j a1 a2 => (c_urg h ⟨a1, a2⟩ rfl).symm) z, fun z => isBest_t (fun j a1 a2 => c_due h ⟨a1, a2⟩) (fun j a1 a2 => c_urg h ⟨a1, a2⟩ rfl) z⟩
theorem ck_done (h : Cur C 1 (S 579) N) : CkDone C ↔ MkDone S := by
  unfold CkDone MkDone
  rw [ck_best h, show S 579 2 = C 1 5 from h.1.1.2.2.1]
theorem ck_step (h : Cur C 1 (S 579) N) (hC : CkS C C') (hS : MkS S S') : Cur C' 1 (S' 579) N ∧ (∀ a : Int, (a = 0 ∨ 85 ≤ a) → C' a = C a) ∧ ∀ a : Int, a ≠ 579 → S' a = S a := by
  obtain ⟨k, q, k0, k5, kb, q0, qf, hC⟩ := hC
  obtain ⟨k', q', k0', k5', kb', q0', qf', hS⟩ := hS
  obtain rfl : k = k' := isBest_uniq (fun _ _ _ => Iff.rfl) (fun _ _ _ _ => rfl) ((ck_best h).mp kb) kb'
  have hk := isBest_k kb k0
  have hL := h.2.1 k k0 hk.1
  rw [show 4 * k + 1 + 4 = 4 * k + 5 by omega] at hL
  have hsz : S 579 (32 * k + 19) = C (4 * k + 5) 6 := hL.2.1.2.2.2.1
  rw [hsz] at qf'
  obtain rfl : q = q' := isFirst_uniq (fun j a1 a2 => (c_chk h ⟨k0, hk.1⟩ (by omega) ⟨a1, a2⟩).symm) qf qf'
  have hq : q < C (4 * k + 5) 6 := by
    rcases qf with ⟨z, -⟩ | ⟨-, z, -⟩ <;> omega
  unfold chk at hC
  unfold mchk at hS
  have ⟨⟨b0, b1, b2, b3, b4, b5, b6, b7, b8⟩, ⟨g0, g1, g2, g3, g4⟩, g5, g6, g7, g8, g9, g10⟩ := hL
  have E0 : S 579 0 = C 1 4 := h.1.1.1
  have E2 : S 579 2 = C 1 5 := h.1.1.2.2.1
  have B3 := h.1.2.1.1
  have B4 := h.1.2.1.2.1
  have B5 := h.1.2.1.2.2.1
  have hout : ∀ a : Int, a ≠ 1 → a ≠ 4 * k + 8 → C' a = C a := fun a a1 a2 => by rw [hC, up2_ne _ _ _ a1, up2_ne _ _ _ a2]
  have x13 : C' 1 3 = C 1 3 := by rw [hC, rd_i (by omega), rd_k (by omega)]
  have x14 : C' 1 4 = C 1 4 := by rw [hC, rd_i (by omega), rd_k (by omega)]
  have x15 : C' 1 5 = C 1 5 - 1 := by rw [hC, rd_hit rfl rfl]
  have x16 : C' 1 6 = C 1 6 := by rw [hC, rd_i (by omega), rd_k (by omega)]
  have fout : ∀ x : Int, x ≠ 2 → x ≠ 32 * k + 3 * q + 26 → S' 579 x = S 579 x := fun x a1 a2 => by rw [hS, rd_i a1, rd_i a2]
  have f2 : S' 579 2 = S 579 2 - 1 := by rw [hS, rd_hit rfl rfl]
  have w6 : C' (4 * k + 5) 6 = C (4 * k + 5) 6 := by rw [hout _ (by omega) (by omega)]
  have y19 : S' 579 (32 * k + 19) = S 579 (32 * k + 19) := fout _ (by omega) (by omega)
  have hLn : LfR C' (4 * k + 5) (S' 579) (32 * k) (C 1 4) := by
    refine LfR_f hL (fun j a1 a2 => by rw [hout _ (by omega) (by omega)]) (by omega) (fun r a1 a2 a3 => fout _ (by omega) (by omega)) (by omega) (fun j a1 a2 => ?_)
    have k9 := g10 j a1 (by omega)
    have b9 := b8 j a1 (by omega)
    have y1 : C' (4 * k + 5 + 1) j = C (4 * k + 5 + 1) j := by rw [hout _ (by omega) (by omega)]
    have y2 : C' (4 * k + 5 + 2) j = C (4 * k + 5 + 2) j := by rw [hout _ (by omega) (by omega)]
    have z1 : S' 579 (32 * k + 3 * j + 24) = S 579 (32 * k + 3 * j + 24) := fout _ (by omega) (by omega)
    have z2 : S' 579 (32 * k + 3 * j + 25) = S 579 (32 * k + 3 * j + 25) := fout _ (by omega) (by omega)
    by_cases hj : j = q
    · have y3 : C' (4 * k + 5 + 3) j = C 1 4 := by rw [hC, rd_k (by omega), rd_hit (by omega) hj]
      have z3 : S' 579 (32 * k + 3 * j + 26) = S 579 0 := by rw [hS, rd_i (by omega), rd_hit rfl (by omega)]
      omega
    · have y3 : C' (4 * k + 5 + 3) j = C (4 * k + 5 + 3) j := by rw [hC, rd_k (by omega), rd_i (by omega)]
      have z3 : S' 579 (32 * k + 3 * j + 26) = S 579 (32 * k + 3 * j + 26) := fout _ (by omega) (by omega)
      omega
  exact ⟨cur_one h ⟨k0, hk.1⟩ (hd_modn h.1 x13 x14 (by omega) x16 (hout 2 (by omega) (by omega)) (hout 3 (by omega) (by omega)) (fun x a1 a2 a3 => fout x a3 (by omega)) (by omega)) x13 x14 (fun a a1 a2 a3 => hout a (by omega) (by omega)) (fun x a1 a2 => fout x (by omega) (by omega)) hLn, fun a a1 => hout a (by omega) (by omega), fun a a1 => by rw [hS, up2_ne _ _ _ a1, up2_ne _ _ _ a1]⟩
theorem ck_run (h : Cur C 1 (S 579) N) : ∀ (n : Nat) (C' S' : gM), CkN n C C' → MkN n S S' → Cur C' 1 (S' 579) N ∧ (∀ a : Int, (a = 0 ∨ 85 ≤ a) → C' a = C a) ∧ ∀ a : Int, a ≠ 579 → S' a = S a := by
  intro n
  induction n with
  | zero =>
    intro C' S' hC hS
    have hC : C' = C := hC
    have hS : S' = S := hS
    subst hC
    subst hS
    exact ⟨h, fun _ _ => rfl, fun _ _ => rfl⟩
  | succ n ih =>
    intro C' S' hC hS
    obtain ⟨C1, h1, h2⟩ := hC
    obtain ⟨S1, g1, g2⟩ := hS
    obtain ⟨a1, a2, a3⟩ := ih C1 S1 h1 g1
    obtain ⟨b1, b2, b3⟩ := ck_step a1 h2 g2
    exact ⟨b1, fun a z => (b2 a z).trans (a2 a z), fun a z => (b3 a z).trans (a3 a z)⟩
theorem CkN_pre {n : Nat} : ∀ (m : Nat) (C' : gM), CkN m C C' → n < m → ∃ C1 C2, CkN n C C1 ∧ CkS C1 C2 := by
  intro m
  induction m with
  | zero => intro C' _ h; omega
  | succ m ih =>
    intro C' hC hn
    obtain ⟨C1, h1, h2⟩ := hC
    by_cases hm : n = m
    · subst hm
      exact ⟨C1, C', h1, h2⟩
    · exact ih C1 h1 (by omega)
theorem MkN_pre {n : Nat} : ∀ (m : Nat) (S' : gM), MkN m S S' → n < m → ∃ S1 S2, MkN n S S1 ∧ MkS S1 S2 := by
  intro m
  induction m with
  | zero => intro S' _ h; omega
  | succ m ih =>
    intro S' hS hn
    obtain ⟨S1, h1, h2⟩ := hS
    by_cases hm : n = m
    · subst hm
      exact ⟨S1, S', h1, h2⟩
    · exact ih S1 h1 (by omega)
theorem CkS_go (h : CkS C C') : ¬ CkDone C := by
  obtain ⟨k, q, k0, k5, kb, -⟩ := h
  rintro (z | z)
  · omega
  · have := isBest_uniq (fun _ _ _ => Iff.rfl) (fun _ _ _ _ => rfl) kb z
    omega
theorem MkS_go (h : MkS S S') : ¬ MkDone S := by
  obtain ⟨k, q, k0, k5, kb, -⟩ := h
  rintro (z | z)
  · omega
  · have := isBest_uniq (fun _ _ _ => Iff.rfl) (fun _ _ _ _ => rfl) kb z
    omega
theorem ck_eq (h : Cur C 1 (S 579) N) {n m : Nat} (hC : CkN n C C') (dC : CkDone C') (hS : MkN m S S') (dS : MkDone S') : n = m := by
  rcases Nat.lt_trichotomy n m with g | g | g
  · obtain ⟨S1, S2, h1, h2⟩ := MkN_pre m S' hS g
    exact absurd ((ck_done (ck_run h n C' S1 hC h1).1).mp dC) (MkS_go h2)
  · exact g
  · obtain ⟨C1, C2, h1, h2⟩ := CkN_pre n C' hC g
    exact absurd ((ck_done (ck_run h m C1 S' h1 hS).1).mpr dS) (CkS_go h2)
theorem sm_checkUrgent {v v' : Int} (hJ : JJ C S N) (hA : (fun v C' => (CkDone C ∧ v = -5 ∧ C' = C) ∨ (1 ≤ C 1 5 ∧ (∃ k : Int, 0 ≤ k ∧ isBest (due C 1) (urgP C 1) (C 1 3) k) ∧ 0 ≤ v ∧ CkN v.toNat (remC C) C' ∧ CkDone C')) v C') (hB : (fun v S' => (MkDone S ∧ v = -5 ∧ S' = S) ∨ (1 ≤ S 579 2 ∧ (∃ k : Int, 0 ≤ k ∧ isBest (mDue (S 579)) (mUrg (S 579)) (S 579 1) k) ∧ 0 ≤ v ∧ MkN v.toNat (recS S) S' ∧ MkDone S')) v' S') : v = v' ∧ JJ C' S' (N + 1) := by
  have hd := ck_done hJ.1
  have e2 : S 579 2 = C 1 5 := hJ.1.1.1.2.2.1
  rcases hA with ⟨a, ha, hC⟩ | ⟨a, ⟨k, k0, kb⟩, ha, hC, dC⟩
  · rcases hB with ⟨c, hc, hS⟩ | ⟨c, ⟨k, k0, kb⟩, hc, hS, dS⟩
    · exact ⟨by rw [ha, hc], by rw [hC, hS]; exact JJ_mono hJ⟩
    · exfalso
      rcases hd.mp a with z | z
      · omega
      · have := isBest_uniq (fun _ _ _ => Iff.rfl) (fun _ _ _ _ => rfl) kb z
        omega
  · rcases hB with ⟨c, hc, hS⟩ | ⟨c, -, hc, hS, dS⟩
    · exfalso
      rcases hd.mpr c with z | z
      · omega
      · have := isBest_uniq (fun _ _ _ => Iff.rfl) (fun _ _ _ _ => rfl) kb z
        omega
    · have hJ2 := rem_J hJ
      have hn := ck_eq hJ2.1 hC dC hS dS
      rw [← hn] at hS
      obtain ⟨b1, b2, b3⟩ := ck_run hJ2.1 _ C' S' hC hS
      exact ⟨by omega, act_J hJ2 (Cur_e (by omega) (fun _ _ _ => rfl) (fun _ _ _ => rfl) b1) (fun a z => b2 a (by omega)) (fun a z => b3 a (by omega)) (fun j _ _ => by rw [b3 578 (by omega)])⟩
end
