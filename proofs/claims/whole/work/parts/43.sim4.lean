set_option maxHeartbeats 8000000 in
theorem sm_write {C C' S S' : gM} {N u t z v v' : Int} (hJ : JJ C S N) (hA : (fun v C' => ((¬ (0 ≤ u ∧ u < C 1 3 ∧ 0 ≤ t ∧ t < 6)) ∧ v = -1 ∧ C' = C) ∨ (((0 ≤ u ∧ u < C 1 3 ∧ 0 ≤ t ∧ t < 6) ∧ ¬ (1 ≤ z ∧ z ≤ 9)) ∧ v = -2 ∧ C' = C) ∨ (((0 ≤ u ∧ u < C 1 3 ∧ 0 ≤ t ∧ t < 6) ∧ (1 ≤ z ∧ z ≤ 9) ∧ C (4 * u + 5) 2 = 3) ∧ v = -4 ∧ C' = C) ∨ (((0 ≤ u ∧ u < C 1 3 ∧ 0 ≤ t ∧ t < 6) ∧ (1 ≤ z ∧ z ≤ 9) ∧ ¬ C (4 * u + 5) 2 = 3 ∧ ¬ (C (4 * u + 5) 6 < 8 ∧ z ≤ C 1 5)) ∧ v = -3 ∧ C' = C) ∨ (((0 ≤ u ∧ u < C 1 3 ∧ 0 ≤ t ∧ t < 6) ∧ (1 ≤ z ∧ z ≤ 9) ∧ ¬ C (4 * u + 5) 2 = 3 ∧ (C (4 * u + 5) 6 < 8 ∧ z ≤ C 1 5)) ∧ v = remC C (4 * u + 5) 6 ∧ C' = up2 (up2 (up2 (up2 (up2 (remC C) 1 5 (remC C 1 5 - z)) (4 * u + 5 + 1) (remC C (4 * u + 5) 6) t) (4 * u + 5 + 2) (remC C (4 * u + 5) 6) z) (4 * u + 5 + 3) (remC C (4 * u + 5) 6) (remC C 1 4)) (4 * u + 5) 6 (remC C (4 * u + 5) 6 + 1))) v C') (hB : (fun v S' => ((¬ (0 ≤ u ∧ u < S 579 1 ∧ 0 ≤ t ∧ t < 6)) ∧ v = -1 ∧ S' = S) ∨ (((0 ≤ u ∧ u < S 579 1 ∧ 0 ≤ t ∧ t < 6) ∧ ¬ (1 ≤ z ∧ z ≤ 9)) ∧ v = -2 ∧ S' = S) ∨ (((0 ≤ u ∧ u < S 579 1 ∧ 0 ≤ t ∧ t < 6) ∧ (1 ≤ z ∧ z ≤ 9) ∧ S 579 (32 * u + 18) = 3) ∧ v = -4 ∧ S' = S) ∨ (((0 ≤ u ∧ u < S 579 1 ∧ 0 ≤ t ∧ t < 6) ∧ (1 ≤ z ∧ z ≤ 9) ∧ ¬ S 579 (32 * u + 18) = 3 ∧ ¬ (S 579 (32 * u + 19) < 8 ∧ z ≤ S 579 2)) ∧ v = -3 ∧ S' = S) ∨ (((0 ≤ u ∧ u < S 579 1 ∧ 0 ≤ t ∧ t < 6) ∧ (1 ≤ z ∧ z ≤ 9) ∧ ¬ S 579 (32 * u + 18) = 3 ∧ (S 579 (32 * u + 19) < 8 ∧ z ≤ S 579 2)) ∧ v = recS S 579 (32 * u + 19) ∧ S' = up2 (up2 (up2 (up2 (up2 (recS S) 579 (32 * u + 3 * recS S 579 (32 * u + 19) + 24) t) 579 (32 * u + 3 * recS S 579 (32 * u + 19) + 25) z) 579 (32 * u + 3 * recS S 579 (32 * u + 19) + 26) (recS S 579 0)) 579 (32 * u + 19) (recS S 579 (32 * u + 19) + 1)) 579 2 (recS S 579 2 - z))) v' S') : v = v' ∧ JJ C' S' (N + 1) := by
  have e0 : S 579 0 = C 1 4 := hJ.1.1.1.1
  have e1 : S 579 1 = C 1 3 := hJ.1.1.1.2.1
  have e2 : S 579 2 = C 1 5 := hJ.1.1.1.2.2.1
  have h13 := hJ.1.1.2.1.1
  have b5 := hJ.1.1.2.1.2.2.1
  have hst : 0 ≤ u → u < C 1 3 → S 579 (32 * u + 18) = C (4 * u + 5) 2 := fun x1 x2 => (hJ.life ⟨x1, x2⟩).2.1.2.2.1
  have hsr : 0 ≤ u → u < C 1 3 → 0 ≤ C (4 * u + 5) 2 ∧ C (4 * u + 5) 2 ≤ 3 := fun x1 x2 => (hJ.life ⟨x1, x2⟩).1.2.2.1
  have hsz : 0 ≤ u → u < C 1 3 → S 579 (32 * u + 19) = C (4 * u + 5) 6 := fun x1 x2 => (hJ.life ⟨x1, x2⟩).2.1.2.2.2.1
  rcases hA with ⟨a, ha⟩ | ⟨a, ha⟩ | ⟨a, ha⟩ | ⟨a, ha⟩ | ⟨a, ha⟩
  · rcases hB with ⟨c, hc⟩ | ⟨c, hc⟩ | ⟨c, hc⟩ | ⟨c, hc⟩ | ⟨c, hc⟩
    · exact ⟨by rw [ha.1, hc.1], by rw [ha.2, hc.2]; exact JJ_mono hJ⟩
    · exfalso; clear ha hc; omega
    · exfalso; clear ha hc; omega
    · exfalso; clear ha hc; omega
    · exfalso; clear ha hc; omega
  · rcases hB with ⟨c, hc⟩ | ⟨c, hc⟩ | ⟨c, hc⟩ | ⟨c, hc⟩ | ⟨c, hc⟩
    · exfalso; clear ha hc; omega
    · exact ⟨by rw [ha.1, hc.1], by rw [ha.2, hc.2]; exact JJ_mono hJ⟩
    · exfalso; clear ha hc; omega
    · exfalso; clear ha hc; omega
    · exfalso; clear ha hc; omega
  · rcases hB with ⟨c, hc⟩ | ⟨c, hc⟩ | ⟨c, hc⟩ | ⟨c, hc⟩ | ⟨c, hc⟩
    · exfalso; clear ha hc; omega
    · exfalso; clear ha hc; omega
    · exact ⟨by rw [ha.1, hc.1], by rw [ha.2, hc.2]; exact JJ_mono hJ⟩
    · exfalso; clear ha hc; omega
    · exfalso; clear ha hc; omega
  · rcases hB with ⟨c, hc⟩ | ⟨c, hc⟩ | ⟨c, hc⟩ | ⟨c, hc⟩ | ⟨c, hc⟩
    · exfalso; clear ha hc; omega
    · exfalso; clear ha hc; omega
    · exfalso; clear ha hc; omega
    · exact ⟨by rw [ha.1, hc.1], by rw [ha.2, hc.2]; exact JJ_mono hJ⟩
    · exfalso; clear ha hc; omega
  · rcases hB with ⟨c, hc⟩ | ⟨c, hc⟩ | ⟨c, hc⟩ | ⟨c, hc⟩ | ⟨c, hc⟩
    · exfalso; clear ha hc; omega
    · exfalso; clear ha hc; omega
    · exfalso; clear ha hc; omega
    · exfalso; clear ha hc; omega
    · -- both act
      obtain ⟨ha, hC⟩ := ha
      obtain ⟨hc, hS⟩ := hc
      have hJ2 := rem_J hJ
      have ag := remC_ag h13
      have es : recS S 579 = S 579 := recS_out (by omega)
      generalize remC C = D at *
      generalize recS S = E at *
      have r1 : D 1 = C 1 := ag 1 (by omega) (by omega)
      have d3 : D 1 3 = C 1 3 := by rw [r1]
      have d4 : D 1 4 = C 1 4 := by rw [r1]
      have d5 : D 1 5 = C 1 5 := by rw [r1]
      have E0 : E 579 0 = D 1 4 := hJ2.1.1.1.1
      have E1 : E 579 1 = D 1 3 := hJ2.1.1.1.2.1
      have E2 : E 579 2 = D 1 5 := hJ2.1.1.1.2.2.1
      have E3 : E 579 3 = D 1 6 := hJ2.1.1.1.2.2.2
      have B4 := hJ2.1.1.2.1.2.1
      have B5 := hJ2.1.1.2.1.2.2.1
      have B6 := hJ2.1.1.2.1.2.2.2
      have rq : D (4 * u + 5) = C (4 * u + 5) := ag _ (by omega) (by omega)
      have hL := hJ2.life (u := u) (by omega)
      have ⟨⟨b0, b1, b2, b3, b4, b5, b6, b7, b8⟩, ⟨g0, g1, g2, g3, g4⟩, g5, g6, g7, g8, g9, g10⟩ := hL
      obtain ⟨m, hm⟩ : ∃ m : Int, D (4 * u + 5) 6 = m := ⟨_, rfl⟩
      have hm' : E 579 (32 * u + 19) = m := by rw [g3]; exact hm
      rw [hm] at ha hC b6
      rw [hm'] at hc hS
      have hm8 : C (4 * u + 5) 6 = m := by rw [← rq]; exact hm
      have x13 : C' 1 3 = D 1 3 := by
        rw [hC]
        repeat rw [ap2]
        repeat (first | rw [if_pos (by omega)] | rw [if_neg (by omega)])
      have x14 : C' 1 4 = D 1 4 := by
        rw [hC]
        repeat rw [ap2]
        repeat (first | rw [if_pos (by omega)] | rw [if_neg (by omega)])
      have x15 : C' 1 5 = D 1 5 - z := by
        rw [hC]
        repeat rw [ap2]
        repeat (first | rw [if_pos (by omega)] | rw [if_neg (by omega)])
      have x16 : C' 1 6 = D 1 6 := by
        rw [hC]
        repeat rw [ap2]
        repeat (first | rw [if_pos (by omega)] | rw [if_neg (by omega)])
      have hout : ∀ a : Int, a ≠ 1 → (a < 4 * u + 5 ∨ 4 * u + 8 < a) → C' a = D a := fun a a1 a2 => by rw [hC, up2_ne _ _ _ (by omega), up2_ne _ _ _ (by omega), up2_ne _ _ _ (by omega), up2_ne _ _ _ (by omega), up2_ne _ _ _ (by omega)]
      have fout : ∀ k : Int, k ≠ 2 → k ≠ 3 → (k < 32 * u + 16 ∨ 32 * u + 48 ≤ k) → S' 579 k = E 579 k := fun k a1 a2 a3 => by rw [hS, rd_i (by omega), rd_i (by omega), rd_i (by omega), rd_i (by omega), rd_i (by omega)]
      have fo : ∀ a : Int, a ≠ 579 → S' a = E a := fun a a1 => by rw [hS, up2_ne _ _ _ a1, up2_ne _ _ _ a1, up2_ne _ _ _ a1, up2_ne _ _ _ a1, up2_ne _ _ _ a1]
      have y2h : S' 579 2 = E 579 2 - z := by
        rw [hS]
        repeat rw [ap2]
        repeat (first | rw [if_pos (by omega)] | rw [if_neg (by omega)])
      have y3h : S' 579 3 = E 579 3 := by
        rw [hS]
        repeat rw [ap2]
        repeat (first | rw [if_pos (by omega)] | rw [if_neg (by omega)])
      have x6 : C' (4 * u + 5) 6 = m + 1 := by
        rw [hC]
        repeat rw [ap2]
        repeat (first | rw [if_pos (by omega)] | rw [if_neg (by omega)])
      have y19 : S' 579 (32 * u + 19) = m + 1 := by
        rw [hS]
        repeat rw [ap2]
        repeat (first | rw [if_pos (by omega)] | rw [if_neg (by omega)])
      have hLn : LfR C' (4 * u + 5) (S' 579) (32 * u) (D 1 4) := by
        refine LfR_f hL (fun j a1 a2 => ?_) (by omega) (fun r a1 a2 a3 => ?_) (by omega) (fun j a1 a2 => ?_)
        · rw [hC]
          repeat rw [ap2]
          repeat (first | rw [if_pos (by omega)] | rw [if_neg (by omega)])
        · rw [hS]
          repeat rw [ap2]
          repeat (first | rw [if_pos (by omega)] | rw [if_neg (by omega)])
        · rw [x6] at a2
          by_cases hj : j = m
          · -- case 0
            have y1 : C' (4 * u + 5 + 1) j = t := by
              rw [hC]
              repeat rw [ap2]
              repeat (first | rw [if_pos (by omega)] | rw [if_neg (by omega)])
            have y2 : C' (4 * u + 5 + 2) j = z := by
              rw [hC]
              repeat rw [ap2]
              repeat (first | rw [if_pos (by omega)] | rw [if_neg (by omega)])
            have y3 : C' (4 * u + 5 + 3) j = D 1 4 := by
              rw [hC]
              repeat rw [ap2]
              repeat (first | rw [if_pos (by omega)] | rw [if_neg (by omega)])
            have z1 : S' 579 (32 * u + 3 * j + 24) = t := by
              rw [hS]
              repeat rw [ap2]
              repeat (first | rw [if_pos (by omega)] | rw [if_neg (by omega)])
            have z2 : S' 579 (32 * u + 3 * j + 25) = z := by
              rw [hS]
              repeat rw [ap2]
              repeat (first | rw [if_pos (by omega)] | rw [if_neg (by omega)])
            have z3 : S' 579 (32 * u + 3 * j + 26) = E 579 0 := by
              rw [hS]
              repeat rw [ap2]
              repeat (first | rw [if_pos (by omega)] | rw [if_neg (by omega)])
            omega
          · -- case 1
            have y1 : C' (4 * u + 5 + 1) j = D (4 * u + 5 + 1) j := by
              rw [hC]
              repeat rw [ap2]
              repeat (first | rw [if_pos (by omega)] | rw [if_neg (by omega)])
            have y2 : C' (4 * u + 5 + 2) j = D (4 * u + 5 + 2) j := by
              rw [hC]
              repeat rw [ap2]
              repeat (first | rw [if_pos (by omega)] | rw [if_neg (by omega)])
            have y3 : C' (4 * u + 5 + 3) j = D (4 * u + 5 + 3) j := by
              rw [hC]
              repeat rw [ap2]
              repeat (first | rw [if_pos (by omega)] | rw [if_neg (by omega)])
            have z1 : S' 579 (32 * u + 3 * j + 24) = E 579 (32 * u + 3 * j + 24) := by
              rw [hS]
              repeat rw [ap2]
              repeat (first | rw [if_pos (by omega)] | rw [if_neg (by omega)])
            have z2 : S' 579 (32 * u + 3 * j + 25) = E 579 (32 * u + 3 * j + 25) := by
              rw [hS]
              repeat rw [ap2]
              repeat (first | rw [if_pos (by omega)] | rw [if_neg (by omega)])
            have z3 : S' 579 (32 * u + 3 * j + 26) = E 579 (32 * u + 3 * j + 26) := by
              rw [hS]
              repeat rw [ap2]
              repeat (first | rw [if_pos (by omega)] | rw [if_neg (by omega)])
            have k9 := g10 j a1 (by omega)
            have b9 := b8 j a1 (by omega)
            omega
      refine ⟨by rw [ha, hc], act_J hJ2 (cur_one hJ2.1 ⟨by omega, by omega⟩ (hd_mod hJ2.1.1 x13 x14 (by omega) (by omega) (hout 2 (by omega) (by omega)) (hout 3 (by omega) (by omega)) (fun k a1 a2 a3 a4 => fout k a3 a4 (by omega)) (by omega) (by omega)) x13 x14 (fun a a1 a2 a3 => hout a (by omega) a3) (fun k a1 a2 => fout k (by omega) (by omega) a2) hLn) (fun a ha => hout a (by omega) (by omega)) (fun a ha => fo a (by omega)) (fun j _ _ => by rw [fo 578 (by omega)])⟩
set_option maxHeartbeats 8000000 in
theorem sm_check {C C' S S' : gM} {N u t v v' : Int} (hJ : JJ C S N) (hA : (fun v C' => ((¬ (0 ≤ u ∧ u < C 1 3 ∧ 0 ≤ t ∧ t < C (4 * u + 5) 6)) ∧ v = -1 ∧ C' = C) ∨ (((0 ≤ u ∧ u < C 1 3 ∧ 0 ≤ t ∧ t < C (4 * u + 5) 6) ∧ C (4 * u + 5) 2 = 3) ∧ v = -4 ∧ C' = C) ∨ (((0 ≤ u ∧ u < C 1 3 ∧ 0 ≤ t ∧ t < C (4 * u + 5) 6) ∧ ¬ C (4 * u + 5) 2 = 3 ∧ C 1 5 < 1) ∧ v = -3 ∧ C' = C) ∨ (((0 ≤ u ∧ u < C 1 3 ∧ 0 ≤ t ∧ t < C (4 * u + 5) 6) ∧ ¬ C (4 * u + 5) 2 = 3 ∧ 1 ≤ C 1 5 ∧ C (4 * u + 8) t = C 1 4) ∧ v = -5 ∧ C' = C) ∨ (((0 ≤ u ∧ u < C 1 3 ∧ 0 ≤ t ∧ t < C (4 * u + 5) 6) ∧ ¬ C (4 * u + 5) 2 = 3 ∧ 1 ≤ C 1 5 ∧ ¬ C (4 * u + 8) t = C 1 4) ∧ v = remC C 1 5 - 1 ∧ C' = up2 (up2 (remC C) (4 * u + 8) t (remC C 1 4)) 1 5 (remC C 1 5 - 1))) v C') (hB : (fun v S' => ((¬ (0 ≤ u ∧ u < S 579 1 ∧ 0 ≤ t ∧ t < S 579 (32 * u + 19))) ∧ v = -1 ∧ S' = S) ∨ (((0 ≤ u ∧ u < S 579 1 ∧ 0 ≤ t ∧ t < S 579 (32 * u + 19)) ∧ S 579 (32 * u + 18) = 3) ∧ v = -4 ∧ S' = S) ∨ (((0 ≤ u ∧ u < S 579 1 ∧ 0 ≤ t ∧ t < S 579 (32 * u + 19)) ∧ ¬ S 579 (32 * u + 18) = 3 ∧ S 579 2 = 0) ∧ v = -3 ∧ S' = S) ∨ (((0 ≤ u ∧ u < S 579 1 ∧ 0 ≤ t ∧ t < S 579 (32 * u + 19)) ∧ ¬ S 579 (32 * u + 18) = 3 ∧ ¬ S 579 2 = 0 ∧ S 579 (32 * u + 3 * t + 26) = S 579 0) ∧ v = -5 ∧ S' = S) ∨ (((0 ≤ u ∧ u < S 579 1 ∧ 0 ≤ t ∧ t < S 579 (32 * u + 19)) ∧ ¬ S 579 (32 * u + 18) = 3 ∧ ¬ S 579 2 = 0 ∧ ¬ S 579 (32 * u + 3 * t + 26) = S 579 0) ∧ v = recS S 579 2 - 1 ∧ S' = up2 (up2 (recS S) 579 (32 * u + 3 * t + 26) (recS S 579 0)) 579 2 (recS S 579 2 - 1))) v' S') : v = v' ∧ JJ C' S' (N + 1) := by
  have e0 : S 579 0 = C 1 4 := hJ.1.1.1.1
  have e1 : S 579 1 = C 1 3 := hJ.1.1.1.2.1
  have e2 : S 579 2 = C 1 5 := hJ.1.1.1.2.2.1
  have h13 := hJ.1.1.2.1.1
  have b5 := hJ.1.1.2.1.2.2.1
  have hst : 0 ≤ u → u < C 1 3 → S 579 (32 * u + 18) = C (4 * u + 5) 2 := fun x1 x2 => (hJ.life ⟨x1, x2⟩).2.1.2.2.1
  have hsr : 0 ≤ u → u < C 1 3 → 0 ≤ C (4 * u + 5) 2 ∧ C (4 * u + 5) 2 ≤ 3 := fun x1 x2 => (hJ.life ⟨x1, x2⟩).1.2.2.1
  have hsz : 0 ≤ u → u < C 1 3 → S 579 (32 * u + 19) = C (4 * u + 5) 6 := fun x1 x2 => (hJ.life ⟨x1, x2⟩).2.1.2.2.2.1
  have hdy : 0 ≤ u → u < C 1 3 → 0 ≤ t → t < C (4 * u + 5) 6 → S 579 (32 * u + 3 * t + 26) = C (4 * u + 8) t := fun x1 x2 x3 x4 => by have h9 := ((hJ.life ⟨x1, x2⟩).2.2.2.2.2.2.2 t x3 x4).2.2; rwa [show 4 * u + 5 + 3 = 4 * u + 8 by omega] at h9
  rcases hA with ⟨a, ha⟩ | ⟨a, ha⟩ | ⟨a, ha⟩ | ⟨a, ha⟩ | ⟨a, ha⟩
  · rcases hB with ⟨c, hc⟩ | ⟨c, hc⟩ | ⟨c, hc⟩ | ⟨c, hc⟩ | ⟨c, hc⟩
    · exact ⟨by rw [ha.1, hc.1], by rw [ha.2, hc.2]; exact JJ_mono hJ⟩
    · exfalso; clear ha hc; omega
    · exfalso; clear ha hc; omega
    · exfalso; clear ha hc; omega
    · exfalso; clear ha hc; omega
  · rcases hB with ⟨c, hc⟩ | ⟨c, hc⟩ | ⟨c, hc⟩ | ⟨c, hc⟩ | ⟨c, hc⟩
    · exfalso; clear ha hc; omega
    · exact ⟨by rw [ha.1, hc.1], by rw [ha.2, hc.2]; exact JJ_mono hJ⟩
    · exfalso; clear ha hc; omega
    · exfalso; clear ha hc; omega
    · exfalso; clear ha hc; omega
  · rcases hB with ⟨c, hc⟩ | ⟨c, hc⟩ | ⟨c, hc⟩ | ⟨c, hc⟩ | ⟨c, hc⟩
    · exfalso; clear ha hc; omega
    · exfalso; clear ha hc; omega
    · exact ⟨by rw [ha.1, hc.1], by rw [ha.2, hc.2]; exact JJ_mono hJ⟩
    · exfalso; clear ha hc; omega
    · exfalso; clear ha hc; omega
  · rcases hB with ⟨c, hc⟩ | ⟨c, hc⟩ | ⟨c, hc⟩ | ⟨c, hc⟩ | ⟨c, hc⟩
    · exfalso; clear ha hc; omega
    · exfalso; clear ha hc; omega
    · exfalso; clear ha hc; omega
    · exact ⟨by rw [ha.1, hc.1], by rw [ha.2, hc.2]; exact JJ_mono hJ⟩
    · exfalso; clear ha hc; omega
  · rcases hB with ⟨c, hc⟩ | ⟨c, hc⟩ | ⟨c, hc⟩ | ⟨c, hc⟩ | ⟨c, hc⟩
    · exfalso; clear ha hc; omega
    · exfalso; clear ha hc; omega
    · exfalso; clear ha hc; omega
    · exfalso; clear ha hc; omega
    · -- both act
      obtain ⟨ha, hC⟩ := ha
      obtain ⟨hc, hS⟩ := hc
      have hJ2 := rem_J hJ
      have ag := remC_ag h13
      have es : recS S 579 = S 579 := recS_out (by omega)
      generalize remC C = D at *
      generalize recS S = E at *
      have r1 : D 1 = C 1 := ag 1 (by omega) (by omega)
      have d3 : D 1 3 = C 1 3 := by rw [r1]
      have d4 : D 1 4 = C 1 4 := by rw [r1]
      have d5 : D 1 5 = C 1 5 := by rw [r1]
      have E0 : E 579 0 = D 1 4 := hJ2.1.1.1.1
      have E1 : E 579 1 = D 1 3 := hJ2.1.1.1.2.1
      have E2 : E 579 2 = D 1 5 := hJ2.1.1.1.2.2.1
      have E3 : E 579 3 = D 1 6 := hJ2.1.1.1.2.2.2
      have B4 := hJ2.1.1.2.1.2.1
      have B5 := hJ2.1.1.2.1.2.2.1
      have B6 := hJ2.1.1.2.1.2.2.2
      have rq : D (4 * u + 5) = C (4 * u + 5) := ag _ (by omega) (by omega)
      have hL := hJ2.life (u := u) (by omega)
      have ⟨⟨b0, b1, b2, b3, b4, b5, b6, b7, b8⟩, ⟨g0, g1, g2, g3, g4⟩, g5, g6, g7, g8, g9, g10⟩ := hL
      rw [rq] at b6
      have x13 : C' 1 3 = D 1 3 := by
        rw [hC]
        repeat rw [ap2]
        repeat (first | rw [if_pos (by omega)] | rw [if_neg (by omega)])
      have x14 : C' 1 4 = D 1 4 := by
        rw [hC]
        repeat rw [ap2]
        repeat (first | rw [if_pos (by omega)] | rw [if_neg (by omega)])
      have x15 : C' 1 5 = D 1 5 - 1 := by
        rw [hC]
        repeat rw [ap2]
        repeat (first | rw [if_pos (by omega)] | rw [if_neg (by omega)])
      have x16 : C' 1 6 = D 1 6 := by
        rw [hC]
        repeat rw [ap2]
        repeat (first | rw [if_pos (by omega)] | rw [if_neg (by omega)])
      have hout : ∀ a : Int, a ≠ 1 → (a < 4 * u + 5 ∨ 4 * u + 8 < a) → C' a = D a := fun a a1 a2 => by rw [hC, up2_ne _ _ _ (by omega), up2_ne _ _ _ (by omega)]
      have fout : ∀ k : Int, k ≠ 2 → k ≠ 3 → (k < 32 * u + 16 ∨ 32 * u + 48 ≤ k) → S' 579 k = E 579 k := fun k a1 a2 a3 => by rw [hS, rd_i (by omega), rd_i (by omega)]
      have fo : ∀ a : Int, a ≠ 579 → S' a = E a := fun a a1 => by rw [hS, up2_ne _ _ _ a1, up2_ne _ _ _ a1]
      have y2h : S' 579 2 = E 579 2 - 1 := by
        rw [hS]
        repeat rw [ap2]
        repeat (first | rw [if_pos (by omega)] | rw [if_neg (by omega)])
      have y3h : S' 579 3 = E 579 3 := by
        rw [hS]
        repeat rw [ap2]
        repeat (first | rw [if_pos (by omega)] | rw [if_neg (by omega)])
      have x6 : C' (4 * u + 5) 6 = D (4 * u + 5) 6 := by
        rw [hC]
        repeat rw [ap2]
        repeat (first | rw [if_pos (by omega)] | rw [if_neg (by omega)])
      have y19 : S' 579 (32 * u + 19) = E 579 (32 * u + 19) := by
        rw [hS]
        repeat rw [ap2]
        repeat (first | rw [if_pos (by omega)] | rw [if_neg (by omega)])
      rw [rq] at x6 g3
      have hLn : LfR C' (4 * u + 5) (S' 579) (32 * u) (D 1 4) := by
        refine LfR_f hL (fun j a1 a2 => ?_) (by omega) (fun r a1 a2 a3 => ?_) (by omega) (fun j a1 a2 => ?_)
        · rw [hC]
          repeat rw [ap2]
          repeat (first | rw [if_pos (by omega)] | rw [if_neg (by omega)])
        · rw [hS]
          repeat rw [ap2]
          repeat (first | rw [if_pos (by omega)] | rw [if_neg (by omega)])
        · rw [x6] at a2
          by_cases hj : j = t
          · -- case 0
            have y1 : C' (4 * u + 5 + 1) j = D (4 * u + 5 + 1) j := by
              rw [hC]
              repeat rw [ap2]
              repeat (first | rw [if_pos (by omega)] | rw [if_neg (by omega)])
            have y2 : C' (4 * u + 5 + 2) j = D (4 * u + 5 + 2) j := by
              rw [hC]
              repeat rw [ap2]
              repeat (first | rw [if_pos (by omega)] | rw [if_neg (by omega)])
            have y3 : C' (4 * u + 5 + 3) j = D 1 4 := by
              rw [hC]
              repeat rw [ap2]
              repeat (first | rw [if_pos (by omega)] | rw [if_neg (by omega)])
            have z1 : S' 579 (32 * u + 3 * j + 24) = E 579 (32 * u + 3 * j + 24) := by
              rw [hS]
              repeat rw [ap2]
              repeat (first | rw [if_pos (by omega)] | rw [if_neg (by omega)])
            have z2 : S' 579 (32 * u + 3 * j + 25) = E 579 (32 * u + 3 * j + 25) := by
              rw [hS]
              repeat rw [ap2]
              repeat (first | rw [if_pos (by omega)] | rw [if_neg (by omega)])
            have z3 : S' 579 (32 * u + 3 * j + 26) = E 579 0 := by
              rw [hS]
              repeat rw [ap2]
              repeat (first | rw [if_pos (by omega)] | rw [if_neg (by omega)])
            have k9 := g10 j a1 (by rw [rq]; omega)
            have b9 := b8 j a1 (by rw [rq]; omega)
            omega
          · -- case 1
            have y1 : C' (4 * u + 5 + 1) j = D (4 * u + 5 + 1) j := by
              rw [hC]
              repeat rw [ap2]
              repeat (first | rw [if_pos (by omega)] | rw [if_neg (by omega)])
            have y2 : C' (4 * u + 5 + 2) j = D (4 * u + 5 + 2) j := by
              rw [hC]
              repeat rw [ap2]
              repeat (first | rw [if_pos (by omega)] | rw [if_neg (by omega)])
            have y3 : C' (4 * u + 5 + 3) j = D (4 * u + 5 + 3) j := by
              rw [hC]
              repeat rw [ap2]
              repeat (first | rw [if_pos (by omega)] | rw [if_neg (by omega)])
            have z1 : S' 579 (32 * u + 3 * j + 24) = E 579 (32 * u + 3 * j + 24) := by
              rw [hS]
              repeat rw [ap2]
              repeat (first | rw [if_pos (by omega)] | rw [if_neg (by omega)])
            have z2 : S' 579 (32 * u + 3 * j + 25) = E 579 (32 * u + 3 * j + 25) := by
              rw [hS]
              repeat rw [ap2]
              repeat (first | rw [if_pos (by omega)] | rw [if_neg (by omega)])
            have z3 : S' 579 (32 * u + 3 * j + 26) = E 579 (32 * u + 3 * j + 26) := by
              rw [hS]
              repeat rw [ap2]
              repeat (first | rw [if_pos (by omega)] | rw [if_neg (by omega)])
            have k9 := g10 j a1 (by rw [rq]; omega)
            have b9 := b8 j a1 (by rw [rq]; omega)
            omega
      refine ⟨by rw [ha, hc, E2], act_J hJ2 (cur_one hJ2.1 ⟨by omega, by omega⟩ (hd_mod hJ2.1.1 x13 x14 (by omega) (by omega) (hout 2 (by omega) (by omega)) (hout 3 (by omega) (by omega)) (fun k a1 a2 a3 a4 => fout k a3 a4 (by omega)) (by omega) (by omega)) x13 x14 (fun a a1 a2 a3 => hout a (by omega) a3) (fun k a1 a2 => fout k (by omega) (by omega) a2) hLn) (fun a ha => hout a (by omega) (by omega)) (fun a ha => fo a (by omega)) (fun j _ _ => by rw [fo 578 (by omega)])⟩
set_option maxHeartbeats 8000000 in
theorem sm_correct {C C' S S' : gM} {N u t z v v' : Int} (hJ : JJ C S N) (hA : (fun v C' => ((¬ (0 ≤ u ∧ u < C 1 3 ∧ 0 ≤ t ∧ t < C (4 * u + 5) 6 ∧ 0 ≤ z ∧ z < 6)) ∧ v = -1 ∧ C' = C) ∨ (((0 ≤ u ∧ u < C 1 3 ∧ 0 ≤ t ∧ t < C (4 * u + 5) 6 ∧ 0 ≤ z ∧ z < 6) ∧ ¬ C (4 * u + 5) 2 = 3) ∧ v = -4 ∧ C' = C) ∨ (((0 ≤ u ∧ u < C 1 3 ∧ 0 ≤ t ∧ t < C (4 * u + 5) 6 ∧ 0 ≤ z ∧ z < 6) ∧ C (4 * u + 5) 2 = 3 ∧ C (4 * u + 6) t = z) ∧ v = -5 ∧ C' = C) ∨ (((0 ≤ u ∧ u < C 1 3 ∧ 0 ≤ t ∧ t < C (4 * u + 5) 6 ∧ 0 ≤ z ∧ z < 6) ∧ C (4 * u + 5) 2 = 3 ∧ ¬ C (4 * u + 6) t = z) ∧ v = remC C 1 6 + 1 ∧ C' = up2 (up2 (remC C) (4 * u + 6) t z) 1 6 (remC C 1 6 + 1))) v C') (hB : (fun v S' => ((¬ (0 ≤ u ∧ u < S 579 1 ∧ 0 ≤ t ∧ t < S 579 (32 * u + 19) ∧ 0 ≤ z ∧ z < 6)) ∧ v = -1 ∧ S' = S) ∨ (((0 ≤ u ∧ u < S 579 1 ∧ 0 ≤ t ∧ t < S 579 (32 * u + 19) ∧ 0 ≤ z ∧ z < 6) ∧ ¬ S 579 (32 * u + 18) = 3) ∧ v = -4 ∧ S' = S) ∨ (((0 ≤ u ∧ u < S 579 1 ∧ 0 ≤ t ∧ t < S 579 (32 * u + 19) ∧ 0 ≤ z ∧ z < 6) ∧ S 579 (32 * u + 18) = 3 ∧ S 579 (32 * u + 3 * t + 24) = z) ∧ v = -5 ∧ S' = S) ∨ (((0 ≤ u ∧ u < S 579 1 ∧ 0 ≤ t ∧ t < S 579 (32 * u + 19) ∧ 0 ≤ z ∧ z < 6) ∧ S 579 (32 * u + 18) = 3 ∧ ¬ S 579 (32 * u + 3 * t + 24) = z) ∧ v = recS S 579 3 + 1 ∧ S' = up2 (up2 (recS S) 579 (32 * u + 3 * t + 24) z) 579 3 (recS S 579 3 + 1))) v' S') : v = v' ∧ JJ C' S' (N + 1) := by
  have e0 : S 579 0 = C 1 4 := hJ.1.1.1.1
  have e1 : S 579 1 = C 1 3 := hJ.1.1.1.2.1
  have e2 : S 579 2 = C 1 5 := hJ.1.1.1.2.2.1
  have h13 := hJ.1.1.2.1.1
  have b5 := hJ.1.1.2.1.2.2.1
  have hst : 0 ≤ u → u < C 1 3 → S 579 (32 * u + 18) = C (4 * u + 5) 2 := fun x1 x2 => (hJ.life ⟨x1, x2⟩).2.1.2.2.1
  have hsr : 0 ≤ u → u < C 1 3 → 0 ≤ C (4 * u + 5) 2 ∧ C (4 * u + 5) 2 ≤ 3 := fun x1 x2 => (hJ.life ⟨x1, x2⟩).1.2.2.1
  have hsz : 0 ≤ u → u < C 1 3 → S 579 (32 * u + 19) = C (4 * u + 5) 6 := fun x1 x2 => (hJ.life ⟨x1, x2⟩).2.1.2.2.2.1
  have hsc : 0 ≤ u → u < C 1 3 → 0 ≤ t → t < C (4 * u + 5) 6 → S 579 (32 * u + 3 * t + 24) = C (4 * u + 6) t := fun x1 x2 x3 x4 => by have h9 := ((hJ.life ⟨x1, x2⟩).2.2.2.2.2.2.2 t x3 x4).1; rwa [show 4 * u + 5 + 1 = 4 * u + 6 by omega] at h9
  rcases hA with ⟨a, ha⟩ | ⟨a, ha⟩ | ⟨a, ha⟩ | ⟨a, ha⟩
  · rcases hB with ⟨c, hc⟩ | ⟨c, hc⟩ | ⟨c, hc⟩ | ⟨c, hc⟩
    · exact ⟨by rw [ha.1, hc.1], by rw [ha.2, hc.2]; exact JJ_mono hJ⟩
    · exfalso; clear ha hc; omega
    · exfalso; clear ha hc; omega
    · exfalso; clear ha hc; omega
  · rcases hB with ⟨c, hc⟩ | ⟨c, hc⟩ | ⟨c, hc⟩ | ⟨c, hc⟩
    · exfalso; clear ha hc; omega
    · exact ⟨by rw [ha.1, hc.1], by rw [ha.2, hc.2]; exact JJ_mono hJ⟩
    · exfalso; clear ha hc; omega
    · exfalso; clear ha hc; omega
  · rcases hB with ⟨c, hc⟩ | ⟨c, hc⟩ | ⟨c, hc⟩ | ⟨c, hc⟩
    · exfalso; clear ha hc; omega
    · exfalso; clear ha hc; omega
    · exact ⟨by rw [ha.1, hc.1], by rw [ha.2, hc.2]; exact JJ_mono hJ⟩
    · exfalso; clear ha hc; omega
  · rcases hB with ⟨c, hc⟩ | ⟨c, hc⟩ | ⟨c, hc⟩ | ⟨c, hc⟩
    · exfalso; clear ha hc; omega
    · exfalso; clear ha hc; omega
    · exfalso; clear ha hc; omega
    · -- both act
      obtain ⟨ha, hC⟩ := ha
      obtain ⟨hc, hS⟩ := hc
      have hJ2 := rem_J hJ
      have ag := remC_ag h13
      have es : recS S 579 = S 579 := recS_out (by omega)
      generalize remC C = D at *
      generalize recS S = E at *
      have r1 : D 1 = C 1 := ag 1 (by omega) (by omega)
      have d3 : D 1 3 = C 1 3 := by rw [r1]
      have d4 : D 1 4 = C 1 4 := by rw [r1]
      have d5 : D 1 5 = C 1 5 := by rw [r1]
      have E0 : E 579 0 = D 1 4 := hJ2.1.1.1.1
      have E1 : E 579 1 = D 1 3 := hJ2.1.1.1.2.1
      have E2 : E 579 2 = D 1 5 := hJ2.1.1.1.2.2.1
      have E3 : E 579 3 = D 1 6 := hJ2.1.1.1.2.2.2
      have B4 := hJ2.1.1.2.1.2.1
      have B5 := hJ2.1.1.2.1.2.2.1
      have B6 := hJ2.1.1.2.1.2.2.2
      have rq : D (4 * u + 5) = C (4 * u + 5) := ag _ (by omega) (by omega)
      have hL := hJ2.life (u := u) (by omega)
      have ⟨⟨b0, b1, b2, b3, b4, b5, b6, b7, b8⟩, ⟨g0, g1, g2, g3, g4⟩, g5, g6, g7, g8, g9, g10⟩ := hL
      rw [rq] at b6
      have x13 : C' 1 3 = D 1 3 := by
        rw [hC]
        repeat rw [ap2]
        repeat (first | rw [if_pos (by omega)] | rw [if_neg (by omega)])
      have x14 : C' 1 4 = D 1 4 := by
        rw [hC]
        repeat rw [ap2]
        repeat (first | rw [if_pos (by omega)] | rw [if_neg (by omega)])
      have x15 : C' 1 5 = D 1 5 := by
        rw [hC]
        repeat rw [ap2]
        repeat (first | rw [if_pos (by omega)] | rw [if_neg (by omega)])
      have x16 : C' 1 6 = D 1 6 + 1 := by
        rw [hC]
        repeat rw [ap2]
        repeat (first | rw [if_pos (by omega)] | rw [if_neg (by omega)])
      have hout : ∀ a : Int, a ≠ 1 → (a < 4 * u + 5 ∨ 4 * u + 8 < a) → C' a = D a := fun a a1 a2 => by rw [hC, up2_ne _ _ _ (by omega), up2_ne _ _ _ (by omega)]
      have fout : ∀ k : Int, k ≠ 2 → k ≠ 3 → (k < 32 * u + 16 ∨ 32 * u + 48 ≤ k) → S' 579 k = E 579 k := fun k a1 a2 a3 => by rw [hS, rd_i (by omega), rd_i (by omega)]
      have fo : ∀ a : Int, a ≠ 579 → S' a = E a := fun a a1 => by rw [hS, up2_ne _ _ _ a1, up2_ne _ _ _ a1]
      have y2h : S' 579 2 = E 579 2 := by
        rw [hS]
        repeat rw [ap2]
        repeat (first | rw [if_pos (by omega)] | rw [if_neg (by omega)])
      have y3h : S' 579 3 = E 579 3 + 1 := by
        rw [hS]
        repeat rw [ap2]
        repeat (first | rw [if_pos (by omega)] | rw [if_neg (by omega)])
      have x6 : C' (4 * u + 5) 6 = D (4 * u + 5) 6 := by
        rw [hC]
        repeat rw [ap2]
        repeat (first | rw [if_pos (by omega)] | rw [if_neg (by omega)])
      have y19 : S' 579 (32 * u + 19) = E 579 (32 * u + 19) := by
        rw [hS]
        repeat rw [ap2]
        repeat (first | rw [if_pos (by omega)] | rw [if_neg (by omega)])
      rw [rq] at x6 g3
      have hLn : LfR C' (4 * u + 5) (S' 579) (32 * u) (D 1 4) := by
        refine LfR_f hL (fun j a1 a2 => ?_) (by omega) (fun r a1 a2 a3 => ?_) (by omega) (fun j a1 a2 => ?_)
        · rw [hC]
          repeat rw [ap2]
          repeat (first | rw [if_pos (by omega)] | rw [if_neg (by omega)])
        · rw [hS]
          repeat rw [ap2]
          repeat (first | rw [if_pos (by omega)] | rw [if_neg (by omega)])
        · rw [x6] at a2
          by_cases hj : j = t
          · -- case 0
            have y1 : C' (4 * u + 5 + 1) j = z := by
              rw [hC]
              repeat rw [ap2]
              repeat (first | rw [if_pos (by omega)] | rw [if_neg (by omega)])
            have y2 : C' (4 * u + 5 + 2) j = D (4 * u + 5 + 2) j := by
              rw [hC]
              repeat rw [ap2]
              repeat (first | rw [if_pos (by omega)] | rw [if_neg (by omega)])
            have y3 : C' (4 * u + 5 + 3) j = D (4 * u + 5 + 3) j := by
              rw [hC]
              repeat rw [ap2]
              repeat (first | rw [if_pos (by omega)] | rw [if_neg (by omega)])
            have z1 : S' 579 (32 * u + 3 * j + 24) = z := by
              rw [hS]
              repeat rw [ap2]
              repeat (first | rw [if_pos (by omega)] | rw [if_neg (by omega)])
            have z2 : S' 579 (32 * u + 3 * j + 25) = E 579 (32 * u + 3 * j + 25) := by
              rw [hS]
              repeat rw [ap2]
              repeat (first | rw [if_pos (by omega)] | rw [if_neg (by omega)])
            have z3 : S' 579 (32 * u + 3 * j + 26) = E 579 (32 * u + 3 * j + 26) := by
              rw [hS]
              repeat rw [ap2]
              repeat (first | rw [if_pos (by omega)] | rw [if_neg (by omega)])
            have k9 := g10 j a1 (by rw [rq]; omega)
            have b9 := b8 j a1 (by rw [rq]; omega)
            omega
          · -- case 1
            have y1 : C' (4 * u + 5 + 1) j = D (4 * u + 5 + 1) j := by
              rw [hC]
              repeat rw [ap2]
              repeat (first | rw [if_pos (by omega)] | rw [if_neg (by omega)])
            have y2 : C' (4 * u + 5 + 2) j = D (4 * u + 5 + 2) j := by
              rw [hC]
              repeat rw [ap2]
              repeat (first | rw [if_pos (by omega)] | rw [if_neg (by omega)])
            have y3 : C' (4 * u + 5 + 3) j = D (4 * u + 5 + 3) j := by
              rw [hC]
              repeat rw [ap2]
              repeat (first | rw [if_pos (by omega)] | rw [if_neg (by omega)])
            have z1 : S' 579 (32 * u + 3 * j + 24) = E 579 (32 * u + 3 * j + 24) := by
              rw [hS]
              repeat rw [ap2]
              repeat (first | rw [if_pos (by omega)] | rw [if_neg (by omega)])
            have z2 : S' 579 (32 * u + 3 * j + 25) = E 579 (32 * u + 3 * j + 25) := by
              rw [hS]
              repeat rw [ap2]
              repeat (first | rw [if_pos (by omega)] | rw [if_neg (by omega)])
            have z3 : S' 579 (32 * u + 3 * j + 26) = E 579 (32 * u + 3 * j + 26) := by
              rw [hS]
              repeat rw [ap2]
              repeat (first | rw [if_pos (by omega)] | rw [if_neg (by omega)])
            have k9 := g10 j a1 (by rw [rq]; omega)
            have b9 := b8 j a1 (by rw [rq]; omega)
            omega
      refine ⟨by rw [ha, hc, E3], act_J hJ2 (cur_one hJ2.1 ⟨by omega, by omega⟩ (hd_mod hJ2.1.1 x13 x14 (by omega) (by omega) (hout 2 (by omega) (by omega)) (hout 3 (by omega) (by omega)) (fun k a1 a2 a3 a4 => fout k a3 a4 (by omega)) (by omega) (by omega)) x13 x14 (fun a a1 a2 a3 => hout a (by omega) a3) (fun k a1 a2 => fout k (by omega) (by omega) a2) hLn) (fun a ha => hout a (by omega) (by omega)) (fun a ha => fo a (by omega)) (fun j _ _ => by rw [fo 578 (by omega)])⟩
