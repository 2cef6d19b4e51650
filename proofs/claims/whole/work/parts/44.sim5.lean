set_option maxHeartbeats 8000000 in
theorem sm_strike {C C' S S' : gM} {N u t v v' : Int} (hJ : JJ C S N) (hA : (fun v C' => ((¬ (0 ≤ u ∧ u < C 1 3 ∧ 0 ≤ t ∧ t < C (4 * u + 5) 6)) ∧ v = -1 ∧ C' = C) ∨ (((0 ≤ u ∧ u < C 1 3 ∧ 0 ≤ t ∧ t < C (4 * u + 5) 6) ∧ C (4 * u + 5) 2 = 3) ∧ v = -4 ∧ C' = C) ∨ (((0 ≤ u ∧ u < C 1 3 ∧ 0 ≤ t ∧ t < C (4 * u + 5) 6) ∧ ¬ C (4 * u + 5) 2 = 3) ∧ v = remC C (4 * u + 5) 6 - 1 ∧ C' = up2 (shl3 (remC C) (4 * u + 5) t (remC C (4 * u + 5) 6 - 1)) (4 * u + 5) 6 (remC C (4 * u + 5) 6 - 1))) v C') (hB : (fun v S' => ((¬ (0 ≤ u ∧ u < S 579 1 ∧ 0 ≤ t ∧ t < S 579 (32 * u + 19))) ∧ v = -1 ∧ S' = S) ∨ (((0 ≤ u ∧ u < S 579 1 ∧ 0 ≤ t ∧ t < S 579 (32 * u + 19)) ∧ S 579 (32 * u + 18) = 3) ∧ v = -4 ∧ S' = S) ∨ (((0 ≤ u ∧ u < S 579 1 ∧ 0 ≤ t ∧ t < S 579 (32 * u + 19)) ∧ ¬ S 579 (32 * u + 18) = 3) ∧ v = S 579 (32 * u + 19) - 1 ∧ S' = shM (up2 (recS S) 579 (32 * u + 19) (recS S 579 (32 * u + 19) - 1)) (32 * u + 3 * t + 24) (32 * u + 3 * S 579 (32 * u + 19) + 21))) v' S') : v = v' ∧ JJ C' S' (N + 1) := by
  have e0 : S 579 0 = C 1 4 := hJ.1.1.1.1
  have e1 : S 579 1 = C 1 3 := hJ.1.1.1.2.1
  have e2 : S 579 2 = C 1 5 := hJ.1.1.1.2.2.1
  have h13 := hJ.1.1.2.1.1
  have b5 := hJ.1.1.2.1.2.2.1
  have hst : 0 ≤ u → u < C 1 3 → S 579 (32 * u + 18) = C (4 * u + 5) 2 := fun x1 x2 => (hJ.life ⟨x1, x2⟩).2.1.2.2.1
  have hsr : 0 ≤ u → u < C 1 3 → 0 ≤ C (4 * u + 5) 2 ∧ C (4 * u + 5) 2 ≤ 3 := fun x1 x2 => (hJ.life ⟨x1, x2⟩).1.2.2.1
  have hsz : 0 ≤ u → u < C 1 3 → S 579 (32 * u + 19) = C (4 * u + 5) 6 := fun x1 x2 => (hJ.life ⟨x1, x2⟩).2.1.2.2.2.1
  rcases hA with ⟨a, ha⟩ | ⟨a, ha⟩ | ⟨a, ha⟩
  · rcases hB with ⟨c, hc⟩ | ⟨c, hc⟩ | ⟨c, hc⟩
    · exact ⟨by rw [ha.1, hc.1], by rw [ha.2, hc.2]; exact JJ_mono hJ⟩
    · exfalso; clear ha hc; omega
    · exfalso; clear ha hc; omega
  · rcases hB with ⟨c, hc⟩ | ⟨c, hc⟩ | ⟨c, hc⟩
    · exfalso; clear ha hc; omega
    · exact ⟨by rw [ha.1, hc.1], by rw [ha.2, hc.2]; exact JJ_mono hJ⟩
    · exfalso; clear ha hc; omega
  · rcases hB with ⟨c, hc⟩ | ⟨c, hc⟩ | ⟨c, hc⟩
    · exfalso; clear ha hc; omega
    · exfalso; clear ha hc; omega
    · -- both act
      obtain ⟨ha, hC⟩ := ha
      obtain ⟨hc, hS⟩ := hc
      have hJ2 := rem_J hJ
      have ag := remC_ag h13
      have es : recS S 579 = S 579 := recS_out (by omega)
      generalize remC C = D at *
      generalize recS S = E at *
      have r1 : D 1 = C 1 := ag 1 (by omega) (by omega)
      have d3 : D 1 3 = C 1 3 := by rw [r1]
      have d4 : D 1 4 = C 1 4 := by rw [r1]
      have d5 : D 1 5 = C 1 5 := by rw [r1]
      have E0 : E 579 0 = D 1 4 := hJ2.1.1.1.1
      have E1 : E 579 1 = D 1 3 := hJ2.1.1.1.2.1
      have E2 : E 579 2 = D 1 5 := hJ2.1.1.1.2.2.1
      have E3 : E 579 3 = D 1 6 := hJ2.1.1.1.2.2.2
      have B4 := hJ2.1.1.2.1.2.1
      have B5 := hJ2.1.1.2.1.2.2.1
      have B6 := hJ2.1.1.2.1.2.2.2
      have rq : D (4 * u + 5) = C (4 * u + 5) := ag _ (by omega) (by omega)
      have hL := hJ2.life (u := u) (by omega)
      have ⟨⟨b0, b1, b2, b3, b4, b5, b6, b7, b8⟩, ⟨g0, g1, g2, g3, g4⟩, g5, g6, g7, g8, g9, g10⟩ := hL
      rw [rq] at b6
      obtain ⟨m, hm⟩ : ∃ m : Int, D (4 * u + 5) 6 = m := ⟨_, rfl⟩
      have hm' : E 579 (32 * u + 19) = m := by rw [g3]; exact hm
      have hm8 : C (4 * u + 5) 6 = m := by rw [← rq]; exact hm
      have hmS : S 579 (32 * u + 19) = m := by rw [hsz (by omega) (by omega)]; exact hm8
      rw [hm] at ha hC
      rw [hm', hmS] at hS
      rw [hmS] at hc
      have x13 : C' 1 3 = D 1 3 := by rw [hC, rd_k (by omega), shl3_out _ (by omega)]
      have x14 : C' 1 4 = D 1 4 := by rw [hC, rd_k (by omega), shl3_out _ (by omega)]
      have x15 : C' 1 5 = D 1 5 := by rw [hC, rd_k (by omega), shl3_out _ (by omega)]
      have x16 : C' 1 6 = D 1 6 := by rw [hC, rd_k (by omega), shl3_out _ (by omega)]
      have hout : ∀ a : Int, a ≠ 1 → (a < 4 * u + 5 ∨ 4 * u + 8 < a) → C' a = D a := fun a a1 a2 => by
        rw [hC, up2_ne _ _ _ (by omega)]
        funext j
        exact shl3_out _ (by omega)
      have fout : ∀ k : Int, (k < 32 * u + 3 * t + 24 ∨ 32 * u + 3 * m + 21 ≤ k) → k ≠ 32 * u + 19 → S' 579 k = E 579 k := fun k a1 a2 => by rw [hS, shM_lt a1, rd_i a2]
      have fo : ∀ a : Int, a ≠ 579 → S' a = E a := fun a a1 => by rw [hS, shM_ne a1, up2_ne _ _ _ a1]
      have x6 : C' (4 * u + 5) 6 = m - 1 := by rw [hC, rd_hit rfl rfl]
      have y19 : S' 579 (32 * u + 19) = m - 1 := by rw [hS, shM_lt (by omega), rd_hit rfl rfl]
      have fin : ∀ k : Int, 32 * u + 3 * t + 24 ≤ k → k < 32 * u + 3 * m + 21 → S' 579 k = E 579 (k + 3) := fun k a1 a2 => by
        rw [hS]
        unfold shM
        rw [if_pos rfl, if_pos ⟨a1, a2⟩, rd_i (by omega)]
      have hLn : LfR C' (4 * u + 5) (S' 579) (32 * u) (D 1 4) := by
        refine LfR_f hL (fun j a1 a2 => ?_) (by omega) (fun r a1 a2 a3 => fout _ (by omega) (by omega)) (by omega) (fun j a1 a2 => ?_)
        · rw [hC, rd_i (by omega), shl3_out _ (by omega)]
        · rw [x6] at a2
          by_cases hj : t ≤ j
          · have k9 := g10 (j + 1) (by omega) (by omega)
            have b9 := b8 (j + 1) (by omega) (by omega)
            have y1 : C' (4 * u + 5 + 1) j = D (4 * u + 5 + 1) (j + 1) := by rw [hC, rd_k (by omega), shl3_in _ (by omega), if_pos (by omega)]
            have y2 : C' (4 * u + 5 + 2) j = D (4 * u + 5 + 2) (j + 1) := by rw [hC, rd_k (by omega), shl3_in _ (by omega), if_pos (by omega)]
            have y3 : C' (4 * u + 5 + 3) j = D (4 * u + 5 + 3) (j + 1) := by rw [hC, rd_k (by omega), shl3_in _ (by omega), if_pos (by omega)]
            have z1 : S' 579 (32 * u + 3 * j + 24) = E 579 (32 * u + 3 * (j + 1) + 24) := by rw [fin _ (by omega) (by omega), show 32 * u + 3 * j + 24 + 3 = 32 * u + 3 * (j + 1) + 24 by omega]
            have z2 : S' 579 (32 * u + 3 * j + 25) = E 579 (32 * u + 3 * (j + 1) + 25) := by rw [fin _ (by omega) (by omega), show 32 * u + 3 * j + 25 + 3 = 32 * u + 3 * (j + 1) + 25 by omega]
            have z3 : S' 579 (32 * u + 3 * j + 26) = E 579 (32 * u + 3 * (j + 1) + 26) := by rw [fin _ (by omega) (by omega), show 32 * u + 3 * j + 26 + 3 = 32 * u + 3 * (j + 1) + 26 by omega]
            omega
          · have k9 := g10 j a1 (by omega)
            have b9 := b8 j a1 (by omega)
            have y1 : C' (4 * u + 5 + 1) j = D (4 * u + 5 + 1) j := by rw [hC, rd_k (by omega), shl3_in _ (by omega), if_neg (by omega)]
            have y2 : C' (4 * u + 5 + 2) j = D (4 * u + 5 + 2) j := by rw [hC, rd_k (by omega), shl3_in _ (by omega), if_neg (by omega)]
            have y3 : C' (4 * u + 5 + 3) j = D (4 * u + 5 + 3) j := by rw [hC, rd_k (by omega), shl3_in _ (by omega), if_neg (by omega)]
            have z1 : S' 579 (32 * u + 3 * j + 24) = E 579 (32 * u + 3 * j + 24) := fout _ (by omega) (by omega)
            have z2 : S' 579 (32 * u + 3 * j + 25) = E 579 (32 * u + 3 * j + 25) := fout _ (by omega) (by omega)
            have z3 : S' 579 (32 * u + 3 * j + 26) = E 579 (32 * u + 3 * j + 26) := fout _ (by omega) (by omega)
            omega
      have f2 := fout 2 (by omega) (by omega)
      have f3 := fout 3 (by omega) (by omega)
      refine ⟨by rw [ha, hc], act_J hJ2 (cur_one hJ2.1 ⟨by omega, by omega⟩ (hd_mod hJ2.1.1 x13 x14 (by omega) (by omega) (hout 2 (by omega) (by omega)) (hout 3 (by omega) (by omega)) (fun k a1 a2 a3 a4 => fout k (by omega) (by omega)) (by omega) (by omega)) x13 x14 (fun a a1 a2 a3 => hout a (by omega) a3) (fun k a1 a2 => fout k (by omega) (by omega)) hLn) (fun a ha => hout a (by omega) (by omega)) (fun a ha => fo a (by omega)) (fun j _ _ => by rw [fo 578 (by omega)])⟩
set_option maxHeartbeats 8000000 in
theorem sm_trust {C C' S S' : gM} {N u t v v' : Int} (hJ : JJ C S N) (hA : (fun v C' => ((¬ (0 ≤ u ∧ u < 6)) ∧ v = -1 ∧ C' = C) ∨ (((0 ≤ u ∧ u < 6) ∧ ¬ (0 ≤ t ∧ t ≤ 100)) ∧ v = -2 ∧ C' = C) ∨ (((0 ≤ u ∧ u < 6) ∧ (0 ≤ t ∧ t ≤ 100) ∧ C 3 u = t) ∧ v = -5 ∧ C' = C) ∨ (((0 ≤ u ∧ u < 6) ∧ (0 ≤ t ∧ t ≤ 100) ∧ ¬ C 3 u = t) ∧ v = C 3 u ∧ C' = up2 (remC C) 3 u t)) v C') (hB : (fun v S' => ((¬ (0 ≤ u ∧ u < 6)) ∧ v = -1 ∧ S' = S) ∨ (((0 ≤ u ∧ u < 6) ∧ ¬ (0 ≤ t ∧ t ≤ 100)) ∧ v = -2 ∧ S' = S) ∨ (((0 ≤ u ∧ u < 6) ∧ (0 ≤ t ∧ t ≤ 100) ∧ S 579 (u + 9) = t) ∧ v = -5 ∧ S' = S) ∨ (((0 ≤ u ∧ u < 6) ∧ (0 ≤ t ∧ t ≤ 100) ∧ ¬ S 579 (u + 9) = t) ∧ v = S 579 (u + 9) ∧ S' = up2 (recS S) 579 (u + 9) t)) v' S') : v = v' ∧ JJ C' S' (N + 1) := by
  have e0 : S 579 0 = C 1 4 := hJ.1.1.1.1
  have e1 : S 579 1 = C 1 3 := hJ.1.1.1.2.1
  have e2 : S 579 2 = C 1 5 := hJ.1.1.1.2.2.1
  have h13 := hJ.1.1.2.1.1
  have b5 := hJ.1.1.2.1.2.2.1
  have htr : 0 ≤ u → u < 6 → S 579 (u + 9) = C 3 u := fun x1 x2 => (hJ.1.1.2.2.2.2 u ⟨x1, by omega⟩).1
  rcases hA with ⟨a, ha⟩ | ⟨a, ha⟩ | ⟨a, ha⟩ | ⟨a, ha⟩
  · rcases hB with ⟨c, hc⟩ | ⟨c, hc⟩ | ⟨c, hc⟩ | ⟨c, hc⟩
    · exact ⟨by rw [ha.1, hc.1], by rw [ha.2, hc.2]; exact JJ_mono hJ⟩
    · exfalso; clear ha hc; omega
    · exfalso; clear ha hc; omega
    · exfalso; clear ha hc; omega
  · rcases hB with ⟨c, hc⟩ | ⟨c, hc⟩ | ⟨c, hc⟩ | ⟨c, hc⟩
    · exfalso; clear ha hc; omega
    · exact ⟨by rw [ha.1, hc.1], by rw [ha.2, hc.2]; exact JJ_mono hJ⟩
    · exfalso; clear ha hc; omega
    · exfalso; clear ha hc; omega
  · rcases hB with ⟨c, hc⟩ | ⟨c, hc⟩ | ⟨c, hc⟩ | ⟨c, hc⟩
    · exfalso; clear ha hc; omega
    · exfalso; clear ha hc; omega
    · exact ⟨by rw [ha.1, hc.1], by rw [ha.2, hc.2]; exact JJ_mono hJ⟩
    · exfalso; clear ha hc; omega
  · rcases hB with ⟨c, hc⟩ | ⟨c, hc⟩ | ⟨c, hc⟩ | ⟨c, hc⟩
    · exfalso; clear ha hc; omega
    · exfalso; clear ha hc; omega
    · exfalso; clear ha hc; omega
    · -- both act
      obtain ⟨ha, hC⟩ := ha
      obtain ⟨hc, hS⟩ := hc
      have hJ2 := rem_J hJ
      have ag := remC_ag h13
      have es : recS S 579 = S 579 := recS_out (by omega)
      generalize remC C = D at *
      generalize recS S = E at *
      have r1 : D 1 = C 1 := ag 1 (by omega) (by omega)
      have d3 : D 1 3 = C 1 3 := by rw [r1]
      have d4 : D 1 4 = C 1 4 := by rw [r1]
      have d5 : D 1 5 = C 1 5 := by rw [r1]
      have E0 : E 579 0 = D 1 4 := hJ2.1.1.1.1
      have E1 : E 579 1 = D 1 3 := hJ2.1.1.1.2.1
      have E2 : E 579 2 = D 1 5 := hJ2.1.1.1.2.2.1
      have E3 : E 579 3 = D 1 6 := hJ2.1.1.1.2.2.2
      have B4 := hJ2.1.1.2.1.2.1
      have B5 := hJ2.1.1.2.1.2.2.1
      have B6 := hJ2.1.1.2.1.2.2.2
      have hout : ∀ a : Int, a ≠ 3 → C' a = D a := fun a a1 => by rw [hC, up2_ne _ _ _ a1]
      have fout : ∀ k : Int, k ≠ u + 9 → S' 579 k = E 579 k := fun k a1 => by rw [hS, rd_i a1]
      have fo : ∀ a : Int, a ≠ 579 → S' a = E a := fun a a1 => by rw [hS, up2_ne _ _ _ a1]
      have hH : HdR C' 1 (S' 579) (N + 1) := by
        have ⟨h1, h2, h3, h4, h5⟩ := hJ2.1.1
        have c2' : C' (1 + 1) = D (1 + 1) := hout 2 (by omega)
        unfold HdR
        rw [c2', hout 1 (by omega), fout 0 (by omega), fout 1 (by omega), fout 2 (by omega), fout 3 (by omega), fout 4 (by omega), fout 5 (by omega), fout 6 (by omega), fout 7 (by omega), fout 8 (by omega)]
        refine ⟨h1, ⟨h2.1, by omega, h2.2.2.1, by omega⟩, h3, h4, fun s hs => ?_⟩
        by_cases hsu : s = u
        · subst hsu
          rw [show S' 579 (s + 9) = t by rw [hS, rd_hit rfl rfl], show C' (1 + 2) s = t by rw [hC]; exact rd_hit rfl rfl]
          exact ⟨rfl, by omega, by omega⟩
        · rw [fout _ (by omega), show C' (1 + 2) s = D (1 + 2) s by rw [hC]; exact rd_i hsu]
          exact h5 s hs
      have hT : S 579 (u + 9) = C 3 u := (hJ.1.1.2.2.2.2 u ⟨by omega, by omega⟩).1
      refine ⟨by rw [ha, hc, hT], act_J hJ2 (cur_hd hJ2.1 hH (by rw [hout 1 (by omega)]) (by rw [hout 1 (by omega)]) (fun a a1 a2 => hout a (by omega)) (fun k a1 => fout k (by omega))) (fun a ha => hout a (by omega)) (fun a ha => fo a (by omega)) (fun j _ _ => by rw [fo 578 (by omega)])⟩
set_option maxHeartbeats 8000000 in
theorem sm_set {C C' S S' : gM} {N u t v v' : Int} (hJ : JJ C S N) (hA : (fun v C' => ((¬ ((u = 0 ∧ 1 ≤ t ∧ t ≤ 24) ∨ (u = 1 ∧ 10 ≤ t ∧ t ≤ 200) ∨ (u = 2 ∧ 0 ≤ t ∧ t ≤ 100) ∨ (u = 3 ∧ 1 ≤ t ∧ t ≤ 3) ∨ (u = 4 ∧ 1 ≤ t ∧ t ≤ 9))) ∧ v = -2 ∧ C' = C) ∨ ((((u = 0 ∧ 1 ≤ t ∧ t ≤ 24) ∨ (u = 1 ∧ 10 ≤ t ∧ t ≤ 200) ∨ (u = 2 ∧ 0 ≤ t ∧ t ≤ 100) ∨ (u = 3 ∧ 1 ≤ t ∧ t ≤ 3) ∨ (u = 4 ∧ 1 ≤ t ∧ t ≤ 9)) ∧ C 2 u = t) ∧ v = -5 ∧ C' = C) ∨ ((((u = 0 ∧ 1 ≤ t ∧ t ≤ 24) ∨ (u = 1 ∧ 10 ≤ t ∧ t ≤ 200) ∨ (u = 2 ∧ 0 ≤ t ∧ t ≤ 100) ∨ (u = 3 ∧ 1 ≤ t ∧ t ≤ 3) ∨ (u = 4 ∧ 1 ≤ t ∧ t ≤ 9)) ∧ ¬ C 2 u = t) ∧ v = C 2 u ∧ C' = up2 (remC C) 2 u t)) v C') (hB : (fun v S' => ((¬ ((u = 0 ∧ 1 ≤ t ∧ t ≤ 24) ∨ (u = 1 ∧ 10 ≤ t ∧ t ≤ 200) ∨ (u = 2 ∧ 0 ≤ t ∧ t ≤ 100) ∨ (u = 3 ∧ 1 ≤ t ∧ t ≤ 3) ∨ (u = 4 ∧ 1 ≤ t ∧ t ≤ 9))) ∧ v = -2 ∧ S' = S) ∨ ((((u = 0 ∧ 1 ≤ t ∧ t ≤ 24) ∨ (u = 1 ∧ 10 ≤ t ∧ t ≤ 200) ∨ (u = 2 ∧ 0 ≤ t ∧ t ≤ 100) ∨ (u = 3 ∧ 1 ≤ t ∧ t ≤ 3) ∨ (u = 4 ∧ 1 ≤ t ∧ t ≤ 9)) ∧ S 579 (u + 4) = t) ∧ v = -5 ∧ S' = S) ∨ ((((u = 0 ∧ 1 ≤ t ∧ t ≤ 24) ∨ (u = 1 ∧ 10 ≤ t ∧ t ≤ 200) ∨ (u = 2 ∧ 0 ≤ t ∧ t ≤ 100) ∨ (u = 3 ∧ 1 ≤ t ∧ t ≤ 3) ∨ (u = 4 ∧ 1 ≤ t ∧ t ≤ 9)) ∧ ¬ S 579 (u + 4) = t) ∧ v = S 579 (u + 4) ∧ S' = up2 (recS S) 579 (u + 4) t)) v' S') : v = v' ∧ JJ C' S' (N + 1) := by
  have e0 : S 579 0 = C 1 4 := hJ.1.1.1.1
  have e1 : S 579 1 = C 1 3 := hJ.1.1.1.2.1
  have e2 : S 579 2 = C 1 5 := hJ.1.1.1.2.2.1
  have h13 := hJ.1.1.2.1.1
  have b5 := hJ.1.1.2.1.2.2.1
  have hsv : 0 ≤ u → u < 5 → S 579 (u + 4) = C 2 u := fun x1 x2 => by
    have h3a : S 579 4 = C 2 0 ∧ S 579 5 = C 2 1 ∧ S 579 6 = C 2 2 ∧ S 579 7 = C 2 3 ∧ S 579 8 = C 2 4 := hJ.1.1.2.2.1
    rcases (show u = 0 ∨ u = 1 ∨ u = 2 ∨ u = 3 ∨ u = 4 by omega) with g | g | g | g | g <;> subst g
    · exact h3a.1
    · exact h3a.2.1
    · exact h3a.2.2.1
    · exact h3a.2.2.2.1
    · exact h3a.2.2.2.2
  rcases hA with ⟨a, ha⟩ | ⟨a, ha⟩ | ⟨a, ha⟩
  · rcases hB with ⟨c, hc⟩ | ⟨c, hc⟩ | ⟨c, hc⟩
    · exact ⟨by rw [ha.1, hc.1], by rw [ha.2, hc.2]; exact JJ_mono hJ⟩
    · exfalso; clear ha hc; omega
    · exfalso; clear ha hc; omega
  · rcases hB with ⟨c, hc⟩ | ⟨c, hc⟩ | ⟨c, hc⟩
    · exfalso; clear ha hc; omega
    · exact ⟨by rw [ha.1, hc.1], by rw [ha.2, hc.2]; exact JJ_mono hJ⟩
    · exfalso; clear ha hc; omega
  · rcases hB with ⟨c, hc⟩ | ⟨c, hc⟩ | ⟨c, hc⟩
    · exfalso; clear ha hc; omega
    · exfalso; clear ha hc; omega
    · -- both act
      obtain ⟨ha, hC⟩ := ha
      obtain ⟨hc, hS⟩ := hc
      have hJ2 := rem_J hJ
      have ag := remC_ag h13
      have es : recS S 579 = S 579 := recS_out (by omega)
      generalize remC C = D at *
      generalize recS S = E at *
      have r1 : D 1 = C 1 := ag 1 (by omega) (by omega)
      have d3 : D 1 3 = C 1 3 := by rw [r1]
      have d4 : D 1 4 = C 1 4 := by rw [r1]
      have d5 : D 1 5 = C 1 5 := by rw [r1]
      have E0 : E 579 0 = D 1 4 := hJ2.1.1.1.1
      have E1 : E 579 1 = D 1 3 := hJ2.1.1.1.2.1
      have E2 : E 579 2 = D 1 5 := hJ2.1.1.1.2.2.1
      have E3 : E 579 3 = D 1 6 := hJ2.1.1.1.2.2.2
      have B4 := hJ2.1.1.2.1.2.1
      have B5 := hJ2.1.1.2.1.2.2.1
      have B6 := hJ2.1.1.2.1.2.2.2
      have hub : 0 ≤ u ∧ u < 5 := by omega
      have hout : ∀ a : Int, a ≠ 2 → C' a = D a := fun a a1 => by rw [hC, up2_ne _ _ _ a1]
      have fout : ∀ k : Int, k ≠ u + 4 → S' 579 k = E 579 k := fun k a1 => by rw [hS, rd_i a1]
      have fo : ∀ a : Int, a ≠ 579 → S' a = E a := fun a a1 => by rw [hS, up2_ne _ _ _ a1]
      have hH : HdR C' 1 (S' 579) (N + 1) := by
        have ⟨h1, h2, h3, h4, h5⟩ := hJ2.1.1
        have c3' : C' (1 + 2) = D (1 + 2) := hout 3 (by omega)
        have h3a : E 579 4 = D 2 0 ∧ E 579 5 = D 2 1 ∧ E 579 6 = D 2 2 ∧ E 579 7 = D 2 3 ∧ E 579 8 = D 2 4 := h3
        have h4a : (1 ≤ D 2 0 ∧ D 2 0 ≤ 24) ∧ (10 ≤ D 2 1 ∧ D 2 1 ≤ 200) ∧ (0 ≤ D 2 2 ∧ D 2 2 ≤ 100) ∧ (1 ≤ D 2 3 ∧ D 2 3 ≤ 3) ∧ (1 ≤ D 2 4 ∧ D 2 4 ≤ 9) := h4
        have p0 : C' 2 0 = if 0 = u then t else D 2 0 := by rw [hC, rd_at]
        have p1 : C' 2 1 = if 1 = u then t else D 2 1 := by rw [hC, rd_at]
        have p2 : C' 2 2 = if 2 = u then t else D 2 2 := by rw [hC, rd_at]
        have p3 : C' 2 3 = if 3 = u then t else D 2 3 := by rw [hC, rd_at]
        have p4 : C' 2 4 = if 4 = u then t else D 2 4 := by rw [hC, rd_at]
        have q0 : S' 579 4 = if 0 = u then t else E 579 4 := by
          rw [hS, rd_at]
          exact ite_c (by omega)
        have q1 : S' 579 5 = if 1 = u then t else E 579 5 := by
          rw [hS, rd_at]
          exact ite_c (by omega)
        have q2 : S' 579 6 = if 2 = u then t else E 579 6 := by
          rw [hS, rd_at]
          exact ite_c (by omega)
        have q3 : S' 579 7 = if 3 = u then t else E 579 7 := by
          rw [hS, rd_at]
          exact ite_c (by omega)
        have q4 : S' 579 8 = if 4 = u then t else E 579 8 := by
          rw [hS, rd_at]
          exact ite_c (by omega)
        have key : (S' 579 4 = C' 2 0 ∧ S' 579 5 = C' 2 1 ∧ S' 579 6 = C' 2 2 ∧ S' 579 7 = C' 2 3 ∧ S' 579 8 = C' 2 4) ∧ ((1 ≤ C' 2 0 ∧ C' 2 0 ≤ 24) ∧ (10 ≤ C' 2 1 ∧ C' 2 1 ≤ 200) ∧ (0 ≤ C' 2 2 ∧ C' 2 2 ≤ 100) ∧ (1 ≤ C' 2 3 ∧ C' 2 3 ≤ 3) ∧ (1 ≤ C' 2 4 ∧ C' 2 4 ≤ 9)) := by
          rw [p0, p1, p2, p3, p4, q0, q1, q2, q3, q4]
          rcases (show u = 0 ∨ u = 1 ∨ u = 2 ∨ u = 3 ∨ u = 4 by omega) with g | g | g | g | g <;> subst g
          all_goals (repeat (first | rw [if_pos (by omega)] | rw [if_neg (by omega)]))
          all_goals omega
        unfold HdR
        rw [c3', hout 1 (by omega), fout 0 (by omega), fout 1 (by omega), fout 2 (by omega), fout 3 (by omega)]
        refine ⟨h1, ⟨h2.1, by omega, h2.2.2.1, by omega⟩, key.1, key.2, fun s hs => ?_⟩
        rw [fout _ (by omega)]
        exact h5 s hs
      refine ⟨by rw [ha, hc, hsv (by omega) (by omega)], act_J hJ2 (cur_hd hJ2.1 hH (by rw [hout 1 (by omega)]) (by rw [hout 1 (by omega)]) (fun a a1 a2 => hout a (by omega)) (fun k a1 => fout k (by omega))) (fun a ha => hout a (by omega)) (fun a ha => fo a (by omega)) (fun j _ _ => by rw [fo 578 (by omega)])⟩
set_option maxHeartbeats 8000000 in
theorem sm_tellDeath {C C' S S' : gM} {N u t v v' : Int} (hJ : JJ C S N) (hA : (fun v C' => ((¬ (0 ≤ u ∧ u < C 1 3 ∧ 0 ≤ t ∧ t < 6)) ∧ v = -1 ∧ C' = C) ∨ (((0 ≤ u ∧ u < C 1 3 ∧ 0 ≤ t ∧ t < 6) ∧ 2 ≤ C (4 * u + 5) 2) ∧ v = -4 ∧ C' = C) ∨ (((0 ≤ u ∧ u < C 1 3 ∧ 0 ≤ t ∧ t < 6) ∧ C (4 * u + 5) 2 = 1 ∧ C (4 * u + 5) 3 = t) ∧ v = -5 ∧ C' = C) ∨ (((0 ≤ u ∧ u < C 1 3 ∧ 0 ≤ t ∧ t < 6) ∧ C (4 * u + 5) 2 = 1 ∧ ¬ C (4 * u + 5) 3 = t) ∧ v = 1 ∧ C' = up2 (up2 (up2 (remC C) (4 * u + 5) 2 2) (4 * u + 5) 3 (-5)) (4 * u + 5) 4 (remC C 1 4)) ∨ (((0 ≤ u ∧ u < C 1 3 ∧ 0 ≤ t ∧ t < 6) ∧ C (4 * u + 5) 2 = 0) ∧ v = 0 ∧ C' = up2 (up2 (up2 (remC C) (4 * u + 5) 2 1) (4 * u + 5) 3 t) (4 * u + 5) 4 (remC C 1 4))) v C') (hB : (fun v S' => ((¬ (0 ≤ u ∧ u < S 579 1 ∧ 0 ≤ t ∧ t < 6)) ∧ v = -1 ∧ S' = S) ∨ (((0 ≤ u ∧ u < S 579 1 ∧ 0 ≤ t ∧ t < 6) ∧ 2 ≤ S 579 (32 * u + 18)) ∧ v = -4 ∧ S' = S) ∨ (((0 ≤ u ∧ u < S 579 1 ∧ 0 ≤ t ∧ t < 6) ∧ S 579 (32 * u + 18) = 1 ∧ S 579 (32 * u + 21) = t) ∧ v = -5 ∧ S' = S) ∨ (((0 ≤ u ∧ u < S 579 1 ∧ 0 ≤ t ∧ t < 6) ∧ S 579 (32 * u + 18) ≤ 1 ∧ ¬ (S 579 (32 * u + 18) = 1 ∧ S 579 (32 * u + 21) = t)) ∧ v = recS S 579 (32 * u + 18) ∧ S' = up2 (up2 (up2 (recS S) 579 (32 * u + 20) (recS S 579 0)) 579 (32 * u + 21) t) 579 (32 * u + 18) (recS S 579 (32 * u + 18) + 1))) v' S') : v = v' ∧ JJ C' S' (N + 1) := by
  have e0 : S 579 0 = C 1 4 := hJ.1.1.1.1
  have e1 : S 579 1 = C 1 3 := hJ.1.1.1.2.1
  have e2 : S 579 2 = C 1 5 := hJ.1.1.1.2.2.1
  have h13 := hJ.1.1.2.1.1
  have b5 := hJ.1.1.2.1.2.2.1
  have hst : 0 ≤ u → u < C 1 3 → S 579 (32 * u + 18) = C (4 * u + 5) 2 := fun x1 x2 => (hJ.life ⟨x1, x2⟩).2.1.2.2.1
  have hsr : 0 ≤ u → u < C 1 3 → 0 ≤ C (4 * u + 5) 2 ∧ C (4 * u + 5) 2 ≤ 3 := fun x1 x2 => (hJ.life ⟨x1, x2⟩).1.2.2.1
  have hsz : 0 ≤ u → u < C 1 3 → S 579 (32 * u + 19) = C (4 * u + 5) 6 := fun x1 x2 => (hJ.life ⟨x1, x2⟩).2.1.2.2.2.1
  have hby : 0 ≤ u → u < C 1 3 → C (4 * u + 5) 2 = 1 → S 579 (32 * u + 21) = C (4 * u + 5) 3 := fun x1 x2 x3 => (hJ.life ⟨x1, x2⟩).2.2.2.2.1 x3
  rcases hA with ⟨a, ha⟩ | ⟨a, ha⟩ | ⟨a, ha⟩ | ⟨a, ha⟩ | ⟨a, ha⟩
  · rcases hB with ⟨c, hc⟩ | ⟨c, hc⟩ | ⟨c, hc⟩ | ⟨c, hc⟩
    · exact ⟨by rw [ha.1, hc.1], by rw [ha.2, hc.2]; exact JJ_mono hJ⟩
    · exfalso; clear ha hc; omega
    · exfalso; clear ha hc; omega
    · exfalso; clear ha hc; omega
  · rcases hB with ⟨c, hc⟩ | ⟨c, hc⟩ | ⟨c, hc⟩ | ⟨c, hc⟩
    · exfalso; clear ha hc; omega
    · exact ⟨by rw [ha.1, hc.1], by rw [ha.2, hc.2]; exact JJ_mono hJ⟩
    · exfalso; clear ha hc; omega
    · exfalso; clear ha hc; omega
  · rcases hB with ⟨c, hc⟩ | ⟨c, hc⟩ | ⟨c, hc⟩ | ⟨c, hc⟩
    · exfalso; clear ha hc; omega
    · exfalso; clear ha hc; omega
    · exact ⟨by rw [ha.1, hc.1], by rw [ha.2, hc.2]; exact JJ_mono hJ⟩
    · exfalso; clear ha hc; omega
  · rcases hB with ⟨c, hc⟩ | ⟨c, hc⟩ | ⟨c, hc⟩ | ⟨c, hc⟩
    · exfalso; clear ha hc; omega
    · exfalso; clear ha hc; omega
    · exfalso; clear ha hc; omega
    · -- both act
      obtain ⟨ha, hC⟩ := ha
      obtain ⟨hc, hS⟩ := hc
      have hJ2 := rem_J hJ
      have ag := remC_ag h13
      have es : recS S 579 = S 579 := recS_out (by omega)
      generalize remC C = D at *
      generalize recS S = E at *
      have r1 : D 1 = C 1 := ag 1 (by omega) (by omega)
      have d3 : D 1 3 = C 1 3 := by rw [r1]
      have d4 : D 1 4 = C 1 4 := by rw [r1]
      have d5 : D 1 5 = C 1 5 := by rw [r1]
      have E0 : E 579 0 = D 1 4 := hJ2.1.1.1.1
      have E1 : E 579 1 = D 1 3 := hJ2.1.1.1.2.1
      have E2 : E 579 2 = D 1 5 := hJ2.1.1.1.2.2.1
      have E3 : E 579 3 = D 1 6 := hJ2.1.1.1.2.2.2
      have B4 := hJ2.1.1.2.1.2.1
      have B5 := hJ2.1.1.2.1.2.2.1
      have B6 := hJ2.1.1.2.1.2.2.2
      have rq : D (4 * u + 5) = C (4 * u + 5) := ag _ (by omega) (by omega)
      have hL := hJ2.life (u := u) (by omega)
      have ⟨⟨b0, b1, b2, b3, b4, b5, b6, b7, b8⟩, ⟨g0, g1, g2, g3, g4⟩, g5, g6, g7, g8, g9, g10⟩ := hL
      have es2 : E 579 (32 * u + 18) = 1 := by rw [g2, rq]; omega
      rw [es2] at hc hS
      have x13 : C' 1 3 = D 1 3 := by
        rw [hC]
        repeat rw [ap2]
        repeat (first | rw [if_pos (by omega)] | rw [if_neg (by omega)])
      have x14 : C' 1 4 = D 1 4 := by
        rw [hC]
        repeat rw [ap2]
        repeat (first | rw [if_pos (by omega)] | rw [if_neg (by omega)])
      have x15 : C' 1 5 = D 1 5 := by
        rw [hC]
        repeat rw [ap2]
        repeat (first | rw [if_pos (by omega)] | rw [if_neg (by omega)])
      have x16 : C' 1 6 = D 1 6 := by
        rw [hC]
        repeat rw [ap2]
        repeat (first | rw [if_pos (by omega)] | rw [if_neg (by omega)])
      have hout : ∀ a : Int, a ≠ 1 → (a < 4 * u + 5 ∨ 4 * u + 8 < a) → C' a = D a := fun a a1 a2 => by rw [hC, up2_ne _ _ _ (by omega), up2_ne _ _ _ (by omega), up2_ne _ _ _ (by omega)]
      have fout : ∀ k : Int, k ≠ 2 → k ≠ 3 → (k < 32 * u + 16 ∨ 32 * u + 48 ≤ k) → S' 579 k = E 579 k := fun k a1 a2 a3 => by rw [hS, rd_i (by omega), rd_i (by omega), rd_i (by omega)]
      have fo : ∀ a : Int, a ≠ 579 → S' a = E a := fun a a1 => by rw [hS, up2_ne _ _ _ a1, up2_ne _ _ _ a1, up2_ne _ _ _ a1]
      have w0 : C' (4 * u + 5) 0 = D (4 * u + 5) 0 := by
        rw [hC]
        repeat rw [ap2]
        repeat (first | rw [if_pos (by omega)] | rw [if_neg (by omega)])
      have w1 : C' (4 * u + 5) 1 = D (4 * u + 5) 1 := by
        rw [hC]
        repeat rw [ap2]
        repeat (first | rw [if_pos (by omega)] | rw [if_neg (by omega)])
      have w2 : C' (4 * u + 5) 2 = 2 := by
        rw [hC]
        repeat rw [ap2]
        repeat (first | rw [if_pos (by omega)] | rw [if_neg (by omega)])
      have w3 : C' (4 * u + 5) 3 = -5 := by
        rw [hC]
        repeat rw [ap2]
        repeat (first | rw [if_pos (by omega)] | rw [if_neg (by omega)])
      have w4 : C' (4 * u + 5) 4 = D 1 4 := by
        rw [hC]
        repeat rw [ap2]
        repeat (first | rw [if_pos (by omega)] | rw [if_neg (by omega)])
      have w5 : C' (4 * u + 5) 5 = D (4 * u + 5) 5 := by
        rw [hC]
        repeat rw [ap2]
        repeat (first | rw [if_pos (by omega)] | rw [if_neg (by omega)])
      have w6 : C' (4 * u + 5) 6 = D (4 * u + 5) 6 := by
        rw [hC]
        repeat rw [ap2]
        repeat (first | rw [if_pos (by omega)] | rw [if_neg (by omega)])
      have y18 : S' 579 (32 * u + 18) = 1 + 1 := by
        rw [hS]
        repeat rw [ap2]
        repeat (first | rw [if_pos (by omega)] | rw [if_neg (by omega)])
      have y20 : S' 579 (32 * u + 20) = E 579 0 := by
        rw [hS]
        repeat rw [ap2]
        repeat (first | rw [if_pos (by omega)] | rw [if_neg (by omega)])
      have y21 : S' 579 (32 * u + 21) = t := by
        rw [hS]
        repeat rw [ap2]
        repeat (first | rw [if_pos (by omega)] | rw [if_neg (by omega)])
      have y22 : S' 579 (32 * u + 22) = E 579 (32 * u + 22) := by
        rw [hS]
        repeat rw [ap2]
        repeat (first | rw [if_pos (by omega)] | rw [if_neg (by omega)])
      have kk : ∀ x : Int, 1 ≤ x → x ≤ 3 → C' (4 * u + 5 + x) = D (4 * u + 5 + x) := fun x a1 a2 => by rw [hC, up2_ne _ _ _ (by omega), up2_ne _ _ _ (by omega), up2_ne _ _ _ (by omega)]
      have hLn : LfR C' (4 * u + 5) (S' 579) (32 * u) (D 1 4) := by
        refine LfR_h hL w0 w1 w6 (kk 1 (by omega) (by omega)) (kk 2 (by omega) (by omega)) (kk 3 (by omega) (by omega)) (fun r a1 a2 a3 a4 a5 a6 => by rw [hS, rd_i (by omega), rd_i (by omega), rd_i (by omega)]) (by omega) (by omega) (by omega) (by omega) (fun z => by omega) (by omega) (by omega) (fun z => by omega) (fun z => by omega) (fun z => by omega) (by omega) (by omega)
      have y2h : S' 579 2 = E 579 2 := by
        rw [hS]
        repeat rw [ap2]
        repeat (first | rw [if_pos (by omega)] | rw [if_neg (by omega)])
      have y3h : S' 579 3 = E 579 3 := by
        rw [hS]
        repeat rw [ap2]
        repeat (first | rw [if_pos (by omega)] | rw [if_neg (by omega)])
      refine ⟨by rw [ha, hc], act_J hJ2 (cur_one hJ2.1 ⟨by omega, by omega⟩ (hd_mod hJ2.1.1 x13 x14 (by omega) (by omega) (hout 2 (by omega) (by omega)) (hout 3 (by omega) (by omega)) (fun k a1 a2 a3 a4 => fout k a3 a4 (by omega)) (by omega) (by omega)) x13 x14 (fun a a1 a2 a3 => hout a (by omega) a3) (fun k a1 a2 => fout k (by omega) (by omega) a2) hLn) (fun a ha => hout a (by omega) (by omega)) (fun a ha => fo a (by omega)) (fun j _ _ => by rw [fo 578 (by omega)])⟩
  · rcases hB with ⟨c, hc⟩ | ⟨c, hc⟩ | ⟨c, hc⟩ | ⟨c, hc⟩
    · exfalso; clear ha hc; omega
    · exfalso; clear ha hc; omega
    · exfalso; clear ha hc; omega
    · -- both act
      obtain ⟨ha, hC⟩ := ha
      obtain ⟨hc, hS⟩ := hc
      have hJ2 := rem_J hJ
      have ag := remC_ag h13
      have es : recS S 579 = S 579 := recS_out (by omega)
      generalize remC C = D at *
      generalize recS S = E at *
      have r1 : D 1 = C 1 := ag 1 (by omega) (by omega)
      have d3 : D 1 3 = C 1 3 := by rw [r1]
      have d4 : D 1 4 = C 1 4 := by rw [r1]
      have d5 : D 1 5 = C 1 5 := by rw [r1]
      have E0 : E 579 0 = D 1 4 := hJ2.1.1.1.1
      have E1 : E 579 1 = D 1 3 := hJ2.1.1.1.2.1
      have E2 : E 579 2 = D 1 5 := hJ2.1.1.1.2.2.1
      have E3 : E 579 3 = D 1 6 := hJ2.1.1.1.2.2.2
      have B4 := hJ2.1.1.2.1.2.1
      have B5 := hJ2.1.1.2.1.2.2.1
      have B6 := hJ2.1.1.2.1.2.2.2
      have rq : D (4 * u + 5) = C (4 * u + 5) := ag _ (by omega) (by omega)
      have hL := hJ2.life (u := u) (by omega)
      have ⟨⟨b0, b1, b2, b3, b4, b5, b6, b7, b8⟩, ⟨g0, g1, g2, g3, g4⟩, g5, g6, g7, g8, g9, g10⟩ := hL
      have es2 : E 579 (32 * u + 18) = 0 := by rw [g2, rq]; omega
      rw [es2] at hc hS
      have x13 : C' 1 3 = D 1 3 := by
        rw [hC]
        repeat rw [ap2]
        repeat (first | rw [if_pos (by omega)] | rw [if_neg (by omega)])
      have x14 : C' 1 4 = D 1 4 := by
        rw [hC]
        repeat rw [ap2]
        repeat (first | rw [if_pos (by omega)] | rw [if_neg (by omega)])
      have x15 : C' 1 5 = D 1 5 := by
        rw [hC]
        repeat rw [ap2]
        repeat (first | rw [if_pos (by omega)] | rw [if_neg (by omega)])
      have x16 : C' 1 6 = D 1 6 := by
        rw [hC]
        repeat rw [ap2]
        repeat (first | rw [if_pos (by omega)] | rw [if_neg (by omega)])
      have hout : ∀ a : Int, a ≠ 1 → (a < 4 * u + 5 ∨ 4 * u + 8 < a) → C' a = D a := fun a a1 a2 => by rw [hC, up2_ne _ _ _ (by omega), up2_ne _ _ _ (by omega), up2_ne _ _ _ (by omega)]
      have fout : ∀ k : Int, k ≠ 2 → k ≠ 3 → (k < 32 * u + 16 ∨ 32 * u + 48 ≤ k) → S' 579 k = E 579 k := fun k a1 a2 a3 => by rw [hS, rd_i (by omega), rd_i (by omega), rd_i (by omega)]
      have fo : ∀ a : Int, a ≠ 579 → S' a = E a := fun a a1 => by rw [hS, up2_ne _ _ _ a1, up2_ne _ _ _ a1, up2_ne _ _ _ a1]
      have w0 : C' (4 * u + 5) 0 = D (4 * u + 5) 0 := by
        rw [hC]
        repeat rw [ap2]
        repeat (first | rw [if_pos (by omega)] | rw [if_neg (by omega)])
      have w1 : C' (4 * u + 5) 1 = D (4 * u + 5) 1 := by
        rw [hC]
        repeat rw [ap2]
        repeat (first | rw [if_pos (by omega)] | rw [if_neg (by omega)])
      have w2 : C' (4 * u + 5) 2 = 1 := by
        rw [hC]
        repeat rw [ap2]
        repeat (first | rw [if_pos (by omega)] | rw [if_neg (by omega)])
      have w3 : C' (4 * u + 5) 3 = t := by
        rw [hC]
        repeat rw [ap2]
        repeat (first | rw [if_pos (by omega)] | rw [if_neg (by omega)])
      have w4 : C' (4 * u + 5) 4 = D 1 4 := by
        rw [hC]
        repeat rw [ap2]
        repeat (first | rw [if_pos (by omega)] | rw [if_neg (by omega)])
      have w5 : C' (4 * u + 5) 5 = D (4 * u + 5) 5 := by
        rw [hC]
        repeat rw [ap2]
        repeat (first | rw [if_pos (by omega)] | rw [if_neg (by omega)])
      have w6 : C' (4 * u + 5) 6 = D (4 * u + 5) 6 := by
        rw [hC]
        repeat rw [ap2]
        repeat (first | rw [if_pos (by omega)] | rw [if_neg (by omega)])
      have y18 : S' 579 (32 * u + 18) = 0 + 1 := by
        rw [hS]
        repeat rw [ap2]
        repeat (first | rw [if_pos (by omega)] | rw [if_neg (by omega)])
      have y20 : S' 579 (32 * u + 20) = E 579 0 := by
        rw [hS]
        repeat rw [ap2]
        repeat (first | rw [if_pos (by omega)] | rw [if_neg (by omega)])
      have y21 : S' 579 (32 * u + 21) = t := by
        rw [hS]
        repeat rw [ap2]
        repeat (first | rw [if_pos (by omega)] | rw [if_neg (by omega)])
      have y22 : S' 579 (32 * u + 22) = E 579 (32 * u + 22) := by
        rw [hS]
        repeat rw [ap2]
        repeat (first | rw [if_pos (by omega)] | rw [if_neg (by omega)])
      have kk : ∀ x : Int, 1 ≤ x → x ≤ 3 → C' (4 * u + 5 + x) = D (4 * u + 5 + x) := fun x a1 a2 => by rw [hC, up2_ne _ _ _ (by omega), up2_ne _ _ _ (by omega), up2_ne _ _ _ (by omega)]
      have hLn : LfR C' (4 * u + 5) (S' 579) (32 * u) (D 1 4) := by
        refine LfR_h hL w0 w1 w6 (kk 1 (by omega) (by omega)) (kk 2 (by omega) (by omega)) (kk 3 (by omega) (by omega)) (fun r a1 a2 a3 a4 a5 a6 => by rw [hS, rd_i (by omega), rd_i (by omega), rd_i (by omega)]) (by omega) (by omega) (by omega) (by omega) (fun z => by omega) (by omega) (by omega) (fun z => by omega) (fun z => by omega) (fun z => by omega) (by omega) (by omega)
      have y2h : S' 579 2 = E 579 2 := by
        rw [hS]
        repeat rw [ap2]
        repeat (first | rw [if_pos (by omega)] | rw [if_neg (by omega)])
      have y3h : S' 579 3 = E 579 3 := by
        rw [hS]
        repeat rw [ap2]
        repeat (first | rw [if_pos (by omega)] | rw [if_neg (by omega)])
      refine ⟨by rw [ha, hc], act_J hJ2 (cur_one hJ2.1 ⟨by omega, by omega⟩ (hd_mod hJ2.1.1 x13 x14 (by omega) (by omega) (hout 2 (by omega) (by omega)) (hout 3 (by omega) (by omega)) (fun k a1 a2 a3 a4 => fout k a3 a4 (by omega)) (by omega) (by omega)) x13 x14 (fun a a1 a2 a3 => hout a (by omega) a3) (fun k a1 a2 => fout k (by omega) (by omega) a2) hLn) (fun a ha => hout a (by omega) (by omega)) (fun a ha => fo a (by omega)) (fun j _ _ => by rw [fo 578 (by omega)])⟩
set_option maxHeartbeats 8000000 in
theorem sm_decide {C C' S S' : gM} {N u t v v' : Int} (hJ : JJ C S N) (hA : (fun v C' => ((¬ (0 ≤ u ∧ u < C 1 3)) ∧ v = -1 ∧ C' = C) ∨ (((0 ≤ u ∧ u < C 1 3) ∧ ¬ C (4 * u + 5) 2 = 1) ∧ v = -4 ∧ C' = C) ∨ (((0 ≤ u ∧ u < C 1 3) ∧ C (4 * u + 5) 2 = 1 ∧ t = 1) ∧ v = smI (fun i => if (up2 (up2 (up2 (remC C) (4 * u + 5) 2 2) (4 * u + 5) 3 (-5)) (4 * u + 5) 4 (remC C 1 4)) (4 * i + 1 + 4) 2 = 1 then 1 else 0) ((up2 (up2 (up2 (remC C) (4 * u + 5) 2 2) (4 * u + 5) 3 (-5)) (4 * u + 5) 4 (remC C 1 4)) 1 3) ∧ C' = up2 (up2 (up2 (remC C) (4 * u + 5) 2 2) (4 * u + 5) 3 (-5)) (4 * u + 5) 4 (remC C 1 4)) ∨ (((0 ≤ u ∧ u < C 1 3) ∧ C (4 * u + 5) 2 = 1 ∧ t = 0) ∧ v = smI (fun i => if (up2 (up2 (up2 (remC C) (4 * u + 5) 2 0) (4 * u + 5) 3 (-5)) (4 * u + 5) 4 (-5)) (4 * i + 1 + 4) 2 = 1 then 1 else 0) ((up2 (up2 (up2 (remC C) (4 * u + 5) 2 0) (4 * u + 5) 3 (-5)) (4 * u + 5) 4 (-5)) 1 3) ∧ C' = up2 (up2 (up2 (remC C) (4 * u + 5) 2 0) (4 * u + 5) 3 (-5)) (4 * u + 5) 4 (-5))) v C') (hB : (fun v S' => ((¬ (0 ≤ u ∧ u < S 579 1)) ∧ v = -1 ∧ S' = S) ∨ (((0 ≤ u ∧ u < S 579 1) ∧ ¬ S 579 (32 * u + 18) = 1) ∧ v = -4 ∧ S' = S) ∨ (((0 ≤ u ∧ u < S 579 1) ∧ S 579 (32 * u + 18) = 1 ∧ t = 1) ∧ v = smI (fun i => if up2 (up2 (recS S) 579 (32 * u + 18) 2) 579 (32 * u + 20) (recS S 579 0) 579 (32 * i + 18) = 1 then 1 else 0) (up2 (up2 (recS S) 579 (32 * u + 18) 2) 579 (32 * u + 20) (recS S 579 0) 579 1) ∧ S' = up2 (up2 (recS S) 579 (32 * u + 18) 2) 579 (32 * u + 20) (recS S 579 0)) ∨ (((0 ≤ u ∧ u < S 579 1) ∧ S 579 (32 * u + 18) = 1 ∧ t = 0) ∧ v = smI (fun i => if up2 (up2 (recS S) 579 (32 * u + 18) 0) 579 (32 * u + 20) (recS S 579 0) 579 (32 * i + 18) = 1 then 1 else 0) (up2 (up2 (recS S) 579 (32 * u + 18) 0) 579 (32 * u + 20) (recS S 579 0) 579 1) ∧ S' = up2 (up2 (recS S) 579 (32 * u + 18) 0) 579 (32 * u + 20) (recS S 579 0))) v' S') : v = v' ∧ JJ C' S' (N + 1) := by
  have e0 : S 579 0 = C 1 4 := hJ.1.1.1.1
  have e1 : S 579 1 = C 1 3 := hJ.1.1.1.2.1
  have e2 : S 579 2 = C 1 5 := hJ.1.1.1.2.2.1
  have h13 := hJ.1.1.2.1.1
  have b5 := hJ.1.1.2.1.2.2.1
  have hst : 0 ≤ u → u < C 1 3 → S 579 (32 * u + 18) = C (4 * u + 5) 2 := fun x1 x2 => (hJ.life ⟨x1, x2⟩).2.1.2.2.1
  have hsr : 0 ≤ u → u < C 1 3 → 0 ≤ C (4 * u + 5) 2 ∧ C (4 * u + 5) 2 ≤ 3 := fun x1 x2 => (hJ.life ⟨x1, x2⟩).1.2.2.1
  have hsz : 0 ≤ u → u < C 1 3 → S 579 (32 * u + 19) = C (4 * u + 5) 6 := fun x1 x2 => (hJ.life ⟨x1, x2⟩).2.1.2.2.2.1
  rcases hA with ⟨a, ha⟩ | ⟨a, ha⟩ | ⟨a, ha⟩ | ⟨a, ha⟩
  · rcases hB with ⟨c, hc⟩ | ⟨c, hc⟩ | ⟨c, hc⟩ | ⟨c, hc⟩
    · exact ⟨by rw [ha.1, hc.1], by rw [ha.2, hc.2]; exact JJ_mono hJ⟩
    · exfalso; clear ha hc; omega
    · exfalso; clear ha hc; omega
    · exfalso; clear ha hc; omega
  · rcases hB with ⟨c, hc⟩ | ⟨c, hc⟩ | ⟨c, hc⟩ | ⟨c, hc⟩
    · exfalso; clear ha hc; omega
    · exact ⟨by rw [ha.1, hc.1], by rw [ha.2, hc.2]; exact JJ_mono hJ⟩
    · exfalso; clear ha hc; omega
    · exfalso; clear ha hc; omega
  · rcases hB with ⟨c, hc⟩ | ⟨c, hc⟩ | ⟨c, hc⟩ | ⟨c, hc⟩
    · exfalso; clear ha hc; omega
    · exfalso; clear ha hc; omega
    · -- both act
      obtain ⟨ha, hC⟩ := ha
      obtain ⟨hc, hS⟩ := hc
      have hJ2 := rem_J hJ
      have ag := remC_ag h13
      have es : recS S 579 = S 579 := recS_out (by omega)
      generalize remC C = D at *
      generalize recS S = E at *
      have r1 : D 1 = C 1 := ag 1 (by omega) (by omega)
      have d3 : D 1 3 = C 1 3 := by rw [r1]
      have d4 : D 1 4 = C 1 4 := by rw [r1]
      have d5 : D 1 5 = C 1 5 := by rw [r1]
      have E0 : E 579 0 = D 1 4 := hJ2.1.1.1.1
      have E1 : E 579 1 = D 1 3 := hJ2.1.1.1.2.1
      have E2 : E 579 2 = D 1 5 := hJ2.1.1.1.2.2.1
      have E3 : E 579 3 = D 1 6 := hJ2.1.1.1.2.2.2
      have B4 := hJ2.1.1.2.1.2.1
      have B5 := hJ2.1.1.2.1.2.2.1
      have B6 := hJ2.1.1.2.1.2.2.2
      have rq : D (4 * u + 5) = C (4 * u + 5) := ag _ (by omega) (by omega)
      have hL := hJ2.life (u := u) (by omega)
      have ⟨⟨b0, b1, b2, b3, b4, b5, b6, b7, b8⟩, ⟨g0, g1, g2, g3, g4⟩, g5, g6, g7, g8, g9, g10⟩ := hL
      have x13 : C' 1 3 = D 1 3 := by
        rw [hC]
        repeat rw [ap2]
        repeat (first | rw [if_pos (by omega)] | rw [if_neg (by omega)])
      have x14 : C' 1 4 = D 1 4 := by
        rw [hC]
        repeat rw [ap2]
        repeat (first | rw [if_pos (by omega)] | rw [if_neg (by omega)])
      have x15 : C' 1 5 = D 1 5 := by
        rw [hC]
        repeat rw [ap2]
        repeat (first | rw [if_pos (by omega)] | rw [if_neg (by omega)])
      have x16 : C' 1 6 = D 1 6 := by
        rw [hC]
        repeat rw [ap2]
        repeat (first | rw [if_pos (by omega)] | rw [if_neg (by omega)])
      have hout : ∀ a : Int, a ≠ 1 → (a < 4 * u + 5 ∨ 4 * u + 8 < a) → C' a = D a := fun a a1 a2 => by rw [hC, up2_ne _ _ _ (by omega), up2_ne _ _ _ (by omega), up2_ne _ _ _ (by omega)]
      have fout : ∀ k : Int, k ≠ 2 → k ≠ 3 → (k < 32 * u + 16 ∨ 32 * u + 48 ≤ k) → S' 579 k = E 579 k := fun k a1 a2 a3 => by rw [hS, rd_i (by omega), rd_i (by omega)]
      have fo : ∀ a : Int, a ≠ 579 → S' a = E a := fun a a1 => by rw [hS, up2_ne _ _ _ a1, up2_ne _ _ _ a1]
      have w0 : C' (4 * u + 5) 0 = D (4 * u + 5) 0 := by
        rw [hC]
        repeat rw [ap2]
        repeat (first | rw [if_pos (by omega)] | rw [if_neg (by omega)])
      have w1 : C' (4 * u + 5) 1 = D (4 * u + 5) 1 := by
        rw [hC]
        repeat rw [ap2]
        repeat (first | rw [if_pos (by omega)] | rw [if_neg (by omega)])
      have w2 : C' (4 * u + 5) 2 = 2 := by
        rw [hC]
        repeat rw [ap2]
        repeat (first | rw [if_pos (by omega)] | rw [if_neg (by omega)])
      have w3 : C' (4 * u + 5) 3 = -5 := by
        rw [hC]
        repeat rw [ap2]
        repeat (first | rw [if_pos (by omega)] | rw [if_neg (by omega)])
      have w4 : C' (4 * u + 5) 4 = D 1 4 := by
        rw [hC]
        repeat rw [ap2]
        repeat (first | rw [if_pos (by omega)] | rw [if_neg (by omega)])
      have w5 : C' (4 * u + 5) 5 = D (4 * u + 5) 5 := by
        rw [hC]
        repeat rw [ap2]
        repeat (first | rw [if_pos (by omega)] | rw [if_neg (by omega)])
      have w6 : C' (4 * u + 5) 6 = D (4 * u + 5) 6 := by
        rw [hC]
        repeat rw [ap2]
        repeat (first | rw [if_pos (by omega)] | rw [if_neg (by omega)])
      have y18 : S' 579 (32 * u + 18) = 2 := by
        rw [hS]
        repeat rw [ap2]
        repeat (first | rw [if_pos (by omega)] | rw [if_neg (by omega)])
      have y20 : S' 579 (32 * u + 20) = E 579 0 := by
        rw [hS]
        repeat rw [ap2]
        repeat (first | rw [if_pos (by omega)] | rw [if_neg (by omega)])
      have y21 : S' 579 (32 * u + 21) = E 579 (32 * u + 21) := by
        rw [hS]
        repeat rw [ap2]
        repeat (first | rw [if_pos (by omega)] | rw [if_neg (by omega)])
      have y22 : S' 579 (32 * u + 22) = E 579 (32 * u + 22) := by
        rw [hS]
        repeat rw [ap2]
        repeat (first | rw [if_pos (by omega)] | rw [if_neg (by omega)])
      have kk : ∀ x : Int, 1 ≤ x → x ≤ 3 → C' (4 * u + 5 + x) = D (4 * u + 5 + x) := fun x a1 a2 => by rw [hC, up2_ne _ _ _ (by omega), up2_ne _ _ _ (by omega), up2_ne _ _ _ (by omega)]
      have hLn : LfR C' (4 * u + 5) (S' 579) (32 * u) (D 1 4) := by
        refine LfR_h hL w0 w1 w6 (kk 1 (by omega) (by omega)) (kk 2 (by omega) (by omega)) (kk 3 (by omega) (by omega)) (fun r a1 a2 a3 a4 a5 a6 => by rw [hS, rd_i (by omega), rd_i (by omega)]) (by omega) (by omega) (by omega) (by omega) (fun z => by omega) (by omega) (by omega) (fun z => by omega) (fun z => by omega) (fun z => by omega) (by omega) (by omega)
      have y2h : S' 579 2 = E 579 2 := by
        rw [hS]
        repeat rw [ap2]
        repeat (first | rw [if_pos (by omega)] | rw [if_neg (by omega)])
      have y3h : S' 579 3 = E 579 3 := by
        rw [hS]
        repeat rw [ap2]
        repeat (first | rw [if_pos (by omega)] | rw [if_neg (by omega)])
      rw [← hC] at ha
      rw [← hS] at hc
      have hcur : Cur C' 1 (S' 579) (N + 1) := cur_one hJ2.1 ⟨by omega, by omega⟩ (hd_mod hJ2.1.1 x13 x14 (by omega) (by omega) (hout 2 (by omega) (by omega)) (hout 3 (by omega) (by omega)) (fun k a1 a2 a3 a4 => fout k a3 a4 (by omega)) (by omega) (by omega)) x13 x14 (fun a a1 a2 a3 => hout a (by omega) a3) (fun k a1 a2 => fout k (by omega) (by omega) a2) hLn
      refine ⟨?_, act_J hJ2 hcur (fun a ha => hout a (by omega) (by omega)) (fun a ha => fo a (by omega)) (fun j _ _ => by rw [fo 578 (by omega)])⟩
      rw [ha, hc, hcur.1.1.2.1]
      refine smI_congr (fun i a1 a2 => ?_)
      rw [(hcur.2.1 i a1 a2).2.1.2.2.1]
    · exfalso; clear ha hc; omega
  · rcases hB with ⟨c, hc⟩ | ⟨c, hc⟩ | ⟨c, hc⟩ | ⟨c, hc⟩
    · exfalso; clear ha hc; omega
    · exfalso; clear ha hc; omega
    · exfalso; clear ha hc; omega
    · -- both act
      obtain ⟨ha, hC⟩ := ha
      obtain ⟨hc, hS⟩ := hc
      have hJ2 := rem_J hJ
      have ag := remC_ag h13
      have es : recS S 579 = S 579 := recS_out (by omega)
      generalize remC C = D at *
      generalize recS S = E at *
      have r1 : D 1 = C 1 := ag 1 (by omega) (by omega)
      have d3 : D 1 3 = C 1 3 := by rw [r1]
      have d4 : D 1 4 = C 1 4 := by rw [r1]
      have d5 : D 1 5 = C 1 5 := by rw [r1]
      have E0 : E 579 0 = D 1 4 := hJ2.1.1.1.1
      have E1 : E 579 1 = D 1 3 := hJ2.1.1.1.2.1
      have E2 : E 579 2 = D 1 5 := hJ2.1.1.1.2.2.1
      have E3 : E 579 3 = D 1 6 := hJ2.1.1.1.2.2.2
      have B4 := hJ2.1.1.2.1.2.1
      have B5 := hJ2.1.1.2.1.2.2.1
      have B6 := hJ2.1.1.2.1.2.2.2
      have rq : D (4 * u + 5) = C (4 * u + 5) := ag _ (by omega) (by omega)
      have hL := hJ2.life (u := u) (by omega)
      have ⟨⟨b0, b1, b2, b3, b4, b5, b6, b7, b8⟩, ⟨g0, g1, g2, g3, g4⟩, g5, g6, g7, g8, g9, g10⟩ := hL
      have x13 : C' 1 3 = D 1 3 := by
        rw [hC]
        repeat rw [ap2]
        repeat (first | rw [if_pos (by omega)] | rw [if_neg (by omega)])
      have x14 : C' 1 4 = D 1 4 := by
        rw [hC]
        repeat rw [ap2]
        repeat (first | rw [if_pos (by omega)] | rw [if_neg (by omega)])
      have x15 : C' 1 5 = D 1 5 := by
        rw [hC]
        repeat rw [ap2]
        repeat (first | rw [if_pos (by omega)] | rw [if_neg (by omega)])
      have x16 : C' 1 6 = D 1 6 := by
        rw [hC]
        repeat rw [ap2]
        repeat (first | rw [if_pos (by omega)] | rw [if_neg (by omega)])
      have hout : ∀ a : Int, a ≠ 1 → (a < 4 * u + 5 ∨ 4 * u + 8 < a) → C' a = D a := fun a a1 a2 => by rw [hC, up2_ne _ _ _ (by omega), up2_ne _ _ _ (by omega), up2_ne _ _ _ (by omega)]
      have fout : ∀ k : Int, k ≠ 2 → k ≠ 3 → (k < 32 * u + 16 ∨ 32 * u + 48 ≤ k) → S' 579 k = E 579 k := fun k a1 a2 a3 => by rw [hS, rd_i (by omega), rd_i (by omega)]
      have fo : ∀ a : Int, a ≠ 579 → S' a = E a := fun a a1 => by rw [hS, up2_ne _ _ _ a1, up2_ne _ _ _ a1]
      have w0 : C' (4 * u + 5) 0 = D (4 * u + 5) 0 := by
        rw [hC]
        repeat rw [ap2]
        repeat (first | rw [if_pos (by omega)] | rw [if_neg (by omega)])
      have w1 : C' (4 * u + 5) 1 = D (4 * u + 5) 1 := by
        rw [hC]
        repeat rw [ap2]
        repeat (first | rw [if_pos (by omega)] | rw [if_neg (by omega)])
      have w2 : C' (4 * u + 5) 2 = 0 := by
        rw [hC]
        repeat rw [ap2]
        repeat (first | rw [if_pos (by omega)] | rw [if_neg (by omega)])
      have w3 : C' (4 * u + 5) 3 = -5 := by
        rw [hC]
        repeat rw [ap2]
        repeat (first | rw [if_pos (by omega)] | rw [if_neg (by omega)])
      have w4 : C' (4 * u + 5) 4 = -5 := by
        rw [hC]
        repeat rw [ap2]
        repeat (first | rw [if_pos (by omega)] | rw [if_neg (by omega)])
      have w5 : C' (4 * u + 5) 5 = D (4 * u + 5) 5 := by
        rw [hC]
        repeat rw [ap2]
        repeat (first | rw [if_pos (by omega)] | rw [if_neg (by omega)])
      have w6 : C' (4 * u + 5) 6 = D (4 * u + 5) 6 := by
        rw [hC]
        repeat rw [ap2]
        repeat (first | rw [if_pos (by omega)] | rw [if_neg (by omega)])
      have y18 : S' 579 (32 * u + 18) = 0 := by
        rw [hS]
        repeat rw [ap2]
        repeat (first | rw [if_pos (by omega)] | rw [if_neg (by omega)])
      have y20 : S' 579 (32 * u + 20) = E 579 0 := by
        rw [hS]
        repeat rw [ap2]
        repeat (first | rw [if_pos (by omega)] | rw [if_neg (by omega)])
      have y21 : S' 579 (32 * u + 21) = E 579 (32 * u + 21) := by
        rw [hS]
        repeat rw [ap2]
        repeat (first | rw [if_pos (by omega)] | rw [if_neg (by omega)])
      have y22 : S' 579 (32 * u + 22) = E 579 (32 * u + 22) := by
        rw [hS]
        repeat rw [ap2]
        repeat (first | rw [if_pos (by omega)] | rw [if_neg (by omega)])
      have kk : ∀ x : Int, 1 ≤ x → x ≤ 3 → C' (4 * u + 5 + x) = D (4 * u + 5 + x) := fun x a1 a2 => by rw [hC, up2_ne _ _ _ (by omega), up2_ne _ _ _ (by omega), up2_ne _ _ _ (by omega)]
      have hLn : LfR C' (4 * u + 5) (S' 579) (32 * u) (D 1 4) := by
        refine LfR_h hL w0 w1 w6 (kk 1 (by omega) (by omega)) (kk 2 (by omega) (by omega)) (kk 3 (by omega) (by omega)) (fun r a1 a2 a3 a4 a5 a6 => by rw [hS, rd_i (by omega), rd_i (by omega)]) (by omega) (by omega) (by omega) (by omega) (fun z => by omega) (by omega) (by omega) (fun z => by omega) (fun z => by omega) (fun z => by omega) (by omega) (by omega)
      have y2h : S' 579 2 = E 579 2 := by
        rw [hS]
        repeat rw [ap2]
        repeat (first | rw [if_pos (by omega)] | rw [if_neg (by omega)])
      have y3h : S' 579 3 = E 579 3 := by
        rw [hS]
        repeat rw [ap2]
        repeat (first | rw [if_pos (by omega)] | rw [if_neg (by omega)])
      rw [← hC] at ha
      rw [← hS] at hc
      have hcur : Cur C' 1 (S' 579) (N + 1) := cur_one hJ2.1 ⟨by omega, by omega⟩ (hd_mod hJ2.1.1 x13 x14 (by omega) (by omega) (hout 2 (by omega) (by omega)) (hout 3 (by omega) (by omega)) (fun k a1 a2 a3 a4 => fout k a3 a4 (by omega)) (by omega) (by omega)) x13 x14 (fun a a1 a2 a3 => hout a (by omega) a3) (fun k a1 a2 => fout k (by omega) (by omega) a2) hLn
      refine ⟨?_, act_J hJ2 hcur (fun a ha => hout a (by omega) (by omega)) (fun a ha => fo a (by omega)) (fun j _ _ => by rw [fo 578 (by omega)])⟩
      rw [ha, hc, hcur.1.1.2.1]
      refine smI_congr (fun i a1 a2 => ?_)
      rw [(hcur.2.1 i a1 a2).2.1.2.2.1]
set_option maxHeartbeats 8000000 in
theorem sm_addPerson {C C' S S' : gM} {N u t v v' : Int} (hJ : JJ C S N) (hA : (fun v C' => ((¬ (0 ≤ u ∧ u ≤ 110 ∧ 1 ≤ t ∧ t ≤ 9)) ∧ v = -2 ∧ C' = C) ∨ (((0 ≤ u ∧ u ≤ 110 ∧ 1 ≤ t ∧ t ≤ 9) ∧ 20 ≤ C 1 3) ∧ v = -3 ∧ C' = C) ∨ (((0 ≤ u ∧ u ≤ 110 ∧ 1 ≤ t ∧ t ≤ 9) ∧ C 1 3 < 20) ∧ v = remC C 1 3 ∧ C' = bgn (up2 (remC C) 1 3 (remC C 1 3 + 1)) (4 * remC C 1 3 + 5) u t)) v C') (hB : (fun v S' => ((¬ (0 ≤ u ∧ u ≤ 110 ∧ 1 ≤ t ∧ t ≤ 9)) ∧ v = -2 ∧ S' = S) ∨ (((0 ≤ u ∧ u ≤ 110 ∧ 1 ≤ t ∧ t ≤ 9) ∧ S 579 1 = 20) ∧ v = -3 ∧ S' = S) ∨ (((0 ≤ u ∧ u ≤ 110 ∧ 1 ≤ t ∧ t ≤ 9) ∧ S 579 1 < 20) ∧ v = recS S 579 1 ∧ S' = up2 (up2 (up2 (up2 (recS S) 579 (32 * recS S 579 1 + 16) u) 579 (32 * recS S 579 1 + 17) t) 579 (32 * recS S 579 1 + 22) (-5)) 579 1 (recS S 579 1 + 1))) v' S') : v = v' ∧ JJ C' S' (N + 1) := by
  have e0 : S 579 0 = C 1 4 := hJ.1.1.1.1
  have e1 : S 579 1 = C 1 3 := hJ.1.1.1.2.1
  have e2 : S 579 2 = C 1 5 := hJ.1.1.1.2.2.1
  have h13 := hJ.1.1.2.1.1
  have b5 := hJ.1.1.2.1.2.2.1
  rcases hA with ⟨a, ha⟩ | ⟨a, ha⟩ | ⟨a, ha⟩
  · rcases hB with ⟨c, hc⟩ | ⟨c, hc⟩ | ⟨c, hc⟩
    · exact ⟨by rw [ha.1, hc.1], by rw [ha.2, hc.2]; exact JJ_mono hJ⟩
    · exfalso; clear ha hc; omega
    · exfalso; clear ha hc; omega
  · rcases hB with ⟨c, hc⟩ | ⟨c, hc⟩ | ⟨c, hc⟩
    · exfalso; clear ha hc; omega
    · exact ⟨by rw [ha.1, hc.1], by rw [ha.2, hc.2]; exact JJ_mono hJ⟩
    · exfalso; clear ha hc; omega
  · rcases hB with ⟨c, hc⟩ | ⟨c, hc⟩ | ⟨c, hc⟩
    · exfalso; clear ha hc; omega
    · exfalso; clear ha hc; omega
    · -- both act
      obtain ⟨ha, hC⟩ := ha
      obtain ⟨hc, hS⟩ := hc
      have hJ2 := rem_J hJ
      have ag := remC_ag h13
      have es : recS S 579 = S 579 := recS_out (by omega)
      generalize remC C = D at *
      generalize recS S = E at *
      have r1 : D 1 = C 1 := ag 1 (by omega) (by omega)
      have d3 : D 1 3 = C 1 3 := by rw [r1]
      have d4 : D 1 4 = C 1 4 := by rw [r1]
      have d5 : D 1 5 = C 1 5 := by rw [r1]
      have E0 : E 579 0 = D 1 4 := hJ2.1.1.1.1
      have E1 : E 579 1 = D 1 3 := hJ2.1.1.1.2.1
      have E2 : E 579 2 = D 1 5 := hJ2.1.1.1.2.2.1
      have E3 : E 579 3 = D 1 6 := hJ2.1.1.1.2.2.2
      have B4 := hJ2.1.1.2.1.2.1
      have B5 := hJ2.1.1.2.1.2.2.1
      have B6 := hJ2.1.1.2.1.2.2.2
      obtain ⟨n, hn⟩ : ∃ n : Int, D 1 3 = n := ⟨_, rfl⟩
      have hn' : E 579 1 = n := by rw [E1]; exact hn
      rw [hn] at ha hC
      rw [hn'] at hc hS
      have hn0 : 0 ≤ n ∧ n < 20 := by omega
      have hz : ∀ r : Int, 16 ≤ r → r ≤ 22 → E 579 (32 * n + r) = 0 := hJ2.1.2.2 n (by omega) hn0.2
      unfold bgn at hC
      have x13 : C' 1 3 = n + 1 := by
        rw [hC]
        repeat rw [ap2]
        repeat (first | rw [if_pos (by omega)] | rw [if_neg (by omega)])
      have x14 : C' 1 4 = D 1 4 := by
        rw [hC]
        repeat rw [ap2]
        repeat (first | rw [if_pos (by omega)] | rw [if_neg (by omega)])
      have x15 : C' 1 5 = D 1 5 := by
        rw [hC]
        repeat rw [ap2]
        repeat (first | rw [if_pos (by omega)] | rw [if_neg (by omega)])
      have x16 : C' 1 6 = D 1 6 := by
        rw [hC]
        repeat rw [ap2]
        repeat (first | rw [if_pos (by omega)] | rw [if_neg (by omega)])
      have hout : ∀ a : Int, a ≠ 1 → a ≠ 4 * n + 5 → C' a = D a := fun a a1 a2 => by rw [hC, up2_ne _ _ _ (by omega), up2_ne _ _ _ (by omega), up2_ne _ _ _ (by omega), up2_ne _ _ _ (by omega), up2_ne _ _ _ (by omega), up2_ne _ _ _ (by omega), up2_ne _ _ _ (by omega), up2_ne _ _ _ (by omega)]
      have fout : ∀ k : Int, k ≠ 1 → k ≠ 32 * n + 16 → k ≠ 32 * n + 17 → k ≠ 32 * n + 22 → S' 579 k = E 579 k := fun k a1 a2 a3 a4 => by rw [hS, rd_i a1, rd_i a4, rd_i a3, rd_i a2]
      have fo : ∀ a : Int, a ≠ 579 → S' a = E a := fun a a1 => by rw [hS, up2_ne _ _ _ a1, up2_ne _ _ _ a1, up2_ne _ _ _ a1, up2_ne _ _ _ a1]
      have f1 : S' 579 1 = n + 1 := by
        rw [hS]
        repeat rw [ap2]
        repeat (first | rw [if_pos (by omega)] | rw [if_neg (by omega)])
      have w0 : C' (4 * n + 5) 0 = u := by
        rw [hC]
        repeat rw [ap2]
        repeat (first | rw [if_pos (by omega)] | rw [if_neg (by omega)])
      have w1 : C' (4 * n + 5) 1 = t := by
        rw [hC]
        repeat rw [ap2]
        repeat (first | rw [if_pos (by omega)] | rw [if_neg (by omega)])
      have w2 : C' (4 * n + 5) 2 = 0 := by
        rw [hC]
        repeat rw [ap2]
        repeat (first | rw [if_pos (by omega)] | rw [if_neg (by omega)])
      have w3 : C' (4 * n + 5) 3 = -5 := by
        rw [hC]
        repeat rw [ap2]
        repeat (first | rw [if_pos (by omega)] | rw [if_neg (by omega)])
      have w4 : C' (4 * n + 5) 4 = -5 := by
        rw [hC]
        repeat rw [ap2]
        repeat (first | rw [if_pos (by omega)] | rw [if_neg (by omega)])
      have w5 : C' (4 * n + 5) 5 = -5 := by
        rw [hC]
        repeat rw [ap2]
        repeat (first | rw [if_pos (by omega)] | rw [if_neg (by omega)])
      have w6 : C' (4 * n + 5) 6 = 0 := by
        rw [hC]
        repeat rw [ap2]
        repeat (first | rw [if_pos (by omega)] | rw [if_neg (by omega)])
      have y16 : S' 579 (32 * n + 16) = u := by
        rw [hS]
        repeat rw [ap2]
        repeat (first | rw [if_pos (by omega)] | rw [if_neg (by omega)])
      have y17 : S' 579 (32 * n + 17) = t := by
        rw [hS]
        repeat rw [ap2]
        repeat (first | rw [if_pos (by omega)] | rw [if_neg (by omega)])
      have y22 : S' 579 (32 * n + 22) = -5 := by
        rw [hS]
        repeat rw [ap2]
        repeat (first | rw [if_pos (by omega)] | rw [if_neg (by omega)])
      have y18 : S' 579 (32 * n + 18) = 0 := (fout _ (by omega) (by omega) (by omega) (by omega)).trans (hz 18 (by omega) (by omega))
      have y19 : S' 579 (32 * n + 19) = 0 := (fout _ (by omega) (by omega) (by omega) (by omega)).trans (hz 19 (by omega) (by omega))
      have y20 : S' 579 (32 * n + 20) = 0 := (fout _ (by omega) (by omega) (by omega) (by omega)).trans (hz 20 (by omega) (by omega))
      have y21 : S' 579 (32 * n + 21) = 0 := (fout _ (by omega) (by omega) (by omega) (by omega)).trans (hz 21 (by omega) (by omega))
      have hLn : LfR C' (4 * n + 5) (S' 579) (32 * n) (D 1 4) := ⟨⟨by omega, by omega, by omega, by omega, by omega, by omega, by omega, fun z => by omega, fun j a1 a2 => by omega⟩, ⟨by omega, by omega, by omega, by omega, by omega⟩, fun z => by omega, fun z => by omega, fun z => by omega, by omega, by omega, fun j a1 a2 => by omega⟩
      have hH : HdR C' 1 (S' 579) (N + 1) := by
        have ⟨h1, h2, h3, h4, h5⟩ := hJ2.1.1
        have c2' : C' (1 + 1) = D (1 + 1) := hout 2 (by omega) (by omega)
        have c3' : C' (1 + 2) = D (1 + 2) := hout 3 (by omega) (by omega)
        unfold HdR
        rw [c2', c3', x13, x14, x15, x16, f1, fout 0 (by omega) (by omega) (by omega) (by omega), fout 2 (by omega) (by omega) (by omega) (by omega), fout 3 (by omega) (by omega) (by omega) (by omega), fout 4 (by omega) (by omega) (by omega) (by omega), fout 5 (by omega) (by omega) (by omega) (by omega), fout 6 (by omega) (by omega) (by omega) (by omega), fout 7 (by omega) (by omega) (by omega) (by omega), fout 8 (by omega) (by omega) (by omega) (by omega)]
        refine ⟨⟨h1.1, rfl, h1.2.2⟩, ⟨by omega, by omega, h2.2.2.1, by omega⟩, h3, h4, fun s hs => ?_⟩
        rw [fout _ (by omega) (by omega) (by omega) (by omega)]
        exact h5 s hs
      have hcur : Cur C' 1 (S' 579) (N + 1) := by
        refine ⟨hH, fun i a1 a2 => ?_, fun i a1 a2 r b1 b2 => ?_⟩
        · rw [x14]
          by_cases hi : i = n
          · subst hi
            rw [show 4 * i + 1 + 4 = 4 * i + 5 by omega]
            exact hLn
          · exact LfR_p (fun j _ _ => by rw [hout _ (by omega) (by omega)]) (fun j _ _ => by rw [hout _ (by omega) (by omega)]) (fun j _ _ => by rw [hout _ (by omega) (by omega)]) (fun j _ _ => by rw [hout _ (by omega) (by omega)]) (fun r b1 b2 => fout _ (by omega) (by omega) (by omega) (by omega)) (hJ2.1.2.1 i a1 (by omega))
        · rw [fout _ (by omega) (by omega) (by omega) (by omega)]
          exact hJ2.1.2.2 i (by omega) a2 r b1 b2
      exact ⟨by rw [ha, hc], act_J hJ2 hcur (fun a ha => hout a (by omega) (by omega)) (fun a ha => fo a (by omega)) (fun j _ _ => by rw [fo 578 (by omega)])⟩
