/-! keeping, restoring, adding; the acts as contracts -/
def IvD (C : gM) (o N : Int) : Prop := DkOk C o N ∧ ∀ i : Int, 0 ≤ i → i < C o 3 → Lf2 C (4 * i + o + 4)
def fcD (C : gM) (o : Int) : Int := smI (fun i => C (4 * i + o + 4) 6) (C o 3)
theorem IvD_ag {C C' : gM} {o N : Int} (e : agD C C' o) (h : IvD C o N) : IvD C' o N := by
  have h3 := h.1.1
  refine ⟨DkOk_ag e h.1, fun i a1 a2 => ?_⟩
  rw [e o (by omega) (by omega)] at a2
  unfold Lf2
  rw [e (4 * i + o + 4) (by omega) (by omega)]
  exact h.2 i a1 a2
theorem fcD_ag {C C' : gM} {o N : Int} (e : agD C C' o) (h : IvD C o N) : fcD C' o = fcD C o := by
  have h3 := h.1.1
  unfold fcD
  rw [e o (by omega) (by omega)]
  exact smI_congr fun j a1 a2 => by rw [e (4 * j + o + 4) (by omega) (by omega)]
theorem IvD_1 {C : gM} {N : Int} (h : Iv C N) : IvD C 1 N := ⟨h.1, fun i a1 a2 => by
  rw [show 4 * i + 1 + 4 = 4 * i + 5 by omega]
  exact h.2.2.2 i a1 a2⟩
theorem Iv_D {C : gM} {N : Int} (h : IvD C 1 N) (h1 : 0 ≤ C 169 1 ∧ C 169 1 < 4) (h2 : 0 ≤ C 169 2 ∧ C 169 2 ≤ 4) : Iv C N := ⟨h.1, h1, h2, fun i a1 a2 => by
  have := h.2 i a1 a2
  rwa [show 4 * i + 1 + 4 = 4 * i + 5 by omega] at this⟩
/-- a desk that was copied -/
theorem IvD_cp {C : gM} {o p N : Int} (hd : o + 84 ≤ p ∨ p + 84 ≤ o) (h : IvD C p N) : IvD (cpN C o p (C p 3)) o N ∧ cpN C o p (C p 3) o 3 = C p 3 ∧ cpN C o p (C p 3) o 4 = C p 4 ∧ fcD (cpN C o p (C p 3)) o = fcD C p := by
  obtain ⟨⟨g1, g2, g3, g4, g5, g6, g7, g8, g9, g10, g11⟩, k⟩ := h
  have e3 : cpN C o p (C p 3) o 3 = C p 3 := cpN_o (by omega)
  have e4 : cpN C o p (C p 3) o 4 = C p 4 := cpN_o (by omega)
  have e5 : cpN C o p (C p 3) o 5 = C p 5 := cpN_o (by omega)
  have e6 : cpN C o p (C p 3) o 6 = C p 6 := cpN_o (by omega)
  have s : ∀ j : Int, 0 ≤ j → j < 5 → cpN C o p (C p 3) (o + 1) j = C (p + 1) j := fun j a1 a2 => by
    unfold cpN
    rw [if_neg (by omega), if_pos rfl]
    unfold cpI
    rw [if_pos ⟨a1, a2⟩]
  have t : ∀ j : Int, 0 ≤ j → j < 6 → cpN C o p (C p 3) (o + 2) j = C (p + 2) j := fun j a1 a2 => by
    unfold cpN
    rw [if_neg (by omega), if_neg (by omega), if_pos rfl]
    unfold cpI
    rw [if_pos ⟨a1, a2⟩]
  have q : ∀ i r j : Int, 0 ≤ i → i < C p 3 → 0 ≤ r → r ≤ 3 → 0 ≤ j → j < (if r = 0 then 7 else 8) → cpN C o p (C p 3) (4 * i + o + 4 + r) j = C (4 * i + p + 4 + r) j := fun i r j a1 a2 b1 b2 c1 c2 => by
    rw [cpN_life (by omega), show p + (4 * i + o + 4 + r - o) = 4 * i + p + 4 + r by omega]
    unfold cpI
    rw [if_pos]
    refine ⟨c1, ?_⟩
    by_cases hr : r = 0
    · rw [if_pos hr] at c2
      rw [if_pos (by omega)]
      exact c2
    · rw [if_neg hr] at c2
      rw [if_neg (by omega)]
      exact c2
  have q0 : ∀ i j : Int, 0 ≤ i → i < C p 3 → 0 ≤ j → j < 7 → cpN C o p (C p 3) (4 * i + o + 4) j = C (4 * i + p + 4) j := fun i j a1 a2 c1 c2 => by
    have := q i 0 j a1 a2 (by omega) (by omega) c1 (by rw [if_pos rfl]; exact c2)
    rwa [Int.add_zero, Int.add_zero] at this
  refine ⟨⟨⟨by rw [e3]; exact g1, by rw [e4]; exact g2, by rw [e5]; exact g3, by rw [e6]; exact g4, by rw [s 0 (by omega) (by omega)]; exact g5, by rw [s 1 (by omega) (by omega)]; exact g6, by rw [s 2 (by omega) (by omega)]; exact g7, by rw [s 3 (by omega) (by omega)]; exact g8, by rw [s 4 (by omega) (by omega)]; exact g9, fun j hj => by rw [t j (by omega) (by omega)]; exact g10 j hj, fun i a1 a2 => ?_⟩, fun i a1 a2 => ?_⟩, e3, e4, ?_⟩
  · rw [e3] at a2
    obtain ⟨l0, l1, l2, l3, l4, l5, l6, l7, l8⟩ := g11 i a1 a2
    unfold LfOk
    rw [e4, q0 i 0 a1 a2 (by omega) (by omega), q0 i 1 a1 a2 (by omega) (by omega), q0 i 2 a1 a2 (by omega) (by omega), q0 i 3 a1 a2 (by omega) (by omega), q0 i 4 a1 a2 (by omega) (by omega), q0 i 5 a1 a2 (by omega) (by omega), q0 i 6 a1 a2 (by omega) (by omega)]
    refine ⟨l0, l1, l2, l3, l4, l5, l6, l7, fun j b1 b2 => ?_⟩
    rw [q i 1 j a1 a2 (by omega) (by omega) b1 (by rw [if_neg (by omega)]; omega), q i 2 j a1 a2 (by omega) (by omega) b1 (by rw [if_neg (by omega)]; omega), q i 3 j a1 a2 (by omega) (by omega) b1 (by rw [if_neg (by omega)]; omega)]
    exact l8 j b1 b2
  · rw [e3] at a2
    unfold Lf2
    rw [q0 i 2 a1 a2 (by omega) (by omega), q0 i 4 a1 a2 (by omega) (by omega), q0 i 5 a1 a2 (by omega) (by omega)]
    exact k i a1 a2
  · unfold fcD
    rw [e3]
    exact smI_congr fun j a1 a2 => q0 j 6 a1 a2 (by omega) (by omega)
theorem w_keep {C C' : gM} {N v : Int} (hI : Iv C N) (hv : (fun v C' => v = C 1 4 ∧ C' = up2 (cpN C 85 1 (C 1 3)) 0 2 1) v C') : v = C 1 4 ∧ Iv C' N ∧ IvD C' 85 N ∧ C' 85 4 = C 1 4 ∧ C' 85 3 = C 1 3 ∧ fcD C' 85 = fcD C 1 ∧ C' 0 2 = 1 ∧ ∀ a : Int, 1 ≤ a → a < 85 → C' a = C a := by
  obtain ⟨h1, h2⟩ := hv
  have h3 := hI.1.1
  have o : ∀ a : Int, a ≠ 0 → C' a = cpN C 85 1 (C 1 3) a := fun a ha => by rw [h2, up2_ne _ _ _ ha]
  have c := IvD_cp (o := 85) (by omega) (IvD_1 hI)
  have ag : agD (cpN C 85 1 (C 1 3)) C' 85 := fun a a1 a2 => o a (by omega)
  have e1 : ∀ a : Int, (1 ≤ a ∧ a < 85) ∨ a = 169 → C' a = C a := fun a ha => by rw [o a (by omega)]; exact cpN_out (by omega) h3.1
  have ag1 : agD C C' 1 := fun a a1 a2 => e1 a (by omega)
  refine ⟨h1, Iv_D (IvD_ag ag1 (IvD_1 hI)) (by rw [e1 169 (by omega)]; exact hI.2.1) (by rw [e1 169 (by omega)]; exact hI.2.2.1), IvD_ag ag c.1, by rw [o 85 (by omega)]; exact c.2.2.1, by rw [o 85 (by omega)]; exact c.2.1, (fcD_ag ag c.1).trans c.2.2.2, by rw [h2]; exact rd_hit rfl rfl, fun a a1 a2 => e1 a (by omega)⟩
theorem w_restore {C C' : gM} {N v : Int} (hI : Iv C N) (hD : IvD C 85 N) (h0 : C 0 2 = 1) (hv : (fun v C' => ((C 0 2 = 0) ∧ v = -5 ∧ C' = C) ∨ ((C 0 2 = 1) ∧ v = remC C 85 4 ∧ C' = cpN (remC C) 1 85 (remC C 85 3))) v C') : v = C 85 4 ∧ Iv C' N ∧ C' 1 3 = C 85 3 ∧ fcD C' 1 = fcD C 85 := by
  rcases hv with ⟨h, -⟩ | ⟨-, h1, h2⟩
  · omega
  · have h3 := hI.1.1
    have e : ∀ a : Int, a < 169 → remC C a = C a := fun a ha => remC_out (by omega) h3
    have ag : agD C (remC C) 85 := fun a a1 a2 => e a (by omega)
    have c := IvD_cp (C := remC C) (o := 1) (by omega) (IvD_ag ag hD)
    have hR := rem_Iv hI
    rw [← h2] at c
    rw [e 85 (by omega)] at c
    have f : fcD (remC C) 85 = fcD C 85 := fcD_ag ag hD
    have k : C' 169 = remC C 169 := by rw [h2]; exact cpN_out (by rw [e 85 (by omega)]; have := hD.1.1; omega) (by rw [e 85 (by omega)]; exact hD.1.1.1)
    exact ⟨by rw [h1, e 85 (by omega)], Iv_D c.1 (by rw [k]; exact hR.2.1) (by rw [k]; exact hR.2.2.1), c.2.1, c.2.2.2.trans f⟩
theorem w_addPerson {C C' : gM} {u t N v : Int} (hI : Iv C N) (h2 : C 1 3 < 20) (hu : 0 ≤ u ∧ u ≤ 110) (ht : 1 ≤ t ∧ t ≤ 9) (hv : (fun v C' => ((¬ (0 ≤ u ∧ u ≤ 110 ∧ 1 ≤ t ∧ t ≤ 9)) ∧ v = -2 ∧ C' = C) ∨ (((0 ≤ u ∧ u ≤ 110 ∧ 1 ≤ t ∧ t ≤ 9) ∧ 20 ≤ C 1 3) ∧ v = -3 ∧ C' = C) ∨ (((0 ≤ u ∧ u ≤ 110 ∧ 1 ≤ t ∧ t ≤ 9) ∧ C 1 3 < 20) ∧ v = remC C 1 3 ∧ C' = bgn (up2 (remC C) 1 3 (remC C 1 3 + 1)) (4 * remC C 1 3 + 5) u t)) v C') : v = C 1 3 ∧ Iv C' N ∧ C' 1 3 = C 1 3 + 1 ∧ urU C' (C 1 3) = u + 10 * t + 40 ∧ (∀ a : Int, (a = 2 ∨ a = 3 ∨ a = 0) → C' a = C a) := by
  rcases hv with ⟨h, -, -⟩ | ⟨⟨-, h⟩, -, -⟩ | ⟨-, h1, hC⟩
  · exact absurd ⟨hu.1, hu.2, ht.1, ht.2⟩ h
  · omega
  · have hag := remC_ag hI.1.1
    have h0 : remC C 0 = C 0 := remC_out (by omega) hI.1.1
    have h20 := hI.1.1
    have hDI := rem_Iv hI
    have d1 : remC C 1 = C 1 := hag 1 (by omega) (by omega)
    have d2 : remC C 2 = C 2 := hag 2 (by omega) (by omega)
    have d3 : remC C 3 = C 3 := hag 3 (by omega) (by omega)
    have d13 : remC C 1 3 = C 1 3 := by rw [d1]
    have hT := hDI.1.2.1
    obtain ⟨g1, g2, g3, g4, g5, g6, g7, g8, g9, g10, g11⟩ := hDI.1
    obtain ⟨k1, k2, k3⟩ := hDI.2
    generalize remC C = D at *
    have R : ∀ a i : Int, C' a i = if a = 4 * D 1 3 + 5 ∧ i = 4 then -5 else if a = 4 * D 1 3 + 5 ∧ i = 3 then -5 else if a = 4 * D 1 3 + 5 ∧ i = 2 then 0 else if a = 4 * D 1 3 + 5 ∧ i = 6 then 0 else if a = 4 * D 1 3 + 5 ∧ i = 5 then -5 else if a = 4 * D 1 3 + 5 ∧ i = 1 then t else if a = 4 * D 1 3 + 5 ∧ i = 0 then u else if a = 1 ∧ i = 3 then D 1 3 + 1 else D a i := fun a i => by
      rw [hC]
      unfold bgn
      repeat rw [ap2]
    have r13 : C' 1 3 = D 1 3 + 1 := by rw [R]; (repeat (first | rw [if_pos (by omega)] | rw [if_neg (by omega)]))
    have r14 : C' 1 4 = D 1 4 := by rw [R]; (repeat (first | rw [if_pos (by omega)] | rw [if_neg (by omega)]))
    have r15 : C' 1 5 = D 1 5 := by rw [R]; (repeat (first | rw [if_pos (by omega)] | rw [if_neg (by omega)]))
    have r16 : C' 1 6 = D 1 6 := by rw [R]; (repeat (first | rw [if_pos (by omega)] | rw [if_neg (by omega)]))
    have o : ∀ a : Int, a ≠ 1 → a ≠ 4 * D 1 3 + 5 → C' a = D a := fun a b1 b2 => funext fun i => by rw [R]; (repeat (first | rw [if_pos (by omega)] | rw [if_neg (by omega)]))
    have q0 : C' (4 * D 1 3 + 5) 0 = u := by rw [R]; (repeat (first | rw [if_pos (by omega)] | rw [if_neg (by omega)]))
    have q1 : C' (4 * D 1 3 + 5) 1 = t := by rw [R]; (repeat (first | rw [if_pos (by omega)] | rw [if_neg (by omega)]))
    have q2 : C' (4 * D 1 3 + 5) 2 = 0 := by rw [R]; (repeat (first | rw [if_pos (by omega)] | rw [if_neg (by omega)]))
    have q3 : C' (4 * D 1 3 + 5) 3 = -5 := by rw [R]; (repeat (first | rw [if_pos (by omega)] | rw [if_neg (by omega)]))
    have q4 : C' (4 * D 1 3 + 5) 4 = -5 := by rw [R]; (repeat (first | rw [if_pos (by omega)] | rw [if_neg (by omega)]))
    have q5 : C' (4 * D 1 3 + 5) 5 = -5 := by rw [R]; (repeat (first | rw [if_pos (by omega)] | rw [if_neg (by omega)]))
    have q6 : C' (4 * D 1 3 + 5) 6 = 0 := by rw [R]; (repeat (first | rw [if_pos (by omega)] | rw [if_neg (by omega)]))
    refine ⟨by omega, ⟨⟨by omega, by omega, by omega, by omega, by rw [o (1 + 1) (by omega) (by omega)]; exact g5, by rw [o (1 + 1) (by omega) (by omega)]; exact g6, by rw [o (1 + 1) (by omega) (by omega)]; exact g7, by rw [o (1 + 1) (by omega) (by omega)]; exact g8, by rw [o (1 + 1) (by omega) (by omega)]; exact g9, by rw [o (1 + 2) (by omega) (by omega)]; exact g10, fun i a1 a2 => ?_⟩, by rw [o 169 (by omega) (by omega)]; exact k1, by rw [o 169 (by omega) (by omega)]; exact k2, fun i a1 a2 => ?_⟩, by omega, ?_, fun a ha => ?_⟩
    · rw [r14]
      by_cases hi : i = D 1 3
      · rw [hi, show 4 * D 1 3 + 1 + 4 = 4 * D 1 3 + 5 by omega]
        unfold LfOk
        rw [q0, q1, q2, q3, q4, q5, q6]
        exact ⟨by omega, by omega, by omega, by omega, by omega, by omega, by omega, fun z => absurd rfl z, fun j b1 b2 => by omega⟩
      · exact LfOk_ag (fun a b1 b2 => o a (by omega) (by omega)) (g11 i a1 (by omega))
    · by_cases hi : i = D 1 3
      · rw [hi]
        unfold Lf2
        omega
      · unfold Lf2
        rw [o (4 * i + 5) (by omega) (by omega)]
        exact k3 i a1 (by omega)
    · rw [← d13]
      have hz : staleN C' 1 (4 * D 1 3 + 5) (C' 1 4) = 0 := by
        unfold staleN
        rw [q6]
        rfl
      unfold urU urg
      rw [if_pos q2, if_pos q6, hz, q0, q1]
      omega
    · rcases ha with rfl | rfl | rfl
      · rw [o 2 (by omega) (by omega), d2]
      · rw [o 3 (by omega) (by omega), d3]
      · rw [o 0 (by omega) (by omega), h0]
theorem s_write (l : Launch) (G : gG) (b : Nat) (C S : gM) (u t z N : Int) (hI : Iv C N) (hN : N ≤ 500) (hu : 0 ≤ u ∧ u < C 1 3) (ht : 0 ≤ t ∧ t < 6) (hz : 1 ≤ z ∧ z ≤ 9) : Ct l G b yX6_write cX6_write 5 (some .int) rmX6_write [.ref (ad b 0), .int (iI u), .int (iI t), .int (iI z)] 578 (wM G b C S) (WI G b S (fun v C' => (Iv C' N ∧ C' 1 3 = C 1 3 ∧ C' 1 4 = C 1 4) ∧ ((C (4 * u + 5) 2 = 3 ∧ v = -4) ∨ (C (4 * u + 5) 2 ≠ 3 ∧ ¬ (C (4 * u + 5) 6 < 8 ∧ z ≤ C 1 5) ∧ v = -3) ∨ (C (4 * u + 5) 2 ≠ 3 ∧ C (4 * u + 5) 6 < 8 ∧ z ≤ C 1 5 ∧ v = C (4 * u + 5) 6 ∧ C' 1 5 = C 1 5 - z ∧ C' (4 * u + 5) 6 = C (4 * u + 5) 6 + 1 ∧ C' (4 * u + 5 + 3) (C (4 * u + 5) 6) = C 1 4)))) := by
  have h20 := hI.1.1
  exact Ct_mono (tX6_write l G b C S u t z N (by omega) (by omega) (by omega) hI.1 (by omega) hI.2.1 hI.2.2.1) (fun r n w h => WI_mono (fun v C' hv => w_write hI hu ht hz hv) h)
theorem s_check (l : Launch) (G : gG) (b : Nat) (C S : gM) (u t N : Int) (hI : Iv C N) (hN : N ≤ 500) (hu : 0 ≤ u ∧ u < C 1 3) (ht : -2147483648 ≤ t ∧ t ≤ 2147483647) : Ct l G b yX6_check cX6_check 4 (some .int) rmX6_check [.ref (ad b 0), .int (iI u), .int (iI t)] 578 (wM G b C S) (WI G b S (fun v C' => (Iv C' N ∧ C' 1 3 = C 1 3 ∧ C' 1 4 = C 1 4) ∧ ((¬ (0 ≤ t ∧ t < C (4 * u + 5) 6) ∧ v = -1) ∨ ((0 ≤ t ∧ t < C (4 * u + 5) 6) ∧ C (4 * u + 5) 2 = 3 ∧ v = -4) ∨ ((0 ≤ t ∧ t < C (4 * u + 5) 6) ∧ C (4 * u + 5) 2 ≠ 3 ∧ C 1 5 < 1 ∧ v = -3) ∨ ((0 ≤ t ∧ t < C (4 * u + 5) 6) ∧ C (4 * u + 5) 2 ≠ 3 ∧ 1 ≤ C 1 5 ∧ C (4 * u + 5 + 3) t = C 1 4 ∧ v = -5) ∨ ((0 ≤ t ∧ t < C (4 * u + 5) 6) ∧ C (4 * u + 5) 2 ≠ 3 ∧ 1 ≤ C 1 5 ∧ C (4 * u + 5 + 3) t ≠ C 1 4 ∧ v = C 1 5 - 1 ∧ C' (4 * u + 5 + 3) t = C 1 4 ∧ C' (4 * u + 5) 6 = C (4 * u + 5) 6)))) := by
  have h20 := hI.1.1
  exact Ct_mono (tX6_check l G b C S u t N (by omega) (by omega) hI.1 (by omega) hI.2.1 hI.2.2.1) (fun r n w h => WI_mono (fun v C' hv => w_check hI hu hv) h)
theorem s_strike (l : Launch) (G : gG) (b : Nat) (C S : gM) (u t N : Int) (hI : Iv C N) (hN : N ≤ 500) (hu : 0 ≤ u ∧ u < C 1 3) (ht : -2147483648 ≤ t ∧ t ≤ 2147483647) : Ct l G b yX6_strike cX6_strike 4 (some .int) rmX6_strike [.ref (ad b 0), .int (iI u), .int (iI t)] 578 (wM G b C S) (WI G b S (fun v C' => (Iv C' N ∧ C' 1 3 = C 1 3 ∧ C' 1 4 = C 1 4) ∧ ((¬ (0 ≤ t ∧ t < C (4 * u + 5) 6) ∧ v = -1) ∨ ((0 ≤ t ∧ t < C (4 * u + 5) 6) ∧ C (4 * u + 5) 2 = 3 ∧ v = -4) ∨ ((0 ≤ t ∧ t < C (4 * u + 5) 6) ∧ C (4 * u + 5) 2 ≠ 3 ∧ v = C (4 * u + 5) 6 - 1)))) := by
  have h20 := hI.1.1
  exact Ct_mono (tX6_strike l G b C S u t N (by omega) (by omega) hI.1 (by omega) hI.2.1 hI.2.2.1) (fun r n w h => WI_mono (fun v C' hv => w_strike hI hu hv) h)
theorem s_tell (l : Launch) (G : gG) (b : Nat) (C S : gM) (u t N : Int) (hI : Iv C N) (hN : N ≤ 500) (hu : 0 ≤ u ∧ u < C 1 3) (ht : 0 ≤ t ∧ t < 6) : Ct l G b yX6_tellDeath cX6_tellDeath 5 (some .int) rmX6_tellDeath [.ref (ad b 0), .int (iI u), .int (iI t)] 578 (wM G b C S) (WI G b S (fun v C' => (Iv C' N ∧ C' 1 3 = C 1 3 ∧ C' 1 4 = C 1 4) ∧ ((2 ≤ C (4 * u + 5) 2 ∧ v = -4) ∨ (C (4 * u + 5) 2 = 1 ∧ C (4 * u + 5) 3 = t ∧ v = -5 ∧ C' = C) ∨ (C (4 * u + 5) 2 = 1 ∧ C (4 * u + 5) 3 ≠ t ∧ v = 1 ∧ C' (4 * u + 5) 2 = 2 ∧ C' (4 * u + 5) 4 = C 1 4) ∨ (C (4 * u + 5) 2 = 0 ∧ v = 0 ∧ C' (4 * u + 5) 2 = 1 ∧ C' (4 * u + 5) 3 = t ∧ C' (4 * u + 5) 4 = C 1 4)))) := by
  have h20 := hI.1.1
  exact Ct_mono (tX6_tellDeath l G b C S u t N (by omega) (by omega) hI.1 (by omega) hI.2.1 hI.2.2.1) (fun r n w h => WI_mono (fun v C' hv => w_tellDeath hI hu ht hv) h)
theorem s_trust (l : Launch) (G : gG) (b : Nat) (C S : gM) (u t N : Int) (hI : Iv C N) (hN : N ≤ 500) (hu : 0 ≤ u ∧ u < 6) (ht : 0 ≤ t ∧ t ≤ 100) : Ct l G b yX6_trust cX6_trust 4 (some .int) rmX6_trust [.ref (ad b 0), .int (iI u), .int (iI t)] 578 (wM G b C S) (WI G b S (fun v C' => ((Iv C' N ∧ C' 1 3 = C 1 3 ∧ C' 1 4 = C 1 4) ∧ ((C 3 u = t ∧ v = -5) ∨ (C 3 u ≠ t ∧ v = C 3 u))) ∧ C' 3 u = t ∧ (∀ a : Int, 5 ≤ a → a < 85 → C' a = C a))) := by
  have h20 := hI.1.1
  exact Ct_mono (tX6_trust l G b C S u t N (by omega) (by omega) hI.1 (by omega) hI.2.1 hI.2.2.1) (fun r n w h => WI_mono (fun v C' hv => w_trust hI hu ht hv) h)
theorem s_chk (l : Launch) (G : gG) (b : Nat) (C S : gM) ( N : Int) (hI : Iv C N) (hN : N ≤ 500)  : Ct l G b yX6_checkUrgent cX6_checkUrgent 3 (some .int) rmX6_checkUrgent [.ref (ad b 0)] 578 (wM G b C S) (WI G b S (fun v C' => (Iv C' N ∧ C' 1 3 = C 1 3 ∧ C' 1 4 = C 1 4) ∧ ((v = -5 ∧ C' = C) ∨ (1 ≤ v ∧ v ≤ C 1 5 ∧ C' 1 5 = C 1 5 - v ∧ stA C' (C' 1 4) ≤ stA C (C 1 4))) ∧ (CkDone C → v = -5) ∧ (v ≠ -5 → CkDone C'))) := by
  have h20 := hI.1.1
  exact Ct_mono (tX6_checkUrgent l G b C S  N  hI.1 (by omega) hI.2.1 hI.2.2.1) (fun r n w h => WI_mono (fun v C' hv => w_chk hI  hv) h)
theorem s_keep (l : Launch) (G : gG) (b : Nat) (C S : gM) ( N : Int) (hI : Iv C N) (hN : N ≤ 500)  : Ct l G b yX6_keep cX6_keep 1 (some .int) rmX6_keep [.ref (ad b 0)] 578 (wM G b C S) (WI G b S (fun v C' => v = C 1 4 ∧ Iv C' N ∧ IvD C' 85 N ∧ C' 85 4 = C 1 4 ∧ C' 85 3 = C 1 3 ∧ fcD C' 85 = fcD C 1 ∧ C' 0 2 = 1 ∧ ∀ a : Int, 1 ≤ a → a < 85 → C' a = C a)) := by
  have h20 := hI.1.1
  exact Ct_mono (tX6_keep l G b C S  N  hI.1 (by omega) hI.2.1 hI.2.2.1) (fun r n w h => WI_mono (fun v C' hv => w_keep hI  hv) h)
theorem s_add (l : Launch) (G : gG) (b : Nat) (C S : gM) (u t N : Int) (hI : Iv C N) (hN : N ≤ 500) (h2 : C 1 3 < 20) (hu : 0 ≤ u ∧ u ≤ 110) (ht : 1 ≤ t ∧ t ≤ 9) : Ct l G b yX6_addPerson cX6_addPerson 3 (some .int) rmX6_addPerson [.ref (ad b 0), .int (iI u), .int (iI t)] 578 (wM G b C S) (WI G b S (fun v C' => v = C 1 3 ∧ Iv C' N ∧ C' 1 3 = C 1 3 + 1 ∧ urU C' (C 1 3) = u + 10 * t + 40 ∧ (∀ a : Int, (a = 2 ∨ a = 3 ∨ a = 0) → C' a = C a))) := by
  have h20 := hI.1.1
  exact Ct_mono (tX6_addPerson l G b C S u t N (by omega) (by omega) hI.1 (by omega) hI.2.1 hI.2.2.1) (fun r n w h => WI_mono (fun v C' hv => w_addPerson hI h2 hu ht hv) h)
theorem s_decide (l : Launch) (G : gG) (b : Nat) (C S : gM) (u t N : Int) (hI : Iv C N) (hN : N ≤ 500) (hu : 0 ≤ u ∧ u < C 1 3) (ht : t = 0 ∨ t = 1) : Ct l G b yX6_decide cX6_decide 4 (some .int) rmX6_decide [.ref (ad b 0), .int (iI u), .int (iI t)] 578 (wM G b C S) (WI G b S (fun v C' => (Iv C' N ∧ C' 1 3 = C 1 3 ∧ C' 1 4 = C 1 4) ∧ ((C (4 * u + 5) 2 ≠ 1 ∧ v = -4) ∨ (C (4 * u + 5) 2 = 1 ∧ v = ctS C 1 - 1 ∧ C' (4 * u + 5) 2 = (if t = 1 then 2 else 0))))) := by
  have h20 := hI.1.1
  exact Ct_mono (tX6_decide l G b C S u t N (by omega) ht hI.1 (by omega) hI.2.1 hI.2.2.1) (fun r n w h => WI_mono (fun v C' hv => w_decide hI hu ht hv) h)
theorem s_restore (l : Launch) (G : gG) (b : Nat) (C S : gM) (N : Int) (hI : Iv C N) (hN : N ≤ 500) (hD : IvD C 85 N) (h0 : C 0 2 = 1) : Ct l G b yX6_restore cX6_restore 1 (some .int) rmX6_restore [.ref (ad b 0)] 578 (wM G b C S) (WI G b S (fun v C' => v = C 85 4 ∧ Iv C' N ∧ C' 1 3 = C 85 3 ∧ fcD C' 1 = fcD C 85)) := by
  exact Ct_mono (tX6_restore l G b C S N hI.1 (by omega) hI.2.1 hI.2.2.1 (Or.inr h0) hD.1.1) (fun r n w h => WI_mono (fun v C' hv => w_restore hI hD h0 hv) h)
theorem s_set (l : Launch) (G : gG) (b : Nat) (C S : gM) (u t N : Int) (hI : Iv C N) (hN : N ≤ 500) (hu : ((u = 0 ∧ 1 ≤ t ∧ t ≤ 24) ∨ (u = 1 ∧ 10 ≤ t ∧ t ≤ 200) ∨ (u = 2 ∧ 0 ≤ t ∧ t ≤ 100) ∨ (u = 3 ∧ 1 ≤ t ∧ t ≤ 3) ∨ (u = 4 ∧ 1 ≤ t ∧ t ≤ 9))) (hn : C 2 u ≠ t) : CtK l G b (Zs b) yX6_set cX6_set 4 (some .int) rmX6_set [.ref (ad b 0), .int (iI u), .int (iI t)] 578 (wM G b C S) (WI G b S (fun v C' => v = C 2 u ∧ Iv C' N ∧ C' 1 3 = C 1 3 ∧ (∀ i : Int, C' 2 i = if i = u then t else C 2 i) ∧ (∀ a : Int, 1 ≤ a → a < 85 → a ≠ 2 → C' a = C a))) := Ct_mono (tX6_set l G b C S u t N (by omega) (by omega) hI.1 (by omega) hI.2.1 hI.2.2.1) (fun r n w h => WI_mono (fun v C' hv => w_set hI hu hn hv) h)
theorem s_print (l : Launch) (G : gG) (b : Nat) (C M S P : gM) (N : Int) (hS : Sc C M) (hI : Iv C N) (hN : N ≤ 500) (hP : Lq C P) : Ct l G b yX6_print cX6_print 3 (some .int) rmX6_print [.ref (ad b 0)] 578 (wM G b M S) (WI G b S (fun v C' => v = P 573 2 ∧ (Iv C' (N + 1) ∧ C' 1 3 = C 1 3 ∧ C' 1 4 = C 1 4 + 1 ∧ C' 1 5 = C' 2 0) ∧ ctS C' 3 = ctS C 3 + P 573 2 ∧ (∀ r : Int, 0 ≤ r → r < P 573 2 → C' (4 * P 577 r + 5) 2 = 3 ∧ C' (4 * P 577 r + 5) 5 = C 1 4) ∧ ∀ a : Int, (a = 0 ∨ (85 ≤ a ∧ a < 169)) → C' a = C a)) := by
  have hM := hS.iv hI
  refine Ct_mono (tX6_print l G b M S N hM.1 (by omega) hM.2.1 hM.2.2.1) (fun r n w h => WI_mono (fun v C' hv => ?_) h)
  obtain ⟨L, h1, h2, ⟨h3, h4, h5, h6⟩, h7, h8, h9⟩ := w_print hM hN hv
  have hLC := Lq_ag hS.ag hI.1.1 h1
  obtain ⟨e1, e2, e3⟩ := Lq_same hI.1.1 hP hLC
  have m1 : M 1 = C 1 := hS 1 (by omega)
  rw [m1] at h4 h5 h8
  rw [ctS_ag hS.ag hI.1.1] at h7
  refine ⟨by omega, ⟨h3, h4, h5, h6⟩, by omega, fun r a1 a2 => ?_, fun a ha => ?_⟩
  · rw [e3 r a1 a2]
    exact h8 r a1 (by omega)
  · rw [h9 a ha]
    exact hS a (by omega)
