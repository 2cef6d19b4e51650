/-! the acts keep what stands between the calls -/
theorem ap2 {C : gM} {k j x a i : Int} : up2 C k j x a i = if a = k ∧ i = j then x else C a i := by
  by_cases ha : a = k
  · subst ha
    rw [rd_at]
    by_cases hi : i = j
    · rw [if_pos hi, if_pos ⟨rfl, hi⟩]
    · rw [if_neg hi, if_neg (fun z => hi z.2)]
  · rw [rd_k ha, if_neg (fun z => ha z.1)]
theorem LfOk_hd {D C' : gM} {q T : Int} (h : LfOk D q T) (e0 : C' q 0 = D q 0) (e1 : C' q 1 = D q 1) (e5 : C' q 5 = D q 5) (e6 : C' q 6 = D q 6) (k1 : C' (q + 1) = D (q + 1)) (k2 : C' (q + 2) = D (q + 2)) (k3 : C' (q + 3) = D (q + 3)) (s2 : 0 ≤ C' q 2 ∧ C' q 2 ≤ 3) (s3 : -5 ≤ C' q 3 ∧ C' q 3 ≤ 5) (s4 : -5 ≤ C' q 4 ∧ C' q 4 ≤ T) (s : C' q 2 ≠ 0 → 0 ≤ C' q 4) : LfOk C' q T := by
  obtain ⟨g0, g1, g2, g3, g4, g5, g6, g7, g8⟩ := h
  unfold LfOk
  rw [e0, e1, e5, e6, k1, k2, k3]
  exact ⟨g0, g1, s2, s3, s4, g5, g6, s, g8⟩
theorem LfOk_fc {D C' : gM} {q T : Int} (h : LfOk D q T) (e : ∀ j : Int, 0 ≤ j → j ≤ 5 → C' q j = D q j) (e6 : 0 ≤ C' q 6 ∧ C' q 6 ≤ 8) (hf : ∀ j : Int, 0 ≤ j → j < C' q 6 → (0 ≤ C' (q + 1) j ∧ C' (q + 1) j ≤ 5) ∧ (1 ≤ C' (q + 2) j ∧ C' (q + 2) j ≤ 9) ∧ (0 ≤ C' (q + 3) j ∧ C' (q + 3) j ≤ T)) : LfOk C' q T := by
  obtain ⟨g0, g1, g2, g3, g4, g5, g6, g7, g8⟩ := h
  unfold LfOk
  rw [e 0 (by omega) (by omega), e 1 (by omega) (by omega), e 2 (by omega) (by omega), e 3 (by omega) (by omega), e 4 (by omega) (by omega), e 5 (by omega) (by omega)]
  exact ⟨g0, g1, g2, g3, g4, g5, e6, g7, hf⟩
theorem Iv_one {D C' : gM} {N u : Int} (h : Iv D N) (hu : 0 ≤ u ∧ u < D 1 3) (e : ∀ a : Int, a < 570 → a ≠ 1 → (a < 4 * u + 5 ∨ 4 * u + 8 < a) → C' a = D a) (e1 : ∀ j : Int, j ≠ 5 → C' 1 j = D 1 j) (h5 : 0 ≤ C' 1 5 ∧ C' 1 5 ≤ 24) (hl : LfOk C' (4 * u + 5) (D 1 4)) (h2 : Lf2 C' (4 * u + 5)) : Iv C' N := by
  have h3 := h.1.1
  refine ⟨DkOk_mod h.1 (e1 3 (by omega)) (e1 4 (by omega)) h5 (e1 6 (by omega)) (e 2 (by omega) (by omega) (by omega)) (e 3 (by omega) (by omega) (by omega)) (fun i a1 a2 hi => ?_), by rw [e 169 (by omega) (by omega) (by omega)]; exact h.2.1, by rw [e 169 (by omega) (by omega) (by omega)]; exact h.2.2.1, fun i a1 a2 => ?_⟩
  · by_cases hc : i = u
    · rw [hc, show 4 * u + 1 + 4 = 4 * u + 5 by omega]; exact hl
    · exact LfOk_ag (fun a b1 b2 => e a (by omega) (by omega) (by omega)) hi
  · rw [e1 3 (by omega)] at a2
    by_cases hc : i = u
    · rw [hc]; exact h2
    · unfold Lf2
      rw [e (4 * i + 5) (by omega) (by omega) (by omega)]
      exact h.2.2.2 i a1 a2
theorem rem_169 {C : gM} : remC C 169 2 = hsz C + 1 ∧ (0 ≤ C 1 3 → remC C 169 1 = hfst C) := by
  constructor
  · exact rd_hit rfl rfl
  · intro h3
    unfold remC
    have hb := hat_b (hfst C) (hsz C)
    rw [rd_i (by omega), cpN_out (by omega) h3, rd_i (by omega), rd_hit rfl rfl]
theorem rem_Iv {C : gM} {N : Int} (h : Iv C N) : Iv (remC C) N := by
  obtain ⟨h1, h2, h3, h4⟩ := h
  have e := remC_ag h1.1
  have p := @rem_169 C
  have e3 : remC C 1 3 = C 1 3 := by rw [e 1 (by omega) (by omega)]
  have hz : 0 ≤ hsz C ∧ hsz C ≤ 3 := by
    unfold hsz
    split <;> omega
  have hf : 0 ≤ hfst C ∧ hfst C < 4 := by
    unfold hfst
    split <;> omega
  have hp := h1.1
  refine ⟨DkOk_ag e h1, by rw [p.2 h1.1.1]; exact hf, by rw [p.1]; omega, fun i a1 a2 => ?_⟩
  unfold Lf2
  rw [e (4 * i + 5) (by omega) (by omega)]
  exact h4 i a1 (by omega)
theorem smI_one {f g : Int → Int} {n u : Int} (hu : 0 ≤ u ∧ u < n) (h : ∀ i : Int, 0 ≤ i → i < n → i ≠ u → g i = f i) : smI g n = smI f n - f u + g u := by
  have key : ∀ m : Nat, (m : Int) ≤ n → smI g m = smI f m + (if u < (m : Int) then g u - f u else 0) := by
    intro m
    induction m with
    | zero => intro _; rw [if_neg (by omega)]; rfl
    | succ m ih =>
      intro hm
      rw [show ((m + 1 : Nat) : Int) = (m : Int) + 1 by omega, smI_s _ (by omega), smI_s _ (by omega), ih (by omega)]
      by_cases hc : (m : Int) = u
      · rw [if_neg (by omega), if_pos (by omega), hc]
        omega
      · rw [h m (by omega) (by omega) hc]
        by_cases hd : u < (m : Int)
        · rw [if_pos hd, if_pos (by omega)]
          omega
        · rw [if_neg hd, if_neg (by omega)]
          omega
  have h9 := key n.toNat (by omega)
  rw [Int.toNat_of_nonneg (by omega), if_pos hu.2] at h9
  omega
theorem ct_one {D C' : gM} {u k : Int} (hu : 0 ≤ u ∧ u < D 1 3) (e3 : C' 1 3 = D 1 3) (e : ∀ i : Int, 0 ≤ i → i ≠ u → C' (4 * i + 5) 2 = D (4 * i + 5) 2) (hk : D (4 * u + 5) 2 = k ∧ C' (4 * u + 5) 2 ≠ k) : ctS C' k = ctS D k - 1 := by
  unfold ctS
  rw [e3, smI_one (f := fun i => if D (4 * i + 1 + 4) 2 = k then 1 else 0) hu (fun i a1 a2 a3 => by
    show (if C' (4 * i + 1 + 4) 2 = k then (1 : Int) else 0) = if D (4 * i + 1 + 4) 2 = k then 1 else 0
    rw [show 4 * i + 1 + 4 = 4 * i + 5 by omega, e i a1 a3])]
  show _ - (if D (4 * u + 1 + 4) 2 = k then (1 : Int) else 0) + (if C' (4 * u + 1 + 4) 2 = k then (1 : Int) else 0) = _
  rw [show 4 * u + 1 + 4 = 4 * u + 5 by omega, if_pos hk.1, if_neg hk.2]
  omega
theorem w_write {C C' : gM} {u t z N v : Int} (hI : Iv C N) (hu : 0 ≤ u ∧ u < C 1 3) (ht : 0 ≤ t ∧ t < 6) (hz : 1 ≤ z ∧ z ≤ 9) (hv : (fun v C' => ((¬ (0 ≤ u ∧ u < C 1 3 ∧ 0 ≤ t ∧ t < 6)) ∧ v = -1 ∧ C' = C) ∨ (((0 ≤ u ∧ u < C 1 3 ∧ 0 ≤ t ∧ t < 6) ∧ ¬ (1 ≤ z ∧ z ≤ 9)) ∧ v = -2 ∧ C' = C) ∨ (((0 ≤ u ∧ u < C 1 3 ∧ 0 ≤ t ∧ t < 6) ∧ (1 ≤ z ∧ z ≤ 9) ∧ C (4 * u + 5) 2 = 3) ∧ v = -4 ∧ C' = C) ∨ (((0 ≤ u ∧ u < C 1 3 ∧ 0 ≤ t ∧ t < 6) ∧ (1 ≤ z ∧ z ≤ 9) ∧ ¬ C (4 * u + 5) 2 = 3 ∧ ¬ (C (4 * u + 5) 6 < 8 ∧ z ≤ C 1 5)) ∧ v = -3 ∧ C' = C) ∨ (((0 ≤ u ∧ u < C 1 3 ∧ 0 ≤ t ∧ t < 6) ∧ (1 ≤ z ∧ z ≤ 9) ∧ ¬ C (4 * u + 5) 2 = 3 ∧ (C (4 * u + 5) 6 < 8 ∧ z ≤ C 1 5)) ∧ v = remC C (4 * u + 5) 6 ∧ C' = up2 (up2 (up2 (up2 (up2 (remC C) 1 5 (remC C 1 5 - z)) (4 * u + 5 + 1) (remC C (4 * u + 5) 6) t) (4 * u + 5 + 2) (remC C (4 * u + 5) 6) z) (4 * u + 5 + 3) (remC C (4 * u + 5) 6) (remC C 1 4)) (4 * u + 5) 6 (remC C (4 * u + 5) 6 + 1))) v C') : (Iv C' N ∧ C' 1 3 = C 1 3 ∧ C' 1 4 = C 1 4) ∧ ((C (4 * u + 5) 2 = 3 ∧ v = -4) ∨ (C (4 * u + 5) 2 ≠ 3 ∧ ¬ (C (4 * u + 5) 6 < 8 ∧ z ≤ C 1 5) ∧ v = -3) ∨ (C (4 * u + 5) 2 ≠ 3 ∧ C (4 * u + 5) 6 < 8 ∧ z ≤ C 1 5 ∧ v = C (4 * u + 5) 6 ∧ C' 1 5 = C 1 5 - z ∧ C' (4 * u + 5) 6 = C (4 * u + 5) 6 + 1 ∧ C' (4 * u + 5 + 3) (C (4 * u + 5) 6) = C 1 4)) := by
  rcases hv with ⟨h0, h1, h2⟩ | ⟨h0, h1, h2⟩ | ⟨h0, h1, h2⟩ | ⟨h0, h1, h2⟩ | ⟨h0, h1, h2⟩
  · exact absurd h0 (by omega)
  · exact absurd h0 (by omega)
  · subst h2
    exact ⟨⟨hI, rfl, rfl⟩, (Or.inl (⟨by omega, h1⟩))⟩
  · subst h2
    exact ⟨⟨hI, rfl, rfl⟩, (Or.inr (Or.inl (⟨by omega, by omega, h1⟩)))⟩
  · have h2c := h2
    clear h2
    have hDI := rem_Iv hI
    have hag := remC_ag hI.1.1
    have h20 := hI.1.1
    have d13 : remC C 1 3 = C 1 3 := by rw [hag 1 (by omega) (by omega)]
    have d14 : remC C 1 4 = C 1 4 := by rw [hag 1 (by omega) (by omega)]
    have d15 : remC C 1 5 = C 1 5 := by rw [hag 1 (by omega) (by omega)]
    have d16 : remC C 1 6 = C 1 6 := by rw [hag 1 (by omega) (by omega)]
    have hl := hDI.lf (u := u) (by omega)
    have h2 := hDI.2.2.2 u (by omega) (by omega)
    have dq : remC C (4 * u + 5) = C (4 * u + 5) := hag _ (by omega) (by omega)
    have dq2 : remC C (4 * u + 5) 2 = C (4 * u + 5) 2 := by rw [dq]
    have dq3 : remC C (4 * u + 5) 3 = C (4 * u + 5) 3 := by rw [dq]
    have dq4 : remC C (4 * u + 5) 4 = C (4 * u + 5) 4 := by rw [dq]
    have dq5 : remC C (4 * u + 5) 5 = C (4 * u + 5) 5 := by rw [dq]
    have dq6 : remC C (4 * u + 5) 6 = C (4 * u + 5) 6 := by rw [dq]
    have dk : ∀ r : Int, 0 ≤ r → r ≤ 3 → remC C (4 * u + 5 + r) = C (4 * u + 5 + r) := fun r b1 b2 => hag _ (by omega) (by omega)
    have hT := hDI.1.2.1
    have h24 := hDI.1.2.2.1
    generalize remC C = D at *
    have hlc := id hl
    obtain ⟨l0, l1, l2, l3, l4, l5, l6, l7, l8⟩ := hlc
    unfold Lf2 at h2
    have R : ∀ a i : Int, C' a i = if a = 4 * u + 5 ∧ i = 6 then D (4 * u + 5) 6 + 1 else if a = 4 * u + 5 + 3 ∧ i = D (4 * u + 5) 6 then D 1 4 else if a = 4 * u + 5 + 2 ∧ i = D (4 * u + 5) 6 then z else if a = 4 * u + 5 + 1 ∧ i = D (4 * u + 5) 6 then t else if a = 1 ∧ i = 5 then D 1 5 - z else D a i := fun a i => by rw [h2c]; repeat rw [ap2]
    have r15 : C' 1 5 = D 1 5 - z := by rw [R]; (repeat (first | rw [if_pos (by omega)] | rw [if_neg (by omega)]))
    have rq6 : C' (4 * u + 5) 6 = D (4 * u + 5) 6 + 1 := by rw [R]; (repeat (first | rw [if_pos (by omega)] | rw [if_neg (by omega)]))
    have rqj : ∀ j : Int, j ≤ 5 → C' (4 * u + 5) j = D (4 * u + 5) j := fun j b => by rw [R]; (repeat (first | rw [if_pos (by omega)] | rw [if_neg (by omega)]))
    have r13 : C' 1 3 = D 1 3 := by rw [R]; (repeat (first | rw [if_pos (by omega)] | rw [if_neg (by omega)]))
    have r14 : C' 1 4 = D 1 4 := by rw [R]; (repeat (first | rw [if_pos (by omega)] | rw [if_neg (by omega)]))
    have rn : C' (4 * u + 5 + 3) (D (4 * u + 5) 6) = D 1 4 := by rw [R]; (repeat (first | rw [if_pos (by omega)] | rw [if_neg (by omega)]))
    have rf : ∀ j : Int, 0 ≤ j → j < D (4 * u + 5) 6 + 1 → (0 ≤ C' (4 * u + 5 + 1) j ∧ C' (4 * u + 5 + 1) j ≤ 5) ∧ (1 ≤ C' (4 * u + 5 + 2) j ∧ C' (4 * u + 5 + 2) j ≤ 9) ∧ (0 ≤ C' (4 * u + 5 + 3) j ∧ C' (4 * u + 5 + 3) j ≤ D 1 4) := fun j b1 b2 => by
      by_cases hj : j = D (4 * u + 5) 6
      · have e1 : C' (4 * u + 5 + 1) j = t := by rw [R]; (repeat (first | rw [if_pos (by omega)] | rw [if_neg (by omega)]))
        have e2 : C' (4 * u + 5 + 2) j = z := by rw [R]; (repeat (first | rw [if_pos (by omega)] | rw [if_neg (by omega)]))
        have e3 : C' (4 * u + 5 + 3) j = D 1 4 := by rw [R]; (repeat (first | rw [if_pos (by omega)] | rw [if_neg (by omega)]))
        omega
      · have e1 : C' (4 * u + 5 + 1) j = D (4 * u + 5 + 1) j := by rw [R]; (repeat (first | rw [if_pos (by omega)] | rw [if_neg (by omega)]))
        have e2 : C' (4 * u + 5 + 2) j = D (4 * u + 5 + 2) j := by rw [R]; (repeat (first | rw [if_pos (by omega)] | rw [if_neg (by omega)]))
        have e3 : C' (4 * u + 5 + 3) j = D (4 * u + 5 + 3) j := by rw [R]; (repeat (first | rw [if_pos (by omega)] | rw [if_neg (by omega)]))
        have := l8 j b1 (by omega)
        omega
    rw [dq6] at rn
    exact ⟨⟨Iv_one hDI (u := u) (by omega) (fun a b1 b2 b3 => funext fun i => by rw [R]; (repeat (first | rw [if_pos (by omega)] | rw [if_neg (by omega)]))) (fun j b1 => by rw [R]; (repeat (first | rw [if_pos (by omega)] | rw [if_neg (by omega)]))) (by omega) (LfOk_fc hl (fun j b1 b2 => rqj j b2) (by omega) (fun j b1 b2 => rf j b1 (by omega))) (by unfold Lf2; rw [rqj 2 (by omega), rqj 4 (by omega), rqj 5 (by omega)]; exact h2), by omega, by omega⟩, (Or.inr (Or.inr (⟨by omega, by omega, by omega, by omega, by omega, by omega, by omega⟩)))⟩
theorem w_check {C C' : gM} {u t N v : Int} (hI : Iv C N) (hu : 0 ≤ u ∧ u < C 1 3) (hv : (fun v C' => ((¬ (0 ≤ u ∧ u < C 1 3 ∧ 0 ≤ t ∧ t < C (4 * u + 5) 6)) ∧ v = -1 ∧ C' = C) ∨ (((0 ≤ u ∧ u < C 1 3 ∧ 0 ≤ t ∧ t < C (4 * u + 5) 6) ∧ C (4 * u + 5) 2 = 3) ∧ v = -4 ∧ C' = C) ∨ (((0 ≤ u ∧ u < C 1 3 ∧ 0 ≤ t ∧ t < C (4 * u + 5) 6) ∧ ¬ C (4 * u + 5) 2 = 3 ∧ C 1 5 < 1) ∧ v = -3 ∧ C' = C) ∨ (((0 ≤ u ∧ u < C 1 3 ∧ 0 ≤ t ∧ t < C (4 * u + 5) 6) ∧ ¬ C (4 * u + 5) 2 = 3 ∧ 1 ≤ C 1 5 ∧ C (4 * u + 8) t = C 1 4) ∧ v = -5 ∧ C' = C) ∨ (((0 ≤ u ∧ u < C 1 3 ∧ 0 ≤ t ∧ t < C (4 * u + 5) 6) ∧ ¬ C (4 * u + 5) 2 = 3 ∧ 1 ≤ C 1 5 ∧ ¬ C (4 * u + 8) t = C 1 4) ∧ v = remC C 1 5 - 1 ∧ C' = up2 (up2 (remC C) (4 * u + 8) t (remC C 1 4)) 1 5 (remC C 1 5 - 1))) v C') : (Iv C' N ∧ C' 1 3 = C 1 3 ∧ C' 1 4 = C 1 4) ∧ ((¬ (0 ≤ t ∧ t < C (4 * u + 5) 6) ∧ v = -1) ∨ ((0 ≤ t ∧ t < C (4 * u + 5) 6) ∧ C (4 * u + 5) 2 = 3 ∧ v = -4) ∨ ((0 ≤ t ∧ t < C (4 * u + 5) 6) ∧ C (4 * u + 5) 2 ≠ 3 ∧ C 1 5 < 1 ∧ v = -3) ∨ ((0 ≤ t ∧ t < C (4 * u + 5) 6) ∧ C (4 * u + 5) 2 ≠ 3 ∧ 1 ≤ C 1 5 ∧ C (4 * u + 5 + 3) t = C 1 4 ∧ v = -5) ∨ ((0 ≤ t ∧ t < C (4 * u + 5) 6) ∧ C (4 * u + 5) 2 ≠ 3 ∧ 1 ≤ C 1 5 ∧ C (4 * u + 5 + 3) t ≠ C 1 4 ∧ v = C 1 5 - 1 ∧ C' (4 * u + 5 + 3) t = C 1 4 ∧ C' (4 * u + 5) 6 = C (4 * u + 5) 6)) := by
  rcases hv with ⟨h0, h1, h2⟩ | ⟨h0, h1, h2⟩ | ⟨h0, h1, h2⟩ | ⟨h0, h1, h2⟩ | ⟨h0, h1, h2⟩
  · subst h2
    exact ⟨⟨hI, rfl, rfl⟩, (Or.inl (⟨by omega, h1⟩))⟩
  · subst h2
    exact ⟨⟨hI, rfl, rfl⟩, (Or.inr (Or.inl (⟨by omega, by omega, h1⟩)))⟩
  · subst h2
    exact ⟨⟨hI, rfl, rfl⟩, (Or.inr (Or.inr (Or.inl (⟨by omega, by omega, by omega, h1⟩))))⟩
  · rw [show 4 * u + 8 = 4 * u + 5 + 3 by omega] at h0
    subst h2
    exact ⟨⟨hI, rfl, rfl⟩, (Or.inr (Or.inr (Or.inr (Or.inl (⟨by omega, by omega, by omega, by omega, h1⟩)))))⟩
  · rw [show 4 * u + 8 = 4 * u + 5 + 3 by omega] at h0
    have h2c := h2
    clear h2
    have hDI := rem_Iv hI
    have hag := remC_ag hI.1.1
    have h20 := hI.1.1
    have d13 : remC C 1 3 = C 1 3 := by rw [hag 1 (by omega) (by omega)]
    have d14 : remC C 1 4 = C 1 4 := by rw [hag 1 (by omega) (by omega)]
    have d15 : remC C 1 5 = C 1 5 := by rw [hag 1 (by omega) (by omega)]
    have d16 : remC C 1 6 = C 1 6 := by rw [hag 1 (by omega) (by omega)]
    have hl := hDI.lf (u := u) (by omega)
    have h2 := hDI.2.2.2 u (by omega) (by omega)
    have dq : remC C (4 * u + 5) = C (4 * u + 5) := hag _ (by omega) (by omega)
    have dq2 : remC C (4 * u + 5) 2 = C (4 * u + 5) 2 := by rw [dq]
    have dq3 : remC C (4 * u + 5) 3 = C (4 * u + 5) 3 := by rw [dq]
    have dq4 : remC C (4 * u + 5) 4 = C (4 * u + 5) 4 := by rw [dq]
    have dq5 : remC C (4 * u + 5) 5 = C (4 * u + 5) 5 := by rw [dq]
    have dq6 : remC C (4 * u + 5) 6 = C (4 * u + 5) 6 := by rw [dq]
    have dk : ∀ r : Int, 0 ≤ r → r ≤ 3 → remC C (4 * u + 5 + r) = C (4 * u + 5 + r) := fun r b1 b2 => hag _ (by omega) (by omega)
    have hT := hDI.1.2.1
    have h24 := hDI.1.2.2.1
    generalize remC C = D at *
    have hlc := id hl
    obtain ⟨l0, l1, l2, l3, l4, l5, l6, l7, l8⟩ := hlc
    unfold Lf2 at h2
    have R : ∀ a i : Int, C' a i = if a = 1 ∧ i = 5 then D 1 5 - 1 else if a = 4 * u + 8 ∧ i = t then D 1 4 else D a i := fun a i => by rw [h2c]; repeat rw [ap2]
    have r15 : C' 1 5 = D 1 5 - 1 := by rw [R]; (repeat (first | rw [if_pos (by omega)] | rw [if_neg (by omega)]))
    have rqj : ∀ j : Int, C' (4 * u + 5) j = D (4 * u + 5) j := fun j => by rw [R]; (repeat (first | rw [if_pos (by omega)] | rw [if_neg (by omega)]))
    have rn : C' (4 * u + 5 + 3) t = D 1 4 := by rw [R]; (repeat (first | rw [if_pos (by omega)] | rw [if_neg (by omega)]))
    have r13 : C' 1 3 = D 1 3 := by rw [R]; (repeat (first | rw [if_pos (by omega)] | rw [if_neg (by omega)]))
    have r14 : C' 1 4 = D 1 4 := by rw [R]; (repeat (first | rw [if_pos (by omega)] | rw [if_neg (by omega)]))
    have rq6 := rqj 6
    have hlf : LfOk C' (4 * u + 5) (D 1 4) := LfOk_days hl (funext rqj) (funext fun i => by rw [R]; (repeat (first | rw [if_pos (by omega)] | rw [if_neg (by omega)]))) (funext fun i => by rw [R]; (repeat (first | rw [if_pos (by omega)] | rw [if_neg (by omega)]))) (fun j => by
      by_cases hj : j = t
      · exact Or.inr (by rw [R]; (repeat (first | rw [if_pos (by omega)] | rw [if_neg (by omega)])))
      · exact Or.inl (by rw [R]; (repeat (first | rw [if_pos (by omega)] | rw [if_neg (by omega)])))) hT.1
    exact ⟨⟨Iv_one hDI (u := u) (by omega) (fun a b1 b2 b3 => funext fun i => by rw [R]; (repeat (first | rw [if_pos (by omega)] | rw [if_neg (by omega)]))) (fun j b1 => by rw [R]; (repeat (first | rw [if_pos (by omega)] | rw [if_neg (by omega)]))) (by omega) (hlf) (by unfold Lf2; rw [rqj 2, rqj 4, rqj 5]; exact h2), by omega, by omega⟩, (Or.inr (Or.inr (Or.inr (Or.inr (⟨by omega, by omega, by omega, by omega, by omega, by omega, by omega⟩)))))⟩
theorem w_strike {C C' : gM} {u t N v : Int} (hI : Iv C N) (hu : 0 ≤ u ∧ u < C 1 3) (hv : (fun v C' => ((¬ (0 ≤ u ∧ u < C 1 3 ∧ 0 ≤ t ∧ t < C (4 * u + 5) 6)) ∧ v = -1 ∧ C' = C) ∨ (((0 ≤ u ∧ u < C 1 3 ∧ 0 ≤ t ∧ t < C (4 * u + 5) 6) ∧ C (4 * u + 5) 2 = 3) ∧ v = -4 ∧ C' = C) ∨ (((0 ≤ u ∧ u < C 1 3 ∧ 0 ≤ t ∧ t < C (4 * u + 5) 6) ∧ ¬ C (4 * u + 5) 2 = 3) ∧ v = remC C (4 * u + 5) 6 - 1 ∧ C' = up2 (shl3 (remC C) (4 * u + 5) t (remC C (4 * u + 5) 6 - 1)) (4 * u + 5) 6 (remC C (4 * u + 5) 6 - 1))) v C') : (Iv C' N ∧ C' 1 3 = C 1 3 ∧ C' 1 4 = C 1 4) ∧ ((¬ (0 ≤ t ∧ t < C (4 * u + 5) 6) ∧ v = -1) ∨ ((0 ≤ t ∧ t < C (4 * u + 5) 6) ∧ C (4 * u + 5) 2 = 3 ∧ v = -4) ∨ ((0 ≤ t ∧ t < C (4 * u + 5) 6) ∧ C (4 * u + 5) 2 ≠ 3 ∧ v = C (4 * u + 5) 6 - 1)) := by
  rcases hv with ⟨h0, h1, h2⟩ | ⟨h0, h1, h2⟩ | ⟨h0, h1, h2⟩
  · subst h2
    exact ⟨⟨hI, rfl, rfl⟩, (Or.inl (⟨by omega, h1⟩))⟩
  · subst h2
    exact ⟨⟨hI, rfl, rfl⟩, (Or.inr (Or.inl (⟨by omega, by omega, h1⟩)))⟩
  · have h2c := h2
    clear h2
    have hDI := rem_Iv hI
    have hag := remC_ag hI.1.1
    have h20 := hI.1.1
    have d13 : remC C 1 3 = C 1 3 := by rw [hag 1 (by omega) (by omega)]
    have d14 : remC C 1 4 = C 1 4 := by rw [hag 1 (by omega) (by omega)]
    have d15 : remC C 1 5 = C 1 5 := by rw [hag 1 (by omega) (by omega)]
    have d16 : remC C 1 6 = C 1 6 := by rw [hag 1 (by omega) (by omega)]
    have hl := hDI.lf (u := u) (by omega)
    have h2 := hDI.2.2.2 u (by omega) (by omega)
    have dq : remC C (4 * u + 5) = C (4 * u + 5) := hag _ (by omega) (by omega)
    have dq2 : remC C (4 * u + 5) 2 = C (4 * u + 5) 2 := by rw [dq]
    have dq3 : remC C (4 * u + 5) 3 = C (4 * u + 5) 3 := by rw [dq]
    have dq4 : remC C (4 * u + 5) 4 = C (4 * u + 5) 4 := by rw [dq]
    have dq5 : remC C (4 * u + 5) 5 = C (4 * u + 5) 5 := by rw [dq]
    have dq6 : remC C (4 * u + 5) 6 = C (4 * u + 5) 6 := by rw [dq]
    have dk : ∀ r : Int, 0 ≤ r → r ≤ 3 → remC C (4 * u + 5 + r) = C (4 * u + 5 + r) := fun r b1 b2 => hag _ (by omega) (by omega)
    have hT := hDI.1.2.1
    have h24 := hDI.1.2.2.1
    generalize remC C = D at *
    have hlc := id hl
    obtain ⟨l0, l1, l2, l3, l4, l5, l6, l7, l8⟩ := hlc
    unfold Lf2 at h2
    have R : ∀ a i : Int, C' a i = if a = 4 * u + 5 ∧ i = 6 then D (4 * u + 5) 6 - 1 else shl3 D (4 * u + 5) t (D (4 * u + 5) 6 - 1) a i := fun a i => by rw [h2c, ap2]
    have so : ∀ a i : Int, (a < 4 * u + 6 ∨ 4 * u + 8 < a) → shl3 D (4 * u + 5) t (D (4 * u + 5) 6 - 1) a i = D a i := fun a i b => shl3_out D (by omega)
    have rq6 : C' (4 * u + 5) 6 = D (4 * u + 5) 6 - 1 := by rw [R]; (repeat (first | rw [if_pos (by omega)] | rw [if_neg (by omega)]))
    have rqj : ∀ j : Int, j ≤ 5 → C' (4 * u + 5) j = D (4 * u + 5) j := fun j b => by rw [R, if_neg (by omega)]; exact so _ _ (by omega)
    have r1 : ∀ j : Int, C' 1 j = D 1 j := fun j => by rw [R, if_neg (by omega)]; exact so _ _ (by omega)
    have r13 := r1 3
    have r14 := r1 4
    have r15 := r1 5
    have rf : ∀ k j : Int, 1 ≤ k → k ≤ 3 → 0 ≤ j → j < D (4 * u + 5) 6 - 1 → C' (4 * u + 5 + k) j = D (4 * u + 5 + k) j ∨ C' (4 * u + 5 + k) j = D (4 * u + 5 + k) (j + 1) := fun k j b1 b2 b3 b4 => by
      rw [R, if_neg (by omega), shl3_in D (by omega)]
      split
      · exact Or.inr rfl
      · exact Or.inl rfl
    have rg : ∀ j : Int, 0 ≤ j → j < C' (4 * u + 5) 6 → (0 ≤ C' (4 * u + 5 + 1) j ∧ C' (4 * u + 5 + 1) j ≤ 5) ∧ (1 ≤ C' (4 * u + 5 + 2) j ∧ C' (4 * u + 5 + 2) j ≤ 9) ∧ (0 ≤ C' (4 * u + 5 + 3) j ∧ C' (4 * u + 5 + 3) j ≤ D 1 4) := fun j b1 b2 => by
      have x0 := l8 j b1 (by omega)
      have x1 := l8 (j + 1) (by omega) (by omega)
      have y1 := rf 1 j (by omega) (by omega) b1 (by omega)
      have y2 := rf 2 j (by omega) (by omega) b1 (by omega)
      have y3 := rf 3 j (by omega) (by omega) b1 (by omega)
      omega
    exact ⟨⟨Iv_one hDI (u := u) (by omega) (fun a b1 b2 b3 => funext fun i => by rw [R, if_neg (by omega)]; exact so _ _ (by omega)) (fun j b1 => r1 j) (by omega) (LfOk_fc hl (fun j b1 b2 => rqj j b2) (by omega) rg) (by unfold Lf2; rw [rqj 2 (by omega), rqj 4 (by omega), rqj 5 (by omega)]; exact h2), by omega, by omega⟩, (Or.inr (Or.inr (⟨by omega, by omega, by omega⟩)))⟩
theorem w_tellDeath {C C' : gM} {u t N v : Int} (hI : Iv C N) (hu : 0 ≤ u ∧ u < C 1 3) (ht : 0 ≤ t ∧ t < 6) (hv : (fun v C' => ((¬ (0 ≤ u ∧ u < C 1 3 ∧ 0 ≤ t ∧ t < 6)) ∧ v = -1 ∧ C' = C) ∨ (((0 ≤ u ∧ u < C 1 3 ∧ 0 ≤ t ∧ t < 6) ∧ 2 ≤ C (4 * u + 5) 2) ∧ v = -4 ∧ C' = C) ∨ (((0 ≤ u ∧ u < C 1 3 ∧ 0 ≤ t ∧ t < 6) ∧ C (4 * u + 5) 2 = 1 ∧ C (4 * u + 5) 3 = t) ∧ v = -5 ∧ C' = C) ∨ (((0 ≤ u ∧ u < C 1 3 ∧ 0 ≤ t ∧ t < 6) ∧ C (4 * u + 5) 2 = 1 ∧ ¬ C (4 * u + 5) 3 = t) ∧ v = 1 ∧ C' = up2 (up2 (up2 (remC C) (4 * u + 5) 2 2) (4 * u + 5) 3 (-5)) (4 * u + 5) 4 (remC C 1 4)) ∨ (((0 ≤ u ∧ u < C 1 3 ∧ 0 ≤ t ∧ t < 6) ∧ C (4 * u + 5) 2 = 0) ∧ v = 0 ∧ C' = up2 (up2 (up2 (remC C) (4 * u + 5) 2 1) (4 * u + 5) 3 t) (4 * u + 5) 4 (remC C 1 4))) v C') : (Iv C' N ∧ C' 1 3 = C 1 3 ∧ C' 1 4 = C 1 4) ∧ ((2 ≤ C (4 * u + 5) 2 ∧ v = -4) ∨ (C (4 * u + 5) 2 = 1 ∧ C (4 * u + 5) 3 = t ∧ v = -5 ∧ C' = C) ∨ (C (4 * u + 5) 2 = 1 ∧ C (4 * u + 5) 3 ≠ t ∧ v = 1 ∧ C' (4 * u + 5) 2 = 2 ∧ C' (4 * u + 5) 4 = C 1 4) ∨ (C (4 * u + 5) 2 = 0 ∧ v = 0 ∧ C' (4 * u + 5) 2 = 1 ∧ C' (4 * u + 5) 3 = t ∧ C' (4 * u + 5) 4 = C 1 4)) := by
  rcases hv with ⟨h0, h1, h2⟩ | ⟨h0, h1, h2⟩ | ⟨h0, h1, h2⟩ | ⟨h0, h1, h2⟩ | ⟨h0, h1, h2⟩
  · exact absurd h0 (by omega)
  · subst h2
    exact ⟨⟨hI, rfl, rfl⟩, (Or.inl (⟨by omega, h1⟩))⟩
  · subst h2
    exact ⟨⟨hI, rfl, rfl⟩, (Or.inr (Or.inl (⟨by omega, by omega, h1, rfl⟩)))⟩
  · have h2c := h2
    clear h2
    have hDI := rem_Iv hI
    have hag := remC_ag hI.1.1
    have h20 := hI.1.1
    have d13 : remC C 1 3 = C 1 3 := by rw [hag 1 (by omega) (by omega)]
    have d14 : remC C 1 4 = C 1 4 := by rw [hag 1 (by omega) (by omega)]
    have d15 : remC C 1 5 = C 1 5 := by rw [hag 1 (by omega) (by omega)]
    have d16 : remC C 1 6 = C 1 6 := by rw [hag 1 (by omega) (by omega)]
    have hl := hDI.lf (u := u) (by omega)
    have h2 := hDI.2.2.2 u (by omega) (by omega)
    have dq : remC C (4 * u + 5) = C (4 * u + 5) := hag _ (by omega) (by omega)
    have dq2 : remC C (4 * u + 5) 2 = C (4 * u + 5) 2 := by rw [dq]
    have dq3 : remC C (4 * u + 5) 3 = C (4 * u + 5) 3 := by rw [dq]
    have dq4 : remC C (4 * u + 5) 4 = C (4 * u + 5) 4 := by rw [dq]
    have dq5 : remC C (4 * u + 5) 5 = C (4 * u + 5) 5 := by rw [dq]
    have dq6 : remC C (4 * u + 5) 6 = C (4 * u + 5) 6 := by rw [dq]
    have dk : ∀ r : Int, 0 ≤ r → r ≤ 3 → remC C (4 * u + 5 + r) = C (4 * u + 5 + r) := fun r b1 b2 => hag _ (by omega) (by omega)
    have hT := hDI.1.2.1
    have h24 := hDI.1.2.2.1
    generalize remC C = D at *
    have hlc := id hl
    obtain ⟨l0, l1, l2, l3, l4, l5, l6, l7, l8⟩ := hlc
    unfold Lf2 at h2
    have R : ∀ a i : Int, C' a i = if a = 4 * u + 5 ∧ i = 4 then D 1 4 else if a = 4 * u + 5 ∧ i = 3 then (-5) else if a = 4 * u + 5 ∧ i = 2 then 2 else D a i := fun a i => by rw [h2c]; repeat rw [ap2]
    have rq : ∀ j : Int, j ≠ 2 → j ≠ 3 → j ≠ 4 → C' (4 * u + 5) j = D (4 * u + 5) j := fun j b1 b2 b3 => by rw [R]; (repeat (first | rw [if_pos (by omega)] | rw [if_neg (by omega)]))
    have r2 : C' (4 * u + 5) 2 = 2 := by rw [R]; (repeat (first | rw [if_pos (by omega)] | rw [if_neg (by omega)]))
    have r3 : C' (4 * u + 5) 3 = (-5) := by rw [R]; (repeat (first | rw [if_pos (by omega)] | rw [if_neg (by omega)]))
    have r4 : C' (4 * u + 5) 4 = D 1 4 := by rw [R]; (repeat (first | rw [if_pos (by omega)] | rw [if_neg (by omega)]))
    have r5 := rq 5 (by omega) (by omega) (by omega)
    have r1 : ∀ j : Int, C' 1 j = D 1 j := fun j => by rw [R]; (repeat (first | rw [if_pos (by omega)] | rw [if_neg (by omega)]))
    have r13 := r1 3
    have r14 := r1 4
    have r15 := r1 5
    have hlf : LfOk C' (4 * u + 5) (D 1 4) := LfOk_hd hl (rq 0 (by omega) (by omega) (by omega)) (rq 1 (by omega) (by omega) (by omega)) r5 (rq 6 (by omega) (by omega) (by omega)) (funext fun i => by rw [R]; (repeat (first | rw [if_pos (by omega)] | rw [if_neg (by omega)]))) (funext fun i => by rw [R]; (repeat (first | rw [if_pos (by omega)] | rw [if_neg (by omega)]))) (funext fun i => by rw [R]; (repeat (first | rw [if_pos (by omega)] | rw [if_neg (by omega)]))) (by omega) (by omega) (by omega) (fun _ => by omega)
    exact ⟨⟨Iv_one hDI (u := u) (by omega) (fun a b1 b2 b3 => funext fun i => by rw [R]; (repeat (first | rw [if_pos (by omega)] | rw [if_neg (by omega)]))) (fun j b1 => by rw [R]; (repeat (first | rw [if_pos (by omega)] | rw [if_neg (by omega)]))) (by omega) (hlf) (by unfold Lf2; omega), by omega, by omega⟩, (Or.inr (Or.inr (Or.inl (⟨by omega, by omega, by omega, by omega, by omega⟩))))⟩
  · have h2c := h2
    clear h2
    have hDI := rem_Iv hI
    have hag := remC_ag hI.1.1
    have h20 := hI.1.1
    have d13 : remC C 1 3 = C 1 3 := by rw [hag 1 (by omega) (by omega)]
    have d14 : remC C 1 4 = C 1 4 := by rw [hag 1 (by omega) (by omega)]
    have d15 : remC C 1 5 = C 1 5 := by rw [hag 1 (by omega) (by omega)]
    have d16 : remC C 1 6 = C 1 6 := by rw [hag 1 (by omega) (by omega)]
    have hl := hDI.lf (u := u) (by omega)
    have h2 := hDI.2.2.2 u (by omega) (by omega)
    have dq : remC C (4 * u + 5) = C (4 * u + 5) := hag _ (by omega) (by omega)
    have dq2 : remC C (4 * u + 5) 2 = C (4 * u + 5) 2 := by rw [dq]
    have dq3 : remC C (4 * u + 5) 3 = C (4 * u + 5) 3 := by rw [dq]
    have dq4 : remC C (4 * u + 5) 4 = C (4 * u + 5) 4 := by rw [dq]
    have dq5 : remC C (4 * u + 5) 5 = C (4 * u + 5) 5 := by rw [dq]
    have dq6 : remC C (4 * u + 5) 6 = C (4 * u + 5) 6 := by rw [dq]
    have dk : ∀ r : Int, 0 ≤ r → r ≤ 3 → remC C (4 * u + 5 + r) = C (4 * u + 5 + r) := fun r b1 b2 => hag _ (by omega) (by omega)
    have hT := hDI.1.2.1
    have h24 := hDI.1.2.2.1
    generalize remC C = D at *
    have hlc := id hl
    obtain ⟨l0, l1, l2, l3, l4, l5, l6, l7, l8⟩ := hlc
    unfold Lf2 at h2
    have R : ∀ a i : Int, C' a i = if a = 4 * u + 5 ∧ i = 4 then D 1 4 else if a = 4 * u + 5 ∧ i = 3 then t else if a = 4 * u + 5 ∧ i = 2 then 1 else D a i := fun a i => by rw [h2c]; repeat rw [ap2]
    have rq : ∀ j : Int, j ≠ 2 → j ≠ 3 → j ≠ 4 → C' (4 * u + 5) j = D (4 * u + 5) j := fun j b1 b2 b3 => by rw [R]; (repeat (first | rw [if_pos (by omega)] | rw [if_neg (by omega)]))
    have r2 : C' (4 * u + 5) 2 = 1 := by rw [R]; (repeat (first | rw [if_pos (by omega)] | rw [if_neg (by omega)]))
    have r3 : C' (4 * u + 5) 3 = t := by rw [R]; (repeat (first | rw [if_pos (by omega)] | rw [if_neg (by omega)]))
    have r4 : C' (4 * u + 5) 4 = D 1 4 := by rw [R]; (repeat (first | rw [if_pos (by omega)] | rw [if_neg (by omega)]))
    have r5 := rq 5 (by omega) (by omega) (by omega)
    have r1 : ∀ j : Int, C' 1 j = D 1 j := fun j => by rw [R]; (repeat (first | rw [if_pos (by omega)] | rw [if_neg (by omega)]))
    have r13 := r1 3
    have r14 := r1 4
    have r15 := r1 5
    have hlf : LfOk C' (4 * u + 5) (D 1 4) := LfOk_hd hl (rq 0 (by omega) (by omega) (by omega)) (rq 1 (by omega) (by omega) (by omega)) r5 (rq 6 (by omega) (by omega) (by omega)) (funext fun i => by rw [R]; (repeat (first | rw [if_pos (by omega)] | rw [if_neg (by omega)]))) (funext fun i => by rw [R]; (repeat (first | rw [if_pos (by omega)] | rw [if_neg (by omega)]))) (funext fun i => by rw [R]; (repeat (first | rw [if_pos (by omega)] | rw [if_neg (by omega)]))) (by omega) (by omega) (by omega) (fun _ => by omega)
    exact ⟨⟨Iv_one hDI (u := u) (by omega) (fun a b1 b2 b3 => funext fun i => by rw [R]; (repeat (first | rw [if_pos (by omega)] | rw [if_neg (by omega)]))) (fun j b1 => by rw [R]; (repeat (first | rw [if_pos (by omega)] | rw [if_neg (by omega)]))) (by omega) (hlf) (by unfold Lf2; omega), by omega, by omega⟩, (Or.inr (Or.inr (Or.inr (⟨by omega, by omega, by omega, by omega, by omega⟩))))⟩
theorem w_decide {C C' : gM} {u t N v : Int} (hI : Iv C N) (hu : 0 ≤ u ∧ u < C 1 3) (ht : t = 0 ∨ t = 1) (hv : (fun v C' => ((¬ (0 ≤ u ∧ u < C 1 3)) ∧ v = -1 ∧ C' = C) ∨ (((0 ≤ u ∧ u < C 1 3) ∧ ¬ C (4 * u + 5) 2 = 1) ∧ v = -4 ∧ C' = C) ∨ (((0 ≤ u ∧ u < C 1 3) ∧ C (4 * u + 5) 2 = 1 ∧ t = 1) ∧ v = smI (fun i => if (up2 (up2 (up2 (remC C) (4 * u + 5) 2 2) (4 * u + 5) 3 (-5)) (4 * u + 5) 4 (remC C 1 4)) (4 * i + 1 + 4) 2 = 1 then 1 else 0) ((up2 (up2 (up2 (remC C) (4 * u + 5) 2 2) (4 * u + 5) 3 (-5)) (4 * u + 5) 4 (remC C 1 4)) 1 3) ∧ C' = up2 (up2 (up2 (remC C) (4 * u + 5) 2 2) (4 * u + 5) 3 (-5)) (4 * u + 5) 4 (remC C 1 4)) ∨ (((0 ≤ u ∧ u < C 1 3) ∧ C (4 * u + 5) 2 = 1 ∧ t = 0) ∧ v = smI (fun i => if (up2 (up2 (up2 (remC C) (4 * u + 5) 2 0) (4 * u + 5) 3 (-5)) (4 * u + 5) 4 (-5)) (4 * i + 1 + 4) 2 = 1 then 1 else 0) ((up2 (up2 (up2 (remC C) (4 * u + 5) 2 0) (4 * u + 5) 3 (-5)) (4 * u + 5) 4 (-5)) 1 3) ∧ C' = up2 (up2 (up2 (remC C) (4 * u + 5) 2 0) (4 * u + 5) 3 (-5)) (4 * u + 5) 4 (-5))) v C') : (Iv C' N ∧ C' 1 3 = C 1 3 ∧ C' 1 4 = C 1 4) ∧ ((C (4 * u + 5) 2 ≠ 1 ∧ v = -4) ∨ (C (4 * u + 5) 2 = 1 ∧ v = ctS C 1 - 1 ∧ C' (4 * u + 5) 2 = (if t = 1 then 2 else 0))) := by
  rcases hv with ⟨h0, h1, h2⟩ | ⟨h0, h1, h2⟩ | ⟨h0, h1, h2⟩ | ⟨h0, h1, h2⟩
  · exact absurd h0 (by omega)
  · subst h2
    exact ⟨⟨hI, rfl, rfl⟩, (Or.inl (⟨by omega, h1⟩))⟩
  · have h1c : v = ctS C' 1 := by rw [h2]; exact h1
    have h2c := h2
    clear h2
    have hDI := rem_Iv hI
    have hag := remC_ag hI.1.1
    have h20 := hI.1.1
    have d13 : remC C 1 3 = C 1 3 := by rw [hag 1 (by omega) (by omega)]
    have d14 : remC C 1 4 = C 1 4 := by rw [hag 1 (by omega) (by omega)]
    have d15 : remC C 1 5 = C 1 5 := by rw [hag 1 (by omega) (by omega)]
    have d16 : remC C 1 6 = C 1 6 := by rw [hag 1 (by omega) (by omega)]
    have hl := hDI.lf (u := u) (by omega)
    have h2 := hDI.2.2.2 u (by omega) (by omega)
    have dq : remC C (4 * u + 5) = C (4 * u + 5) := hag _ (by omega) (by omega)
    have dq2 : remC C (4 * u + 5) 2 = C (4 * u + 5) 2 := by rw [dq]
    have dq3 : remC C (4 * u + 5) 3 = C (4 * u + 5) 3 := by rw [dq]
    have dq4 : remC C (4 * u + 5) 4 = C (4 * u + 5) 4 := by rw [dq]
    have dq5 : remC C (4 * u + 5) 5 = C (4 * u + 5) 5 := by rw [dq]
    have dq6 : remC C (4 * u + 5) 6 = C (4 * u + 5) 6 := by rw [dq]
    have dk : ∀ r : Int, 0 ≤ r → r ≤ 3 → remC C (4 * u + 5 + r) = C (4 * u + 5 + r) := fun r b1 b2 => hag _ (by omega) (by omega)
    have hT := hDI.1.2.1
    have h24 := hDI.1.2.2.1
    generalize remC C = D at *
    have hlc := id hl
    obtain ⟨l0, l1, l2, l3, l4, l5, l6, l7, l8⟩ := hlc
    unfold Lf2 at h2
    have R : ∀ a i : Int, C' a i = if a = 4 * u + 5 ∧ i = 4 then D 1 4 else if a = 4 * u + 5 ∧ i = 3 then (-5) else if a = 4 * u + 5 ∧ i = 2 then 2 else D a i := fun a i => by rw [h2c]; repeat rw [ap2]
    have rq : ∀ j : Int, j ≠ 2 → j ≠ 3 → j ≠ 4 → C' (4 * u + 5) j = D (4 * u + 5) j := fun j b1 b2 b3 => by rw [R]; (repeat (first | rw [if_pos (by omega)] | rw [if_neg (by omega)]))
    have r2 : C' (4 * u + 5) 2 = 2 := by rw [R]; (repeat (first | rw [if_pos (by omega)] | rw [if_neg (by omega)]))
    have r3 : C' (4 * u + 5) 3 = (-5) := by rw [R]; (repeat (first | rw [if_pos (by omega)] | rw [if_neg (by omega)]))
    have r4 : C' (4 * u + 5) 4 = D 1 4 := by rw [R]; (repeat (first | rw [if_pos (by omega)] | rw [if_neg (by omega)]))
    have r5 := rq 5 (by omega) (by omega) (by omega)
    have r1 : ∀ j : Int, C' 1 j = D 1 j := fun j => by rw [R]; (repeat (first | rw [if_pos (by omega)] | rw [if_neg (by omega)]))
    have r13 := r1 3
    have r14 := r1 4
    have r15 := r1 5
    have hlf : LfOk C' (4 * u + 5) (D 1 4) := LfOk_hd hl (rq 0 (by omega) (by omega) (by omega)) (rq 1 (by omega) (by omega) (by omega)) r5 (rq 6 (by omega) (by omega) (by omega)) (funext fun i => by rw [R]; (repeat (first | rw [if_pos (by omega)] | rw [if_neg (by omega)]))) (funext fun i => by rw [R]; (repeat (first | rw [if_pos (by omega)] | rw [if_neg (by omega)]))) (funext fun i => by rw [R]; (repeat (first | rw [if_pos (by omega)] | rw [if_neg (by omega)]))) (by omega) (by omega) (by omega) (fun _ => by omega)
    have hcs := ct_one (k := 1) (D := D) (C' := C') (u := u) (by omega) r13 (fun i b1 b2 => by rw [R]; (repeat (first | rw [if_pos (by omega)] | rw [if_neg (by omega)]))) (by omega)
    have hct : ctS D 1 = ctS C 1 := ctS_ag hag h20
    have r2' : C' (4 * u + 5) 2 = (if t = 1 then 2 else 0) := by rw [r2]; (first | rw [if_pos (by omega)] | rw [if_neg (by omega)])
    exact ⟨⟨Iv_one hDI (u := u) (by omega) (fun a b1 b2 b3 => funext fun i => by rw [R]; (repeat (first | rw [if_pos (by omega)] | rw [if_neg (by omega)]))) (fun j b1 => by rw [R]; (repeat (first | rw [if_pos (by omega)] | rw [if_neg (by omega)]))) (by omega) (hlf) (by unfold Lf2; omega), by omega, by omega⟩, (Or.inr (⟨by omega, by omega, r2'⟩))⟩
  · have h1c : v = ctS C' 1 := by rw [h2]; exact h1
    have h2c := h2
    clear h2
    have hDI := rem_Iv hI
    have hag := remC_ag hI.1.1
    have h20 := hI.1.1
    have d13 : remC C 1 3 = C 1 3 := by rw [hag 1 (by omega) (by omega)]
    have d14 : remC C 1 4 = C 1 4 := by rw [hag 1 (by omega) (by omega)]
    have d15 : remC C 1 5 = C 1 5 := by rw [hag 1 (by omega) (by omega)]
    have d16 : remC C 1 6 = C 1 6 := by rw [hag 1 (by omega) (by omega)]
    have hl := hDI.lf (u := u) (by omega)
    have h2 := hDI.2.2.2 u (by omega) (by omega)
    have dq : remC C (4 * u + 5) = C (4 * u + 5) := hag _ (by omega) (by omega)
    have dq2 : remC C (4 * u + 5) 2 = C (4 * u + 5) 2 := by rw [dq]
    have dq3 : remC C (4 * u + 5) 3 = C (4 * u + 5) 3 := by rw [dq]
    have dq4 : remC C (4 * u + 5) 4 = C (4 * u + 5) 4 := by rw [dq]
    have dq5 : remC C (4 * u + 5) 5 = C (4 * u + 5) 5 := by rw [dq]
    have dq6 : remC C (4 * u + 5) 6 = C (4 * u + 5) 6 := by rw [dq]
    have dk : ∀ r : Int, 0 ≤ r → r ≤ 3 → remC C (4 * u + 5 + r) = C (4 * u + 5 + r) := fun r b1 b2 => hag _ (by omega) (by omega)
    have hT := hDI.1.2.1
    have h24 := hDI.1.2.2.1
    generalize remC C = D at *
    have hlc := id hl
    obtain ⟨l0, l1, l2, l3, l4, l5, l6, l7, l8⟩ := hlc
    unfold Lf2 at h2
    have R : ∀ a i : Int, C' a i = if a = 4 * u + 5 ∧ i = 4 then (-5) else if a = 4 * u + 5 ∧ i = 3 then (-5) else if a = 4 * u + 5 ∧ i = 2 then 0 else D a i := fun a i => by rw [h2c]; repeat rw [ap2]
    have rq : ∀ j : Int, j ≠ 2 → j ≠ 3 → j ≠ 4 → C' (4 * u + 5) j = D (4 * u + 5) j := fun j b1 b2 b3 => by rw [R]; (repeat (first | rw [if_pos (by omega)] | rw [if_neg (by omega)]))
    have r2 : C' (4 * u + 5) 2 = 0 := by rw [R]; (repeat (first | rw [if_pos (by omega)] | rw [if_neg (by omega)]))
    have r3 : C' (4 * u + 5) 3 = (-5) := by rw [R]; (repeat (first | rw [if_pos (by omega)] | rw [if_neg (by omega)]))
    have r4 : C' (4 * u + 5) 4 = (-5) := by rw [R]; (repeat (first | rw [if_pos (by omega)] | rw [if_neg (by omega)]))
    have r5 := rq 5 (by omega) (by omega) (by omega)
    have r1 : ∀ j : Int, C' 1 j = D 1 j := fun j => by rw [R]; (repeat (first | rw [if_pos (by omega)] | rw [if_neg (by omega)]))
    have r13 := r1 3
    have r14 := r1 4
    have r15 := r1 5
    have hlf : LfOk C' (4 * u + 5) (D 1 4) := LfOk_hd hl (rq 0 (by omega) (by omega) (by omega)) (rq 1 (by omega) (by omega) (by omega)) r5 (rq 6 (by omega) (by omega) (by omega)) (funext fun i => by rw [R]; (repeat (first | rw [if_pos (by omega)] | rw [if_neg (by omega)]))) (funext fun i => by rw [R]; (repeat (first | rw [if_pos (by omega)] | rw [if_neg (by omega)]))) (funext fun i => by rw [R]; (repeat (first | rw [if_pos (by omega)] | rw [if_neg (by omega)]))) (by omega) (by omega) (by omega) (fun _ => by omega)
    have hcs := ct_one (k := 1) (D := D) (C' := C') (u := u) (by omega) r13 (fun i b1 b2 => by rw [R]; (repeat (first | rw [if_pos (by omega)] | rw [if_neg (by omega)]))) (by omega)
    have hct : ctS D 1 = ctS C 1 := ctS_ag hag h20
    have r2' : C' (4 * u + 5) 2 = (if t = 1 then 2 else 0) := by rw [r2]; (first | rw [if_pos (by omega)] | rw [if_neg (by omega)])
    exact ⟨⟨Iv_one hDI (u := u) (by omega) (fun a b1 b2 b3 => funext fun i => by rw [R]; (repeat (first | rw [if_pos (by omega)] | rw [if_neg (by omega)]))) (fun j b1 => by rw [R]; (repeat (first | rw [if_pos (by omega)] | rw [if_neg (by omega)]))) (by omega) (hlf) (by unfold Lf2; omega), by omega, by omega⟩, (Or.inr (⟨by omega, by omega, r2'⟩))⟩
theorem Iv_row {D C' : gM} {N : Int} (h : Iv D N) (e : ∀ a : Int, a < 570 → a ≠ 2 → a ≠ 3 → C' a = D a) (h2 : (1 ≤ C' 2 0 ∧ C' 2 0 ≤ 24) ∧ (10 ≤ C' 2 1 ∧ C' 2 1 ≤ 200) ∧ (0 ≤ C' 2 2 ∧ C' 2 2 ≤ 100) ∧ (1 ≤ C' 2 3 ∧ C' 2 3 ≤ 3) ∧ (1 ≤ C' 2 4 ∧ C' 2 4 ≤ 9)) (h3 : ∀ s : Int, 0 ≤ s ∧ s ≤ 5 → 0 ≤ C' 3 s ∧ C' 3 s ≤ 100) : Iv C' N := by
  obtain ⟨⟨g1, g2, g3, g4, g5, g6, g7, g8, g9, g10, g11⟩, k2, k3, k4⟩ := h
  have e1 := e 1 (by omega) (by omega) (by omega)
  obtain ⟨t0, t1, t2, t3, t4⟩ := h2
  refine ⟨⟨by rw [e1]; exact g1, by rw [e1]; exact g2, by rw [e1]; exact g3, by rw [e1]; exact g4, t0, t1, t2, t3, t4, h3, fun i a1 a2 => ?_⟩, by rw [e 169 (by omega) (by omega) (by omega)]; exact k2, by rw [e 169 (by omega) (by omega) (by omega)]; exact k3, fun i a1 a2 => ?_⟩
  · rw [e1] at a2 ⊢
    exact LfOk_ag (fun a b1 b2 => e a (by omega) (by omega) (by omega)) (g11 i a1 a2)
  · rw [e1] at a2
    unfold Lf2
    rw [e (4 * i + 5) (by omega) (by omega) (by omega)]
    exact k4 i a1 a2
theorem w_trust {C C' : gM} {u t N v : Int} (hI : Iv C N) (hu : 0 ≤ u ∧ u < 6) (ht : 0 ≤ t ∧ t ≤ 100) (hv : (fun v C' => ((¬ (0 ≤ u ∧ u < 6)) ∧ v = -1 ∧ C' = C) ∨ (((0 ≤ u ∧ u < 6) ∧ ¬ (0 ≤ t ∧ t ≤ 100)) ∧ v = -2 ∧ C' = C) ∨ (((0 ≤ u ∧ u < 6) ∧ (0 ≤ t ∧ t ≤ 100) ∧ C 3 u = t) ∧ v = -5 ∧ C' = C) ∨ (((0 ≤ u ∧ u < 6) ∧ (0 ≤ t ∧ t ≤ 100) ∧ ¬ C 3 u = t) ∧ v = C 3 u ∧ C' = up2 (remC C) 3 u t)) v C') : ((Iv C' N ∧ C' 1 3 = C 1 3 ∧ C' 1 4 = C 1 4) ∧ ((C 3 u = t ∧ v = -5) ∨ (C 3 u ≠ t ∧ v = C 3 u))) ∧ C' 3 u = t ∧ (∀ a : Int, 5 ≤ a → a < 85 → C' a = C a) := by
  rcases hv with ⟨h0, h1, h2⟩ | ⟨h0, h1, h2⟩ | ⟨h0, h1, h2⟩ | ⟨h0, h1, h2⟩
  · omega
  · omega
  · subst h2
    exact ⟨⟨⟨hI, rfl, rfl⟩, (Or.inl (⟨h0.2.2, h1⟩))⟩, h0.2.2, fun a _ _ => rfl⟩
  · have h2c := h2
    clear h2
    have hDI := rem_Iv hI
    have hag := remC_ag hI.1.1
    have h20 := hI.1.1
    have d13 : remC C 1 3 = C 1 3 := by rw [hag 1 (by omega) (by omega)]
    have d14 : remC C 1 4 = C 1 4 := by rw [hag 1 (by omega) (by omega)]
    have d15 : remC C 1 5 = C 1 5 := by rw [hag 1 (by omega) (by omega)]
    have d16 : remC C 1 6 = C 1 6 := by rw [hag 1 (by omega) (by omega)]
    have hT := hDI.1
    generalize remC C = D at *
    have R : ∀ a i : Int, C' a i = if a = 3 ∧ i = u then t else D a i := fun a i => by rw [h2c, ap2]
    have r13 : C' 1 3 = D 1 3 := by rw [R]; (repeat (first | rw [if_pos (by omega)] | rw [if_neg (by omega)]))
    have r14 : C' 1 4 = D 1 4 := by rw [R]; (repeat (first | rw [if_pos (by omega)] | rw [if_neg (by omega)]))
    have r3 : C' 3 u = t := by rw [R]; (repeat (first | rw [if_pos (by omega)] | rw [if_neg (by omega)]))
    have r2 : C' 2 = D 2 := funext fun i => by rw [R]; (repeat (first | rw [if_pos (by omega)] | rw [if_neg (by omega)]))
    refine ⟨⟨⟨Iv_row hDI (fun a b1 b2 b3 => funext fun i => by rw [R]; (repeat (first | rw [if_pos (by omega)] | rw [if_neg (by omega)]))) (by rw [r2]; exact ⟨hT.2.2.2.2.1, hT.2.2.2.2.2.1, hT.2.2.2.2.2.2.1, hT.2.2.2.2.2.2.2.1, hT.2.2.2.2.2.2.2.2.1⟩) (fun s hs => ?_), by omega, by omega⟩, (Or.inr (⟨by omega, h1⟩))⟩, r3, fun a b1 b2 => by rw [← hag a (by omega) (by omega)]; exact funext fun i => by rw [R]; (repeat (first | rw [if_pos (by omega)] | rw [if_neg (by omega)]))⟩
    by_cases hsu : s = u
    · rw [hsu, r3]; omega
    · rw [show C' 3 s = D 3 s by rw [R]; (repeat (first | rw [if_pos (by omega)] | rw [if_neg (by omega)]))]; exact hT.2.2.2.2.2.2.2.2.2.1 s hs
theorem w_set {C C' : gM} {u t N v : Int} (hI : Iv C N) (hu : ((u = 0 ∧ 1 ≤ t ∧ t ≤ 24) ∨ (u = 1 ∧ 10 ≤ t ∧ t ≤ 200) ∨ (u = 2 ∧ 0 ≤ t ∧ t ≤ 100) ∨ (u = 3 ∧ 1 ≤ t ∧ t ≤ 3) ∨ (u = 4 ∧ 1 ≤ t ∧ t ≤ 9))) (hn : C 2 u ≠ t) (hv : (fun v C' => ((¬ ((u = 0 ∧ 1 ≤ t ∧ t ≤ 24) ∨ (u = 1 ∧ 10 ≤ t ∧ t ≤ 200) ∨ (u = 2 ∧ 0 ≤ t ∧ t ≤ 100) ∨ (u = 3 ∧ 1 ≤ t ∧ t ≤ 3) ∨ (u = 4 ∧ 1 ≤ t ∧ t ≤ 9))) ∧ v = -2 ∧ C' = C) ∨ ((((u = 0 ∧ 1 ≤ t ∧ t ≤ 24) ∨ (u = 1 ∧ 10 ≤ t ∧ t ≤ 200) ∨ (u = 2 ∧ 0 ≤ t ∧ t ≤ 100) ∨ (u = 3 ∧ 1 ≤ t ∧ t ≤ 3) ∨ (u = 4 ∧ 1 ≤ t ∧ t ≤ 9)) ∧ C 2 u = t) ∧ v = -5 ∧ C' = C) ∨ ((((u = 0 ∧ 1 ≤ t ∧ t ≤ 24) ∨ (u = 1 ∧ 10 ≤ t ∧ t ≤ 200) ∨ (u = 2 ∧ 0 ≤ t ∧ t ≤ 100) ∨ (u = 3 ∧ 1 ≤ t ∧ t ≤ 3) ∨ (u = 4 ∧ 1 ≤ t ∧ t ≤ 9)) ∧ ¬ C 2 u = t) ∧ v = C 2 u ∧ C' = up2 (remC C) 2 u t)) v C') : v = C 2 u ∧ Iv C' N ∧ C' 1 3 = C 1 3 ∧ (∀ i : Int, C' 2 i = if i = u then t else C 2 i) ∧ (∀ a : Int, 1 ≤ a → a < 85 → a ≠ 2 → C' a = C a) := by
  rcases hv with ⟨h0, h1, h2⟩ | ⟨h0, h1, h2⟩ | ⟨h0, h1, h2⟩
  · exact absurd hu h0
  · exact absurd h0.2 hn
  · refine ⟨h1, ?_⟩
    have h2c := h2
    clear h2
    have hDI := rem_Iv hI
    have hag := remC_ag hI.1.1
    have h20 := hI.1.1
    have d13 : remC C 1 3 = C 1 3 := by rw [hag 1 (by omega) (by omega)]
    have d14 : remC C 1 4 = C 1 4 := by rw [hag 1 (by omega) (by omega)]
    have d15 : remC C 1 5 = C 1 5 := by rw [hag 1 (by omega) (by omega)]
    have d16 : remC C 1 6 = C 1 6 := by rw [hag 1 (by omega) (by omega)]
    have hT := hDI.1
    generalize remC C = D at *
    have R : ∀ a i : Int, C' a i = if a = 2 ∧ i = u then t else D a i := fun a i => by rw [h2c, ap2]
    have R2 : ∀ i : Int, C' 2 i = if i = u then t else D 2 i := fun i => by
      rw [R]
      by_cases hi : i = u
      · rw [if_pos ⟨rfl, hi⟩, if_pos hi]
      · rw [if_neg (fun z => hi z.2), if_neg hi]
    have r13 : C' 1 3 = D 1 3 := by rw [R]; (repeat (first | rw [if_pos (by omega)] | rw [if_neg (by omega)]))
    have r14 : C' 1 4 = D 1 4 := by rw [R]; (repeat (first | rw [if_pos (by omega)] | rw [if_neg (by omega)]))
    have r3 : C' 3 = D 3 := funext fun i => by rw [R]; (repeat (first | rw [if_pos (by omega)] | rw [if_neg (by omega)]))
    have dr2 : D 2 = C 2 := hag 2 (by omega) (by omega)
    have q0 := hT.2.2.2.2.1
    have q1 := hT.2.2.2.2.2.1
    have q2 := hT.2.2.2.2.2.2.1
    have q3 := hT.2.2.2.2.2.2.2.1
    have q4 := hT.2.2.2.2.2.2.2.2.1
    rw [show (1 : Int) + 1 = 2 by omega] at q0 q1 q2 q3 q4
    refine ⟨Iv_row hDI (fun a b1 b2 b3 => funext fun i => by rw [R]; (repeat (first | rw [if_pos (by omega)] | rw [if_neg (by omega)]))) ⟨?_, ?_, ?_, ?_, ?_⟩ (fun s hs => by rw [r3]; exact hT.2.2.2.2.2.2.2.2.2.1 s hs), by omega, fun i => by rw [R2, dr2], fun a b1 b2 b3 => by rw [← hag a (by omega) (by omega)]; exact funext fun i => by rw [R]; (repeat (first | rw [if_pos (by omega)] | rw [if_neg (by omega)]))⟩
    · rw [R2]; split <;> omega
    · rw [R2]; split <;> omega
    · rw [R2]; split <;> omega
    · rw [R2]; split <;> omega
    · rw [R2]; split <;> omega
