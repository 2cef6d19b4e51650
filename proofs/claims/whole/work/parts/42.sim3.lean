/-! the acts keep both sides together -/
theorem ap2 {C : gM} {k j x a i : Int} : up2 C k j x a i = if a = k ∧ i = j then x else C a i := by
  by_cases h : a = k
  · subst h
    rw [rd_at]
    by_cases h2 : i = j
    · rw [if_pos h2, if_pos ⟨rfl, h2⟩]
    · rw [if_neg h2, if_neg (fun z => h2 z.2)]
  · rw [up2_ne _ _ _ h, if_neg (fun z => h z.1)]
section
variable {C C' D E S S' : gM} {N N' : Int} {f f' : Int → Int}
theorem JJ_mono (hJ : JJ C S N) : JJ C S (N + 1) := ⟨Cur_e (by omega) (fun _ _ _ => rfl) (fun _ _ _ => rfl) hJ.1, Rest_e (by omega) hJ.2 (fun _ _ _ => rfl) rfl rfl rfl hJ.2.2.2.2.2.2.2.1 rfl rfl rfl rfl rfl rfl hJ.2.2.2.2.2.2.2.2⟩
theorem act_J (hJ : JJ D E N) (hc : Cur C' 1 (S' 579) (N + 1)) (eC : ∀ a : Int, (a = 0 ∨ (85 ≤ a ∧ a < 570)) → C' a = D a) (eS : ∀ a : Int, a = 580 ∨ a = 581 ∨ a = 584 → S' a = E a) (e8 : ∀ j : Int, j ≠ 5 → j ≠ 6 → S' 578 j = E 578 j) : JJ C' S' (N + 1) := by
  have hr := hJ.2.2.2.2
  refine ⟨hc, Rest_e (by omega) hJ.2 (fun a _ _ => eC a (by omega)) (by rw [eC 0 (by omega)]) (eC 508 (by omega)) (by rw [eC 507 (by omega)]) (by rw [eC 507 (by omega)]; exact hr.2.2.2.1) (eS 580 (by omega)) (eS 581 (by omega)) (eS 584 (by omega)) (e8 8 (by omega) (by omega)) (e8 9 (by omega) (by omega)) (e8 10 (by omega) (by omega)) ?_⟩
  rw [e8 12 (by omega) (by omega)]
  exact hr.2.2.2.2
theorem hd_mod (h : HdR C 1 f N) (e3 : C' 1 3 = C 1 3) (e4 : C' 1 4 = C 1 4) (e5 : 0 ≤ C' 1 5 ∧ C' 1 5 ≤ 24) (e6 : 0 ≤ C' 1 6 ∧ C' 1 6 ≤ N + 1) (c2 : C' 2 = C 2) (c3 : C' 3 = C 3) (ff : ∀ k : Int, 0 ≤ k → k ≤ 14 → k ≠ 2 → k ≠ 3 → f' k = f k) (f2 : f' 2 = C' 1 5) (f3 : f' 3 = C' 1 6) : HdR C' 1 f' (N + 1) := by
  obtain ⟨h1, h2, h3, h4, h5⟩ := h
  have c2' : C' (1 + 1) = C (1 + 1) := c2
  have c3' : C' (1 + 2) = C (1 + 2) := c3
  unfold HdR
  rw [c2', c3', e3, e4, ff 0 (by omega) (by omega) (by omega) (by omega), ff 1 (by omega) (by omega) (by omega) (by omega), ff 4 (by omega) (by omega) (by omega) (by omega), ff 5 (by omega) (by omega) (by omega) (by omega), ff 6 (by omega) (by omega) (by omega) (by omega), ff 7 (by omega) (by omega) (by omega) (by omega), ff 8 (by omega) (by omega) (by omega) (by omega)]
  refine ⟨⟨h1.1, h1.2.1, f2, f3⟩, ⟨h2.1, by omega, e5, e6⟩, h3, h4, fun s hs => ?_⟩
  rw [ff _ (by omega) (by omega) (by omega) (by omega)]
  exact h5 s hs
theorem cur_hd (h : Cur C 1 f N) (hH : HdR C' 1 f' N') (e3 : C' 1 3 = C 1 3) (e4 : C' 1 4 = C 1 4) (hC : ∀ a : Int, 5 ≤ a → a < 85 → C' a = C a) (hf : ∀ k : Int, 16 ≤ k → f' k = f k) : Cur C' 1 f' N' := by
  have h13 := h.1.2.1.1
  refine ⟨hH, fun i h0 h1 => ?_, fun i h0 h1 r a1 a2 => ?_⟩
  · rw [e4]
    exact LfR_p (fun j _ _ => by rw [hC _ (by omega) (by omega)]) (fun j _ _ => by rw [hC _ (by omega) (by omega)]) (fun j _ _ => by rw [hC _ (by omega) (by omega)]) (fun j _ _ => by rw [hC _ (by omega) (by omega)]) (fun r b1 b2 => hf _ (by omega)) (h.2.1 i h0 (by omega))
  · rw [hf _ (by omega)]
    exact h.2.2 i (by omega) h1 r a1 a2
theorem cur_one {u : Int} (h : Cur C 1 f N) (hu : 0 ≤ u ∧ u < C 1 3) (hH : HdR C' 1 f' N') (e3 : C' 1 3 = C 1 3) (e4 : C' 1 4 = C 1 4) (hC : ∀ a : Int, 5 ≤ a → a < 85 → (a < 4 * u + 5 ∨ 4 * u + 8 < a) → C' a = C a) (hf : ∀ k : Int, 16 ≤ k → (k < 32 * u + 16 ∨ 32 * u + 48 ≤ k) → f' k = f k) (hL : LfR C' (4 * u + 5) f' (32 * u) (C 1 4)) : Cur C' 1 f' N' := by
  have h13 := h.1.2.1.1
  refine ⟨hH, fun i h0 h1 => ?_, fun i h0 h1 r a1 a2 => ?_⟩
  · rw [e4]
    by_cases hi : i = u
    · subst hi
      rw [show 4 * i + 1 + 4 = 4 * i + 5 by omega]
      exact hL
    · exact LfR_p (fun j _ _ => by rw [hC _ (by omega) (by omega) (by omega)]) (fun j _ _ => by rw [hC _ (by omega) (by omega) (by omega)]) (fun j _ _ => by rw [hC _ (by omega) (by omega) (by omega)]) (fun j _ _ => by rw [hC _ (by omega) (by omega) (by omega)]) (fun r b1 b2 => hf _ (by omega) (by omega)) (h.2.1 i h0 (by omega))
  · rw [hf _ (by omega) (by omega)]
    exact h.2.2 i (by omega) h1 r a1 a2
theorem LfR_h {q p T : Int} (h : LfR C q f p T) (e0 : C' q 0 = C q 0) (e1 : C' q 1 = C q 1) (e6 : C' q 6 = C q 6) (k1 : C' (q + 1) = C (q + 1)) (k2 : C' (q + 2) = C (q + 2)) (k3 : C' (q + 3) = C (q + 3)) (ef : ∀ r : Int, 16 ≤ r → r < 48 → r ≠ 18 → r ≠ 20 → r ≠ 21 → r ≠ 22 → f' (p + r) = f (p + r))
    (s2 : 0 ≤ C' q 2 ∧ C' q 2 ≤ 3) (s3 : -5 ≤ C' q 3 ∧ C' q 3 ≤ 5) (s4 : -5 ≤ C' q 4 ∧ C' q 4 ≤ T) (s5 : -5 ≤ C' q 5 ∧ C' q 5 ≤ T) (s24 : C' q 2 ≠ 0 → 0 ≤ C' q 4) (f18 : f' (p + 18) = C' q 2) (f22 : f' (p + 22) = C' q 5) (f20 : C' q 2 ≠ 0 → f' (p + 20) = C' q 4) (al : C' q 2 = 0 → C' q 4 = -5) (f21 : C' q 2 = 1 → f' (p + 21) = C' q 3) (b20 : 0 ≤ f' (p + 20) ∧ f' (p + 20) ≤ T) (b21 : 0 ≤ f' (p + 21) ∧ f' (p + 21) ≤ 5) : LfR C' q f' p T := by
  obtain ⟨⟨b0, b1, b2, b3, b4, b5, b6, b7, b8⟩, ⟨g0, g1, g2, g3, g4⟩, g5, g6, g7, g8, g9, g10⟩ := h
  have d16 := ef 16 (by omega) (by omega) (by omega) (by omega) (by omega) (by omega)
  have d17 := ef 17 (by omega) (by omega) (by omega) (by omega) (by omega) (by omega)
  have d19 := ef 19 (by omega) (by omega) (by omega) (by omega) (by omega) (by omega)
  refine ⟨⟨by omega, by omega, s2, s3, s4, s5, by omega, s24, fun j a1 a2 => ?_⟩, ⟨by omega, by omega, f18, by omega, f22⟩, f20, al, f21, b20, b21, fun j a1 a2 => ?_⟩
  · rw [k1, k2, k3]
    exact b8 j a1 (by omega)
  · rw [k1, k2, k3]
    have y1 := ef (3 * j + 24) (by omega) (by omega) (by omega) (by omega) (by omega) (by omega)
    have y2 := ef (3 * j + 25) (by omega) (by omega) (by omega) (by omega) (by omega) (by omega)
    have y3 := ef (3 * j + 26) (by omega) (by omega) (by omega) (by omega) (by omega) (by omega)
    rw [show p + (3 * j + 24) = p + 3 * j + 24 by omega] at y1
    rw [show p + (3 * j + 25) = p + 3 * j + 25 by omega] at y2
    rw [show p + (3 * j + 26) = p + 3 * j + 26 by omega] at y3
    rw [y1, y2, y3]
    exact g10 j a1 (by omega)
theorem LfR_f {q p T : Int} (h : LfR C q f p T) (e0 : ∀ j : Int, 0 ≤ j → j ≤ 5 → C' q j = C q j) (e6 : 0 ≤ C' q 6 ∧ C' q 6 ≤ 8) (ef : ∀ r : Int, 16 ≤ r → r ≤ 22 → r ≠ 19 → f' (p + r) = f (p + r)) (f19 : f' (p + 19) = C' q 6)
    (hf : ∀ j : Int, 0 ≤ j → j < C' q 6 → (f' (p + 3 * j + 24) = C' (q + 1) j ∧ f' (p + 3 * j + 25) = C' (q + 2) j ∧ f' (p + 3 * j + 26) = C' (q + 3) j) ∧ (0 ≤ C' (q + 1) j ∧ C' (q + 1) j ≤ 5) ∧ (1 ≤ C' (q + 2) j ∧ C' (q + 2) j ≤ 9) ∧ (0 ≤ C' (q + 3) j ∧ C' (q + 3) j ≤ T)) : LfR C' q f' p T := by
  obtain ⟨⟨b0, b1, b2, b3, b4, b5, b6, b7, b8⟩, ⟨g0, g1, g2, g3, g4⟩, g5, g6, g7, g8, g9, g10⟩ := h
  have d16 := ef 16 (by omega) (by omega) (by omega)
  have d17 := ef 17 (by omega) (by omega) (by omega)
  have d18 := ef 18 (by omega) (by omega) (by omega)
  have d20 := ef 20 (by omega) (by omega) (by omega)
  have d21 := ef 21 (by omega) (by omega) (by omega)
  have d22 := ef 22 (by omega) (by omega) (by omega)
  have c0 := e0 0 (by omega) (by omega)
  have c1 := e0 1 (by omega) (by omega)
  have c2 := e0 2 (by omega) (by omega)
  have c3 := e0 3 (by omega) (by omega)
  have c4 := e0 4 (by omega) (by omega)
  have c5 := e0 5 (by omega) (by omega)
  refine ⟨⟨by omega, by omega, by omega, by omega, by omega, by omega, e6, fun z => ?_, fun j a1 a2 => (hf j a1 a2).2⟩, ⟨by omega, by omega, by omega, f19, by omega⟩, fun z => ?_, fun z => ?_, fun z => ?_, by omega, by omega, fun j a1 a2 => (hf j a1 a2).1⟩
  · have := b7 (by omega)
    omega
  · have := g5 (by omega)
    omega
  · have := g6 (by omega)
    omega
  · have := g7 (by omega)
    omega
end
