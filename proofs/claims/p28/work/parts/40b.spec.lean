theorem sgN_ag {C M : gM} {u : Int} (e : agD C M 1) (h : 0 ≤ C 1 3 ∧ C 1 3 ≤ 20) : sgN M u = sgN C u := by
  unfold sgN
  rw [e 1 (by omega) (by omega)]
  exact smI_congr fun j a1 a2 => by rw [e (4 * j + 1 + 4) (by omega) (by omega), e (4 * j + 1 + 5) (by omega) (by omega)]
/-- what the page is -/
def Lq (C L : gM) : Prop := ∃ (q : Int → Int) (m : Int), Rnk q m (fun i => C (4 * i + 1 + 4) 2 = 2 ∧ rdy C 1 i) (dky C 1) (C 1 3) ∧ L 573 3 = pgf q (lnP C 1) (C (1 + 1) 1) m ∧ L 573 2 = pgc q (lnP C 1) (C (1 + 1) 1) m ∧ ∀ t, 0 ≤ t → t < m → tkn q (lnP C 1) (C (1 + 1) 1) t → L 577 (pgc q (lnP C 1) (C (1 + 1) 1) t) = q t
def pgv (L : gM) (u : Int) : Int := if u < L 573 2 then L 577 u else -5
def Uq (C L : gM) : Prop := Rnk (L 571) (L 570 2) (fun i => C (4 * i + 1 + 4) 2 = 0) (urgP C 1) (C 1 3)
def ugv (L : gM) (u : Int) : Int := if u < L 570 2 then L 571 u else -5
theorem Laid_lq {C L : gM} (h : Laid C L 1) : Lq C L := by
  obtain ⟨q, m, h1, h2, h3, h4, -⟩ := h
  exact ⟨q, m, h1, h2, h3, h4⟩
theorem Laid_sc {C L : gM} (h : Laid C L 1) : Sc C L := by
  obtain ⟨q, m, h1, h2, h3, h4, h5, h6, h7, h8⟩ := h
  exact fun a ha => h8 a (by omega)
theorem Rnk_cg {e : Int → Int} {m n : Int} {P P' : Int → Prop} {f f' : Int → Int} (hP : ∀ x, 0 ≤ x → x < n → (P x ↔ P' x)) (hf : ∀ x, 0 ≤ x → x < n → f x = f' x) (h : Rnk e m P f n) : Rnk e m P' f' n := by
  obtain ⟨h1, h2, h3, h4⟩ := h
  refine ⟨h1, fun t a1 a2 => ?_, fun s t a1 a2 a3 => ?_, fun g hg => h4 g fun x a1 a2 a3 => hg x a1 a2 fun z => a3 ((hP x a1 a2).mpr z)⟩
  · obtain ⟨b1, b2, b3⟩ := h2 t a1 a2
    exact ⟨b1, b2, (hP _ b1 b2).mp b3⟩
  · have b1 := h2 s a1 (by omega)
    have b2 := h2 t (by omega) a3
    have := h3 s t a1 a2 a3
    unfold ahd at *
    rw [← hf _ b1.1 b1.2.1, ← hf _ b2.1 b2.2.1]
    exact this
theorem Lq_ag {C M L : gM} (e : agD C M 1) (h : 0 ≤ C 1 3 ∧ C 1 3 ≤ 20) (hL : Lq M L) : Lq C L := by
  obtain ⟨q, m, h1, h2, h3, h4⟩ := hL
  have e3 : M 1 3 = C 1 3 := by rw [e 1 (by omega) (by omega)]
  have e2 : M (1 + 1) 1 = C (1 + 1) 1 := by rw [e (1 + 1) (by omega) (by omega)]
  rw [e3] at h1
  rw [e2] at h2 h3
  have hq := h1.2.1
  have hc : ∀ t, 0 ≤ t → t < m → q t = q t ∧ lnP M 1 (q t) = lnP C 1 (q t) := fun t a1 a2 => ⟨rfl, lnP_ag e (by have := hq t a1 a2; omega)⟩
  refine ⟨q, m, Rnk_cg (fun x a1 a2 => ?_) (fun x a1 a2 => dky_ag e (by omega)) h1, ?_, ?_, fun t a1 a2 a3 => ?_⟩
  · rw [e (4 * x + 1 + 4) (by omega) (by omega), rdy_ag e (by omega)]
  · rw [h2]; exact (pg_congr hc m h1.1.1 (Int.le_refl _)).1
  · rw [h3]; exact (pg_congr hc m h1.1.1 (Int.le_refl _)).2
  · rw [← (pg_congr hc t a1 (by omega)).2, ← e2]
    exact h4 t a1 a2 (by rw [e2]; exact (tkn_congr hc ⟨a1, a2⟩).mpr a3)
theorem Lq_same {C L L' : gM} (h : 0 ≤ C 1 3 ∧ C 1 3 ≤ 20) (hA : Lq C L) (hB : Lq C L') : L 573 2 = L' 573 2 ∧ L 573 3 = L' 573 3 ∧ ∀ r : Int, 0 ≤ r → r < L 573 2 → L 577 r = L' 577 r := by
  obtain ⟨q, m, h1, h2, h3, h4⟩ := hA
  obtain ⟨q', m', g1, g2, g3, g4⟩ := hB
  obtain ⟨rfl, hq⟩ := Rnk_uniq (fun _ _ _ => Iff.rfl) (fun _ _ _ _ => rfl) h1 g1
  have hc : ∀ t, 0 ≤ t → t < m → q t = q' t ∧ lnP C 1 (q t) = lnP C 1 (q' t) := fun t a1 a2 => ⟨hq t a1 a2, by rw [hq t a1 a2]⟩
  have p := pg_congr (f0 := C (1 + 1) 1) hc
  refine ⟨by rw [h3, g3]; exact (p m h1.1.1 (Int.le_refl _)).2, by rw [h2, g2]; exact (p m h1.1.1 (Int.le_refl _)).1, fun r a1 a2 => ?_⟩
  rw [h3] at a2
  obtain ⟨t, b1, b2, b3, b4⟩ := pg_at h1.1.1 ⟨a1, a2⟩
  rw [← b4, h4 t b1 b2 b3, (p t b1 (by omega)).2, hq t b1 b2]
  exact (g4 t b1 b2 ((tkn_congr hc ⟨b1, b2⟩).mp b3)).symm
theorem pgv_same {C L L' : gM} {u : Int} (h : 0 ≤ C 1 3 ∧ C 1 3 ≤ 20) (hA : Lq C L) (hB : Lq C L') (hu : 0 ≤ u) : pgv L u = pgv L' u := by
  obtain ⟨e1, -, e3⟩ := Lq_same h hA hB
  unfold pgv
  rw [← e1]
  by_cases hc : u < L 573 2
  · rw [if_pos hc, if_pos hc, e3 u hu hc]
  · rw [if_neg hc, if_neg hc]
theorem Uq_of {C M L : gM} (e : agD C M 1) (h : 0 ≤ C 1 3 ∧ C 1 3 ≤ 20) (hL : Rnk (L 571) (L 570 2) (fun i => M (4 * i + 1 + 4) 2 = 0) (urgP M 1) (M 1 3)) : Uq C L := by
  have e3 : M 1 3 = C 1 3 := by rw [e 1 (by omega) (by omega)]
  rw [e3] at hL
  exact Rnk_cg (fun x a1 a2 => by rw [e (4 * x + 1 + 4) (by omega) (by omega)]) (fun x a1 a2 => urg_ag e (by omega)) hL
theorem sp_0 (l : Launch) (G : gG) (b : Nat) (C M S : gM) (u N : Int) (hS : Sc C M) (hI : Iv C N) (hN : N ≤ 512) (hu : 0 ≤ u ∧ u < C 1 3) : Ct l G b yX6_person cX6_person 4 (some .int) rmX6_person [.ref (ad b 0), .int (iI u), .int (iI 0)] 578 (wM G b M S) (RI G b M S (fun v => v = C (4 * u + 5) 0)) := by
  have hM := hS.iv hI
  have e := hS.ag
  have h20 := hI.1.1
  have e13 : M 1 3 = C 1 3 := by rw [hS 1 (by omega)]
  refine Ct_mono (tX6_person l G b M S u 0 N (by omega) (by omega) hM.1 hN hM.2.1 hM.2.2.1) (fun r n w h => RI_mono (fun v hv => ?_) h)
  rw [← hS (4 * u + 5) (by omega)]
  omega
theorem sp_1 (l : Launch) (G : gG) (b : Nat) (C M S : gM) (u N : Int) (hS : Sc C M) (hI : Iv C N) (hN : N ≤ 512) (hu : 0 ≤ u ∧ u < C 1 3) : Ct l G b yX6_person cX6_person 4 (some .int) rmX6_person [.ref (ad b 0), .int (iI u), .int (iI 1)] 578 (wM G b M S) (RI G b M S (fun v => v = C (4 * u + 5) 1)) := by
  have hM := hS.iv hI
  have e := hS.ag
  have h20 := hI.1.1
  have e13 : M 1 3 = C 1 3 := by rw [hS 1 (by omega)]
  refine Ct_mono (tX6_person l G b M S u 1 N (by omega) (by omega) hM.1 hN hM.2.1 hM.2.2.1) (fun r n w h => RI_mono (fun v hv => ?_) h)
  rw [← hS (4 * u + 5) (by omega)]
  omega
theorem sp_2 (l : Launch) (G : gG) (b : Nat) (C M S : gM) (u N : Int) (hS : Sc C M) (hI : Iv C N) (hN : N ≤ 512) (hu : 0 ≤ u ∧ u < C 1 3) : Ct l G b yX6_person cX6_person 4 (some .int) rmX6_person [.ref (ad b 0), .int (iI u), .int (iI 2)] 578 (wM G b M S) (RI G b M S (fun v => v = C (4 * u + 5) 2)) := by
  have hM := hS.iv hI
  have e := hS.ag
  have h20 := hI.1.1
  have e13 : M 1 3 = C 1 3 := by rw [hS 1 (by omega)]
  refine Ct_mono (tX6_person l G b M S u 2 N (by omega) (by omega) hM.1 hN hM.2.1 hM.2.2.1) (fun r n w h => RI_mono (fun v hv => ?_) h)
  rw [← hS (4 * u + 5) (by omega)]
  omega
theorem sp_3 (l : Launch) (G : gG) (b : Nat) (C M S : gM) (u N : Int) (hS : Sc C M) (hI : Iv C N) (hN : N ≤ 512) (hu : 0 ≤ u ∧ u < C 1 3) : Ct l G b yX6_person cX6_person 4 (some .int) rmX6_person [.ref (ad b 0), .int (iI u), .int (iI 3)] 578 (wM G b M S) (RI G b M S (fun v => v = C (4 * u + 5) 6)) := by
  have hM := hS.iv hI
  have e := hS.ag
  have h20 := hI.1.1
  have e13 : M 1 3 = C 1 3 := by rw [hS 1 (by omega)]
  refine Ct_mono (tX6_person l G b M S u 3 N (by omega) (by omega) hM.1 hN hM.2.1 hM.2.2.1) (fun r n w h => RI_mono (fun v hv => ?_) h)
  rw [← hS (4 * u + 5) (by omega)]
  omega
theorem sp_4 (l : Launch) (G : gG) (b : Nat) (C M S : gM) (u N : Int) (hS : Sc C M) (hI : Iv C N) (hN : N ≤ 512) (hu : 0 ≤ u ∧ u < C 1 3) : Ct l G b yX6_person cX6_person 4 (some .int) rmX6_person [.ref (ad b 0), .int (iI u), .int (iI 4)] 578 (wM G b M S) (RI G b M S (fun v => v = lnI C u)) := by
  have hM := hS.iv hI
  have e := hS.ag
  have h20 := hI.1.1
  have e13 : M 1 3 = C 1 3 := by rw [hS 1 (by omega)]
  refine Ct_mono (tX6_person l G b M S u 4 N (by omega) (by omega) hM.1 hN hM.2.1 hM.2.2.1) (fun r n w h => RI_mono (fun v hv => ?_) h)
  rw [← lnI_ag e (by omega)]
  unfold lnI
  omega
theorem sp_5 (l : Launch) (G : gG) (b : Nat) (C M S : gM) (u N : Int) (hS : Sc C M) (hI : Iv C N) (hN : N ≤ 512) (hu : 0 ≤ u ∧ u < C 1 3) : Ct l G b yX6_person cX6_person 4 (some .int) rmX6_person [.ref (ad b 0), .int (iI u), .int (iI 5)] 578 (wM G b M S) (RI G b M S (fun v => v = stU C u)) := by
  have hM := hS.iv hI
  have e := hS.ag
  have h20 := hI.1.1
  have e13 : M 1 3 = C 1 3 := by rw [hS 1 (by omega)]
  refine Ct_mono (tX6_person l G b M S u 5 N (by omega) (by omega) hM.1 hN hM.2.1 hM.2.2.1) (fun r n w h => RI_mono (fun v hv => ?_) h)
  rw [← stU_ag e (by omega)]
  unfold stU
  omega
theorem sp_6 (l : Launch) (G : gG) (b : Nat) (C M S : gM) (u N : Int) (hS : Sc C M) (hI : Iv C N) (hN : N ≤ 512) (hu : 0 ≤ u ∧ u < C 1 3) : Ct l G b yX6_person cX6_person 4 (some .int) rmX6_person [.ref (ad b 0), .int (iI u), .int (iI 6)] 578 (wM G b M S) (RI G b M S (fun v => v = scU C u)) := by
  have hM := hS.iv hI
  have e := hS.ag
  have h20 := hI.1.1
  have e13 : M 1 3 = C 1 3 := by rw [hS 1 (by omega)]
  refine Ct_mono (tX6_person l G b M S u 6 N (by omega) (by omega) hM.1 hN hM.2.1 hM.2.2.1) (fun r n w h => RI_mono (fun v hv => ?_) h)
  rw [← scU_ag e (by omega)]
  unfold scU
  omega
theorem sp_7 (l : Launch) (G : gG) (b : Nat) (C M S : gM) (u N : Int) (hS : Sc C M) (hI : Iv C N) (hN : N ≤ 512) (hu : 0 ≤ u ∧ u < C 1 3) : Ct l G b yX6_person cX6_person 4 (some .int) rmX6_person [.ref (ad b 0), .int (iI u), .int (iI 7)] 578 (wM G b M S) (RI G b M S (fun v => v = urU C u)) := by
  have hM := hS.iv hI
  have e := hS.ag
  have h20 := hI.1.1
  have e13 : M 1 3 = C 1 3 := by rw [hS 1 (by omega)]
  refine Ct_mono (tX6_person l G b M S u 7 N (by omega) (by omega) hM.1 hN hM.2.1 hM.2.2.1) (fun r n w h => RI_mono (fun v hv => ?_) h)
  rw [← urU_ag e (by omega)]
  unfold urU
  by_cases hc : M (4 * u + 5) 2 = 0
  · rw [if_pos hc]; omega
  · rw [if_neg hc]; omega
theorem sp_8 (l : Launch) (G : gG) (b : Nat) (C M S : gM) (u N : Int) (hS : Sc C M) (hI : Iv C N) (hN : N ≤ 512) (hu : 0 ≤ u ∧ u < C 1 3) : Ct l G b yX6_person cX6_person 4 (some .int) rmX6_person [.ref (ad b 0), .int (iI u), .int (iI 8)] 578 (wM G b M S) (RI G b M S (fun v => v = C (4 * u + 5) 4)) := by
  have hM := hS.iv hI
  have e := hS.ag
  have h20 := hI.1.1
  have e13 : M 1 3 = C 1 3 := by rw [hS 1 (by omega)]
  refine Ct_mono (tX6_person l G b M S u 8 N (by omega) (by omega) hM.1 hN hM.2.1 hM.2.2.1) (fun r n w h => RI_mono (fun v hv => ?_) h)
  rw [← hS (4 * u + 5) (by omega)]
  omega
theorem sp_9 (l : Launch) (G : gG) (b : Nat) (C M S : gM) (u N : Int) (hS : Sc C M) (hI : Iv C N) (hN : N ≤ 512) (hu : 0 ≤ u ∧ u < C 1 3) : Ct l G b yX6_person cX6_person 4 (some .int) rmX6_person [.ref (ad b 0), .int (iI u), .int (iI 9)] 578 (wM G b M S) (RI G b M S (fun v => v = C (4 * u + 5) 5)) := by
  have hM := hS.iv hI
  have e := hS.ag
  have h20 := hI.1.1
  have e13 : M 1 3 = C 1 3 := by rw [hS 1 (by omega)]
  refine Ct_mono (tX6_person l G b M S u 9 N (by omega) (by omega) hM.1 hN hM.2.1 hM.2.2.1) (fun r n w h => RI_mono (fun v hv => ?_) h)
  rw [← hS (4 * u + 5) (by omega)]
  omega
theorem sp_10 (l : Launch) (G : gG) (b : Nat) (C M S : gM) (u N : Int) (hS : Sc C M) (hI : Iv C N) (hN : N ≤ 512) (hu : 0 ≤ u ∧ u < C 1 3) : Ct l G b yX6_person cX6_person 4 (some .int) rmX6_person [.ref (ad b 0), .int (iI u), .int (iI 10)] 578 (wM G b M S) (RI G b M S (fun v => v = rdI C u)) := by
  have hM := hS.iv hI
  have e := hS.ag
  have h20 := hI.1.1
  have e13 : M 1 3 = C 1 3 := by rw [hS 1 (by omega)]
  refine Ct_mono (tX6_person l G b M S u 10 N (by omega) (by omega) hM.1 hN hM.2.1 hM.2.2.1) (fun r n w h => RI_mono (fun v hv => ?_) h)
  rw [← rdI_ag e (by omega)]
  rcases (show (v = 1 ∧ M (1 + 1) 3 ≤ pcI (mkI (M (4 * u + 5 + 1)) (M (4 * u + 5) 6)) ∧ staleN M 1 (4 * u + 5) (M 1 4) = 0) ∨ (v = 0 ∧ ¬ (M (1 + 1) 3 ≤ pcI (mkI (M (4 * u + 5 + 1)) (M (4 * u + 5) 6)) ∧ staleN M 1 (4 * u + 5) (M 1 4) = 0)) by omega) with g | g
  · rw [rdI_p g.2]; exact g.1
  · rw [rdI_n g.2]; exact g.1
theorem sc_0 (l : Launch) (G : gG) (b : Nat) (C M S : gM) (N : Int) (hS : Sc C M) (hI : Iv C N) (hN : N ≤ 512) : Ct l G b yX6_count cX6_count 2 (some .int) rmX6_count [.ref (ad b 0), .int (iI 0)] 578 (wM G b M S) (RI G b M S (fun v => v = C 1 4)) := by
  have hM := hS.iv hI
  have e := hS.ag
  have h20 := hI.1.1
  have e13 : M 1 3 = C 1 3 := by rw [hS 1 (by omega)]
  refine Ct_mono (tX6_count l G b M S 0 N (by omega) hM.1 hN hM.2.1 hM.2.2.1) (fun r n w h => WI_RI (fun v C' hv => ?_) h)
  rcases hv with hv | hv | hv | hv | hv | hv | hv | hv | hv | hv | hv | hv | hv | hv | hv | hv | hv | hv | hv
  · exact absurd hv.1 (by omega)
  · exact ⟨hv.2.2, by rw [hv.2.1, hS 1 (by omega)]⟩
  · exact absurd hv.1 (by omega)
  · exact absurd hv.1 (by omega)
  · exact absurd hv.1 (by omega)
  · exact absurd hv.1 (by omega)
  · exact absurd hv.1 (by omega)
  · exact absurd hv.1 (by omega)
  · exact absurd hv.1 (by omega)
  · exact absurd hv.1 (by omega)
  · exact absurd hv.1 (by omega)
  · exact absurd hv.1 (by omega)
  · exact absurd hv.1 (by omega)
  · exact absurd hv.1 (by omega)
  · exact absurd hv.1 (by omega)
  · exact absurd hv.1 (by omega)
  · exact absurd hv.1 (by omega)
  · exact absurd hv.1 (by omega)
  · exact absurd hv.1 (by omega)
theorem sc_1 (l : Launch) (G : gG) (b : Nat) (C M S : gM) (N : Int) (hS : Sc C M) (hI : Iv C N) (hN : N ≤ 512) : Ct l G b yX6_count cX6_count 2 (some .int) rmX6_count [.ref (ad b 0), .int (iI 1)] 578 (wM G b M S) (RI G b M S (fun v => v = C 1 3)) := by
  have hM := hS.iv hI
  have e := hS.ag
  have h20 := hI.1.1
  have e13 : M 1 3 = C 1 3 := by rw [hS 1 (by omega)]
  refine Ct_mono (tX6_count l G b M S 1 N (by omega) hM.1 hN hM.2.1 hM.2.2.1) (fun r n w h => WI_RI (fun v C' hv => ?_) h)
  rcases hv with hv | hv | hv | hv | hv | hv | hv | hv | hv | hv | hv | hv | hv | hv | hv | hv | hv | hv | hv
  · exact absurd hv.1 (by omega)
  · exact absurd hv.1 (by omega)
  · exact ⟨hv.2.2, by rw [hv.2.1, hS 1 (by omega)]⟩
  · exact absurd hv.1 (by omega)
  · exact absurd hv.1 (by omega)
  · exact absurd hv.1 (by omega)
  · exact absurd hv.1 (by omega)
  · exact absurd hv.1 (by omega)
  · exact absurd hv.1 (by omega)
  · exact absurd hv.1 (by omega)
  · exact absurd hv.1 (by omega)
  · exact absurd hv.1 (by omega)
  · exact absurd hv.1 (by omega)
  · exact absurd hv.1 (by omega)
  · exact absurd hv.1 (by omega)
  · exact absurd hv.1 (by omega)
  · exact absurd hv.1 (by omega)
  · exact absurd hv.1 (by omega)
  · exact absurd hv.1 (by omega)
theorem sc_2 (l : Launch) (G : gG) (b : Nat) (C M S : gM) (N : Int) (hS : Sc C M) (hI : Iv C N) (hN : N ≤ 512) : Ct l G b yX6_count cX6_count 2 (some .int) rmX6_count [.ref (ad b 0), .int (iI 2)] 578 (wM G b M S) (RI G b M S (fun v => v = C 1 5)) := by
  have hM := hS.iv hI
  have e := hS.ag
  have h20 := hI.1.1
  have e13 : M 1 3 = C 1 3 := by rw [hS 1 (by omega)]
  refine Ct_mono (tX6_count l G b M S 2 N (by omega) hM.1 hN hM.2.1 hM.2.2.1) (fun r n w h => WI_RI (fun v C' hv => ?_) h)
  rcases hv with hv | hv | hv | hv | hv | hv | hv | hv | hv | hv | hv | hv | hv | hv | hv | hv | hv | hv | hv
  · exact absurd hv.1 (by omega)
  · exact absurd hv.1 (by omega)
  · exact absurd hv.1 (by omega)
  · exact ⟨hv.2.2, by rw [hv.2.1, hS 1 (by omega)]⟩
  · exact absurd hv.1 (by omega)
  · exact absurd hv.1 (by omega)
  · exact absurd hv.1 (by omega)
  · exact absurd hv.1 (by omega)
  · exact absurd hv.1 (by omega)
  · exact absurd hv.1 (by omega)
  · exact absurd hv.1 (by omega)
  · exact absurd hv.1 (by omega)
  · exact absurd hv.1 (by omega)
  · exact absurd hv.1 (by omega)
  · exact absurd hv.1 (by omega)
  · exact absurd hv.1 (by omega)
  · exact absurd hv.1 (by omega)
  · exact absurd hv.1 (by omega)
  · exact absurd hv.1 (by omega)
theorem sc_3 (l : Launch) (G : gG) (b : Nat) (C M S : gM) (N : Int) (hS : Sc C M) (hI : Iv C N) (hN : N ≤ 512) : Ct l G b yX6_count cX6_count 2 (some .int) rmX6_count [.ref (ad b 0), .int (iI 3)] 578 (wM G b M S) (RI G b M S (fun v => v = ctS C 0)) := by
  have hM := hS.iv hI
  have e := hS.ag
  have h20 := hI.1.1
  have e13 : M 1 3 = C 1 3 := by rw [hS 1 (by omega)]
  refine Ct_mono (tX6_count l G b M S 3 N (by omega) hM.1 hN hM.2.1 hM.2.2.1) (fun r n w h => WI_RI (fun v C' hv => ?_) h)
  rcases hv with hv | hv | hv | hv | hv | hv | hv | hv | hv | hv | hv | hv | hv | hv | hv | hv | hv | hv | hv
  · exact absurd hv.1 (by omega)
  · exact absurd hv.1 (by omega)
  · exact absurd hv.1 (by omega)
  · exact absurd hv.1 (by omega)
  · exact ⟨hv.2.2, by rw [← ctS_ag e h20]; exact hv.2.1⟩
  · exact absurd hv.1 (by omega)
  · exact absurd hv.1 (by omega)
  · exact absurd hv.1 (by omega)
  · exact absurd hv.1 (by omega)
  · exact absurd hv.1 (by omega)
  · exact absurd hv.1 (by omega)
  · exact absurd hv.1 (by omega)
  · exact absurd hv.1 (by omega)
  · exact absurd hv.1 (by omega)
  · exact absurd hv.1 (by omega)
  · exact absurd hv.1 (by omega)
  · exact absurd hv.1 (by omega)
  · exact absurd hv.1 (by omega)
  · exact absurd hv.1 (by omega)
theorem sc_4 (l : Launch) (G : gG) (b : Nat) (C M S : gM) (N : Int) (hS : Sc C M) (hI : Iv C N) (hN : N ≤ 512) : Ct l G b yX6_count cX6_count 2 (some .int) rmX6_count [.ref (ad b 0), .int (iI 4)] 578 (wM G b M S) (RI G b M S (fun v => v = ctS C 1)) := by
  have hM := hS.iv hI
  have e := hS.ag
  have h20 := hI.1.1
  have e13 : M 1 3 = C 1 3 := by rw [hS 1 (by omega)]
  refine Ct_mono (tX6_count l G b M S 4 N (by omega) hM.1 hN hM.2.1 hM.2.2.1) (fun r n w h => WI_RI (fun v C' hv => ?_) h)
  rcases hv with hv | hv | hv | hv | hv | hv | hv | hv | hv | hv | hv | hv | hv | hv | hv | hv | hv | hv | hv
  · exact absurd hv.1 (by omega)
  · exact absurd hv.1 (by omega)
  · exact absurd hv.1 (by omega)
  · exact absurd hv.1 (by omega)
  · exact absurd hv.1 (by omega)
  · exact ⟨hv.2.2, by rw [← ctS_ag e h20]; exact hv.2.1⟩
  · exact absurd hv.1 (by omega)
  · exact absurd hv.1 (by omega)
  · exact absurd hv.1 (by omega)
  · exact absurd hv.1 (by omega)
  · exact absurd hv.1 (by omega)
  · exact absurd hv.1 (by omega)
  · exact absurd hv.1 (by omega)
  · exact absurd hv.1 (by omega)
  · exact absurd hv.1 (by omega)
  · exact absurd hv.1 (by omega)
  · exact absurd hv.1 (by omega)
  · exact absurd hv.1 (by omega)
  · exact absurd hv.1 (by omega)
theorem sc_5 (l : Launch) (G : gG) (b : Nat) (C M S : gM) (N : Int) (hS : Sc C M) (hI : Iv C N) (hN : N ≤ 512) : Ct l G b yX6_count cX6_count 2 (some .int) rmX6_count [.ref (ad b 0), .int (iI 5)] 578 (wM G b M S) (RI G b M S (fun v => v = ctS C 2)) := by
  have hM := hS.iv hI
  have e := hS.ag
  have h20 := hI.1.1
  have e13 : M 1 3 = C 1 3 := by rw [hS 1 (by omega)]
  refine Ct_mono (tX6_count l G b M S 5 N (by omega) hM.1 hN hM.2.1 hM.2.2.1) (fun r n w h => WI_RI (fun v C' hv => ?_) h)
  rcases hv with hv | hv | hv | hv | hv | hv | hv | hv | hv | hv | hv | hv | hv | hv | hv | hv | hv | hv | hv
  · exact absurd hv.1 (by omega)
  · exact absurd hv.1 (by omega)
  · exact absurd hv.1 (by omega)
  · exact absurd hv.1 (by omega)
  · exact absurd hv.1 (by omega)
  · exact absurd hv.1 (by omega)
  · exact ⟨hv.2.2, by rw [← ctS_ag e h20]; exact hv.2.1⟩
  · exact absurd hv.1 (by omega)
  · exact absurd hv.1 (by omega)
  · exact absurd hv.1 (by omega)
  · exact absurd hv.1 (by omega)
  · exact absurd hv.1 (by omega)
  · exact absurd hv.1 (by omega)
  · exact absurd hv.1 (by omega)
  · exact absurd hv.1 (by omega)
  · exact absurd hv.1 (by omega)
  · exact absurd hv.1 (by omega)
  · exact absurd hv.1 (by omega)
  · exact absurd hv.1 (by omega)
theorem sc_6 (l : Launch) (G : gG) (b : Nat) (C M S : gM) (N : Int) (hS : Sc C M) (hI : Iv C N) (hN : N ≤ 512) : Ct l G b yX6_count cX6_count 2 (some .int) rmX6_count [.ref (ad b 0), .int (iI 6)] 578 (wM G b M S) (RI G b M S (fun v => v = ctS C 3)) := by
  have hM := hS.iv hI
  have e := hS.ag
  have h20 := hI.1.1
  have e13 : M 1 3 = C 1 3 := by rw [hS 1 (by omega)]
  refine Ct_mono (tX6_count l G b M S 6 N (by omega) hM.1 hN hM.2.1 hM.2.2.1) (fun r n w h => WI_RI (fun v C' hv => ?_) h)
  rcases hv with hv | hv | hv | hv | hv | hv | hv | hv | hv | hv | hv | hv | hv | hv | hv | hv | hv | hv | hv
  · exact absurd hv.1 (by omega)
  · exact absurd hv.1 (by omega)
  · exact absurd hv.1 (by omega)
  · exact absurd hv.1 (by omega)
  · exact absurd hv.1 (by omega)
  · exact absurd hv.1 (by omega)
  · exact absurd hv.1 (by omega)
  · exact ⟨hv.2.2, by rw [← ctS_ag e h20]; exact hv.2.1⟩
  · exact absurd hv.1 (by omega)
  · exact absurd hv.1 (by omega)
  · exact absurd hv.1 (by omega)
  · exact absurd hv.1 (by omega)
  · exact absurd hv.1 (by omega)
  · exact absurd hv.1 (by omega)
  · exact absurd hv.1 (by omega)
  · exact absurd hv.1 (by omega)
  · exact absurd hv.1 (by omega)
  · exact absurd hv.1 (by omega)
  · exact absurd hv.1 (by omega)
theorem sc_7 (l : Launch) (G : gG) (b : Nat) (C M S : gM) (N : Int) (hS : Sc C M) (hI : Iv C N) (hN : N ≤ 512) : Ct l G b yX6_count cX6_count 2 (some .int) rmX6_count [.ref (ad b 0), .int (iI 7)] 578 (wM G b M S) (RI G b M S (fun v => v = fcN C)) := by
  have hM := hS.iv hI
  have e := hS.ag
  have h20 := hI.1.1
  have e13 : M 1 3 = C 1 3 := by rw [hS 1 (by omega)]
  refine Ct_mono (tX6_count l G b M S 7 N (by omega) hM.1 hN hM.2.1 hM.2.2.1) (fun r n w h => WI_RI (fun v C' hv => ?_) h)
  rcases hv with hv | hv | hv | hv | hv | hv | hv | hv | hv | hv | hv | hv | hv | hv | hv | hv | hv | hv | hv
  · exact absurd hv.1 (by omega)
  · exact absurd hv.1 (by omega)
  · exact absurd hv.1 (by omega)
  · exact absurd hv.1 (by omega)
  · exact absurd hv.1 (by omega)
  · exact absurd hv.1 (by omega)
  · exact absurd hv.1 (by omega)
  · exact absurd hv.1 (by omega)
  · exact ⟨hv.2.2, by rw [← fcN_ag e h20]; exact hv.2.1⟩
  · exact absurd hv.1 (by omega)
  · exact absurd hv.1 (by omega)
  · exact absurd hv.1 (by omega)
  · exact absurd hv.1 (by omega)
  · exact absurd hv.1 (by omega)
  · exact absurd hv.1 (by omega)
  · exact absurd hv.1 (by omega)
  · exact absurd hv.1 (by omega)
  · exact absurd hv.1 (by omega)
  · exact absurd hv.1 (by omega)
theorem sc_8 (l : Launch) (G : gG) (b : Nat) (C M S : gM) (N : Int) (hS : Sc C M) (hI : Iv C N) (hN : N ≤ 512) : Ct l G b yX6_count cX6_count 2 (some .int) rmX6_count [.ref (ad b 0), .int (iI 8)] 578 (wM G b M S) (RI G b M S (fun v => v = stA C (C 1 4))) := by
  have hM := hS.iv hI
  have e := hS.ag
  have h20 := hI.1.1
  have e13 : M 1 3 = C 1 3 := by rw [hS 1 (by omega)]
  refine Ct_mono (tX6_count l G b M S 8 N (by omega) hM.1 hN hM.2.1 hM.2.2.1) (fun r n w h => WI_RI (fun v C' hv => ?_) h)
  rcases hv with hv | hv | hv | hv | hv | hv | hv | hv | hv | hv | hv | hv | hv | hv | hv | hv | hv | hv | hv
  · exact absurd hv.1 (by omega)
  · exact absurd hv.1 (by omega)
  · exact absurd hv.1 (by omega)
  · exact absurd hv.1 (by omega)
  · exact absurd hv.1 (by omega)
  · exact absurd hv.1 (by omega)
  · exact absurd hv.1 (by omega)
  · exact absurd hv.1 (by omega)
  · exact absurd hv.1 (by omega)
  · exact ⟨hv.2.2, by rw [← stA_ag e h20, ← hS 1 (by omega)]; exact hv.2.1⟩
  · exact absurd hv.1 (by omega)
  · exact absurd hv.1 (by omega)
  · exact absurd hv.1 (by omega)
  · exact absurd hv.1 (by omega)
  · exact absurd hv.1 (by omega)
  · exact absurd hv.1 (by omega)
  · exact absurd hv.1 (by omega)
  · exact absurd hv.1 (by omega)
  · exact absurd hv.1 (by omega)
theorem sc_11 (l : Launch) (G : gG) (b : Nat) (C M S : gM) (N : Int) (hS : Sc C M) (hI : Iv C N) (hN : N ≤ 512) : Ct l G b yX6_count cX6_count 2 (some .int) rmX6_count [.ref (ad b 0), .int (iI 11)] 578 (wM G b M S) (RI G b M S (fun v => v = C 2 0)) := by
  have hM := hS.iv hI
  have e := hS.ag
  have h20 := hI.1.1
  have e13 : M 1 3 = C 1 3 := by rw [hS 1 (by omega)]
  refine Ct_mono (tX6_count l G b M S 11 N (by omega) hM.1 hN hM.2.1 hM.2.2.1) (fun r n w h => WI_RI (fun v C' hv => ?_) h)
  rcases hv with hv | hv | hv | hv | hv | hv | hv | hv | hv | hv | hv | hv | hv | hv | hv | hv | hv | hv | hv
  · exact absurd hv.1 (by omega)
  · exact absurd hv.1 (by omega)
  · exact absurd hv.1 (by omega)
  · exact absurd hv.1 (by omega)
  · exact absurd hv.1 (by omega)
  · exact absurd hv.1 (by omega)
  · exact absurd hv.1 (by omega)
  · exact absurd hv.1 (by omega)
  · exact absurd hv.1 (by omega)
  · exact absurd hv.1 (by omega)
  · exact absurd hv.1 (by omega)
  · exact absurd hv.1 (by omega)
  · exact ⟨hv.2.2, by rw [hv.2.1, show (1 : Int) + 1 = 2 by omega, hS 2 (by omega), show (11 : Int) - 11 = 0 by omega]⟩
  · exact absurd hv.1 (by omega)
  · exact absurd hv.1 (by omega)
  · exact absurd hv.1 (by omega)
  · exact absurd hv.1 (by omega)
  · exact absurd hv.1 (by omega)
  · exact absurd hv.1 (by omega)
theorem sc_12 (l : Launch) (G : gG) (b : Nat) (C M S : gM) (N : Int) (hS : Sc C M) (hI : Iv C N) (hN : N ≤ 512) : Ct l G b yX6_count cX6_count 2 (some .int) rmX6_count [.ref (ad b 0), .int (iI 12)] 578 (wM G b M S) (RI G b M S (fun v => v = C 2 1)) := by
  have hM := hS.iv hI
  have e := hS.ag
  have h20 := hI.1.1
  have e13 : M 1 3 = C 1 3 := by rw [hS 1 (by omega)]
  refine Ct_mono (tX6_count l G b M S 12 N (by omega) hM.1 hN hM.2.1 hM.2.2.1) (fun r n w h => WI_RI (fun v C' hv => ?_) h)
  rcases hv with hv | hv | hv | hv | hv | hv | hv | hv | hv | hv | hv | hv | hv | hv | hv | hv | hv | hv | hv
  · exact absurd hv.1 (by omega)
  · exact absurd hv.1 (by omega)
  · exact absurd hv.1 (by omega)
  · exact absurd hv.1 (by omega)
  · exact absurd hv.1 (by omega)
  · exact absurd hv.1 (by omega)
  · exact absurd hv.1 (by omega)
  · exact absurd hv.1 (by omega)
  · exact absurd hv.1 (by omega)
  · exact absurd hv.1 (by omega)
  · exact absurd hv.1 (by omega)
  · exact absurd hv.1 (by omega)
  · exact absurd hv.1 (by omega)
  · exact ⟨hv.2.2, by rw [hv.2.1, show (1 : Int) + 1 = 2 by omega, hS 2 (by omega), show (12 : Int) - 11 = 1 by omega]⟩
  · exact absurd hv.1 (by omega)
  · exact absurd hv.1 (by omega)
  · exact absurd hv.1 (by omega)
  · exact absurd hv.1 (by omega)
  · exact absurd hv.1 (by omega)
theorem sc_13 (l : Launch) (G : gG) (b : Nat) (C M S : gM) (N : Int) (hS : Sc C M) (hI : Iv C N) (hN : N ≤ 512) : Ct l G b yX6_count cX6_count 2 (some .int) rmX6_count [.ref (ad b 0), .int (iI 13)] 578 (wM G b M S) (RI G b M S (fun v => v = C 2 2)) := by
  have hM := hS.iv hI
  have e := hS.ag
  have h20 := hI.1.1
  have e13 : M 1 3 = C 1 3 := by rw [hS 1 (by omega)]
  refine Ct_mono (tX6_count l G b M S 13 N (by omega) hM.1 hN hM.2.1 hM.2.2.1) (fun r n w h => WI_RI (fun v C' hv => ?_) h)
  rcases hv with hv | hv | hv | hv | hv | hv | hv | hv | hv | hv | hv | hv | hv | hv | hv | hv | hv | hv | hv
  · exact absurd hv.1 (by omega)
  · exact absurd hv.1 (by omega)
  · exact absurd hv.1 (by omega)
  · exact absurd hv.1 (by omega)
  · exact absurd hv.1 (by omega)
  · exact absurd hv.1 (by omega)
  · exact absurd hv.1 (by omega)
  · exact absurd hv.1 (by omega)
  · exact absurd hv.1 (by omega)
  · exact absurd hv.1 (by omega)
  · exact absurd hv.1 (by omega)
  · exact absurd hv.1 (by omega)
  · exact absurd hv.1 (by omega)
  · exact absurd hv.1 (by omega)
  · exact ⟨hv.2.2, by rw [hv.2.1, show (1 : Int) + 1 = 2 by omega, hS 2 (by omega), show (13 : Int) - 11 = 2 by omega]⟩
  · exact absurd hv.1 (by omega)
  · exact absurd hv.1 (by omega)
  · exact absurd hv.1 (by omega)
  · exact absurd hv.1 (by omega)
theorem sc_14 (l : Launch) (G : gG) (b : Nat) (C M S : gM) (N : Int) (hS : Sc C M) (hI : Iv C N) (hN : N ≤ 512) : Ct l G b yX6_count cX6_count 2 (some .int) rmX6_count [.ref (ad b 0), .int (iI 14)] 578 (wM G b M S) (RI G b M S (fun v => v = C 2 3)) := by
  have hM := hS.iv hI
  have e := hS.ag
  have h20 := hI.1.1
  have e13 : M 1 3 = C 1 3 := by rw [hS 1 (by omega)]
  refine Ct_mono (tX6_count l G b M S 14 N (by omega) hM.1 hN hM.2.1 hM.2.2.1) (fun r n w h => WI_RI (fun v C' hv => ?_) h)
  rcases hv with hv | hv | hv | hv | hv | hv | hv | hv | hv | hv | hv | hv | hv | hv | hv | hv | hv | hv | hv
  · exact absurd hv.1 (by omega)
  · exact absurd hv.1 (by omega)
  · exact absurd hv.1 (by omega)
  · exact absurd hv.1 (by omega)
  · exact absurd hv.1 (by omega)
  · exact absurd hv.1 (by omega)
  · exact absurd hv.1 (by omega)
  · exact absurd hv.1 (by omega)
  · exact absurd hv.1 (by omega)
  · exact absurd hv.1 (by omega)
  · exact absurd hv.1 (by omega)
  · exact absurd hv.1 (by omega)
  · exact absurd hv.1 (by omega)
  · exact absurd hv.1 (by omega)
  · exact absurd hv.1 (by omega)
  · exact ⟨hv.2.2, by rw [hv.2.1, show (1 : Int) + 1 = 2 by omega, hS 2 (by omega), show (14 : Int) - 11 = 3 by omega]⟩
  · exact absurd hv.1 (by omega)
  · exact absurd hv.1 (by omega)
  · exact absurd hv.1 (by omega)
theorem sc_15 (l : Launch) (G : gG) (b : Nat) (C M S : gM) (N : Int) (hS : Sc C M) (hI : Iv C N) (hN : N ≤ 512) : Ct l G b yX6_count cX6_count 2 (some .int) rmX6_count [.ref (ad b 0), .int (iI 15)] 578 (wM G b M S) (RI G b M S (fun v => v = C 2 4)) := by
  have hM := hS.iv hI
  have e := hS.ag
  have h20 := hI.1.1
  have e13 : M 1 3 = C 1 3 := by rw [hS 1 (by omega)]
  refine Ct_mono (tX6_count l G b M S 15 N (by omega) hM.1 hN hM.2.1 hM.2.2.1) (fun r n w h => WI_RI (fun v C' hv => ?_) h)
  rcases hv with hv | hv | hv | hv | hv | hv | hv | hv | hv | hv | hv | hv | hv | hv | hv | hv | hv | hv | hv
  · exact absurd hv.1 (by omega)
  · exact absurd hv.1 (by omega)
  · exact absurd hv.1 (by omega)
  · exact absurd hv.1 (by omega)
  · exact absurd hv.1 (by omega)
  · exact absurd hv.1 (by omega)
  · exact absurd hv.1 (by omega)
  · exact absurd hv.1 (by omega)
  · exact absurd hv.1 (by omega)
  · exact absurd hv.1 (by omega)
  · exact absurd hv.1 (by omega)
  · exact absurd hv.1 (by omega)
  · exact absurd hv.1 (by omega)
  · exact absurd hv.1 (by omega)
  · exact absurd hv.1 (by omega)
  · exact absurd hv.1 (by omega)
  · exact ⟨hv.2.2, by rw [hv.2.1, show (1 : Int) + 1 = 2 by omega, hS 2 (by omega), show (15 : Int) - 11 = 4 by omega]⟩
  · exact absurd hv.1 (by omega)
  · exact absurd hv.1 (by omega)
theorem sf_0 (l : Launch) (G : gG) (b : Nat) (C M S : gM) (u t N : Int) (hS : Sc C M) (hI : Iv C N) (hN : N ≤ 512) (hu : 0 ≤ u ∧ u < C 1 3) (ht : 0 ≤ t ∧ t < C (4 * u + 5) 6 ∧ C (4 * u + 5) 6 ≤ 8) : Ct l G b yX6_fact cX6_fact 5 (some .int) rmX6_fact [.ref (ad b 0), .int (iI u), .int (iI t), .int (iI 0)] 578 (wM G b M S) (RI G b M S (fun v => v = C (4 * u + 5 + 1) t)) := by
  have hM := hS.iv hI
  have e := hS.ag
  have h20 := hI.1.1
  have e13 : M 1 3 = C 1 3 := by rw [hS 1 (by omega)]
  refine Ct_mono (tX6_fact l G b M S u t 0 N (by omega) (by omega) (by omega) hM.1 hN hM.2.1 hM.2.2.1) (fun r n w h => RI_mono (fun v hv => ?_) h)
  have e1 := hS (4 * u + 5) (by omega)
  have e2 := hS (4 * u + 5 + 1) (by omega)
  rw [e1, e13] at hv
  rw [e2] at hv
  omega
theorem sf_1 (l : Launch) (G : gG) (b : Nat) (C M S : gM) (u t N : Int) (hS : Sc C M) (hI : Iv C N) (hN : N ≤ 512) (hu : 0 ≤ u ∧ u < C 1 3) (ht : 0 ≤ t ∧ t < C (4 * u + 5) 6 ∧ C (4 * u + 5) 6 ≤ 8) : Ct l G b yX6_fact cX6_fact 5 (some .int) rmX6_fact [.ref (ad b 0), .int (iI u), .int (iI t), .int (iI 1)] 578 (wM G b M S) (RI G b M S (fun v => v = C (4 * u + 5 + 2) t)) := by
  have hM := hS.iv hI
  have e := hS.ag
  have h20 := hI.1.1
  have e13 : M 1 3 = C 1 3 := by rw [hS 1 (by omega)]
  refine Ct_mono (tX6_fact l G b M S u t 1 N (by omega) (by omega) (by omega) hM.1 hN hM.2.1 hM.2.2.1) (fun r n w h => RI_mono (fun v hv => ?_) h)
  have e1 := hS (4 * u + 5) (by omega)
  have e2 := hS (4 * u + 5 + 2) (by omega)
  rw [e1, e13] at hv
  rw [e2] at hv
  omega
theorem sf_2 (l : Launch) (G : gG) (b : Nat) (C M S : gM) (u t N : Int) (hS : Sc C M) (hI : Iv C N) (hN : N ≤ 512) (hu : 0 ≤ u ∧ u < C 1 3) (ht : 0 ≤ t ∧ t < C (4 * u + 5) 6 ∧ C (4 * u + 5) 6 ≤ 8) : Ct l G b yX6_fact cX6_fact 5 (some .int) rmX6_fact [.ref (ad b 0), .int (iI u), .int (iI t), .int (iI 2)] 578 (wM G b M S) (RI G b M S (fun v => v = C (4 * u + 5 + 3) t)) := by
  have hM := hS.iv hI
  have e := hS.ag
  have h20 := hI.1.1
  have e13 : M 1 3 = C 1 3 := by rw [hS 1 (by omega)]
  refine Ct_mono (tX6_fact l G b M S u t 2 N (by omega) (by omega) (by omega) hM.1 hN hM.2.1 hM.2.2.1) (fun r n w h => RI_mono (fun v hv => ?_) h)
  have e1 := hS (4 * u + 5) (by omega)
  have e2 := hS (4 * u + 5 + 3) (by omega)
  rw [e1, e13] at hv
  rw [e2] at hv
  omega
theorem sf_3 (l : Launch) (G : gG) (b : Nat) (C M S : gM) (u t N : Int) (hS : Sc C M) (hI : Iv C N) (hN : N ≤ 512) (hu : 0 ≤ u ∧ u < C 1 3) (ht : 0 ≤ t ∧ t < C (4 * u + 5) 6 ∧ C (4 * u + 5) 6 ≤ 8) : Ct l G b yX6_fact cX6_fact 5 (some .int) rmX6_fact [.ref (ad b 0), .int (iI u), .int (iI t), .int (iI 3)] 578 (wM G b M S) (RI G b M S (fun v => v = fst C 1 (4 * u + 5) (C 1 4) t)) := by
  have hM := hS.iv hI
  have e := hS.ag
  have h20 := hI.1.1
  have e13 : M 1 3 = C 1 3 := by rw [hS 1 (by omega)]
  refine Ct_mono (tX6_fact l G b M S u t 3 N (by omega) (by omega) (by omega) hM.1 hN hM.2.1 hM.2.2.1) (fun r n w h => RI_mono (fun v hv => ?_) h)
  have e1 := hS (4 * u + 5) (by omega)
  have e2 := hS (4 * u + 5 + 1) (by omega)
  rw [e1, e13] at hv
  rw [← fst_ag e (by omega), ← hS 1 (by omega)]
  omega
theorem sf_N (l : Launch) (G : gG) (b : Nat) (C M S : gM) (u t N : Int) (hS : Sc C M) (hI : Iv C N) (hN : N ≤ 512) (hu : 0 ≤ u ∧ u < C 1 3) (ht : t = 0 ∧ C (4 * u + 5) 6 = 0) : Ct l G b yX6_fact cX6_fact 5 (some .int) rmX6_fact [.ref (ad b 0), .int (iI u), .int (iI t), .int (iI 2)] 578 (wM G b M S) (RI G b M S (fun v => v = -1)) := by
  have hM := hS.iv hI
  have e := hS.ag
  have h20 := hI.1.1
  have e13 : M 1 3 = C 1 3 := by rw [hS 1 (by omega)]
  refine Ct_mono (tX6_fact l G b M S u t 2 N (by omega) (by omega) (by omega) hM.1 hN hM.2.1 hM.2.2.1) (fun r n w h => RI_mono (fun v hv => ?_) h)
  have e1 := hS (4 * u + 5) (by omega)
  rw [e1, e13] at hv
  omega
theorem ss_0 (l : Launch) (G : gG) (b : Nat) (C M S : gM) (u N : Int) (hS : Sc C M) (hI : Iv C N) (hN : N ≤ 512) (hu : 0 ≤ u ∧ u < 6) : Ct l G b yX6_source cX6_source 3 (some .int) rmX6_source [.ref (ad b 0), .int (iI u), .int (iI 0)] 578 (wM G b M S) (RI G b M S (fun v => v = C 3 u)) := by
  have hM := hS.iv hI
  have e := hS.ag
  have h20 := hI.1.1
  have e13 : M 1 3 = C 1 3 := by rw [hS 1 (by omega)]
  refine Ct_mono (tX6_source l G b M S u 0 N (by omega) (by omega) hM.1 hN hM.2.1 hM.2.2.1) (fun r n w h => RI_mono (fun v hv => ?_) h)
  rw [hS 3 (by omega)] at hv
  omega
theorem ss_1 (l : Launch) (G : gG) (b : Nat) (C M S : gM) (u N : Int) (hS : Sc C M) (hI : Iv C N) (hN : N ≤ 512) (hu : 0 ≤ u ∧ u < 6) : Ct l G b yX6_source cX6_source 3 (some .int) rmX6_source [.ref (ad b 0), .int (iI u), .int (iI 1)] 578 (wM G b M S) (RI G b M S (fun v => v = sgN C u)) := by
  have hM := hS.iv hI
  have e := hS.ag
  have h20 := hI.1.1
  have e13 : M 1 3 = C 1 3 := by rw [hS 1 (by omega)]
  refine Ct_mono (tX6_source l G b M S u 1 N (by omega) (by omega) hM.1 hN hM.2.1 hM.2.2.1) (fun r n w h => RI_mono (fun v hv => ?_) h)
  rw [← sgN_ag e h20]
  unfold sgN
  omega
theorem s_stale (l : Launch) (G : gG) (b : Nat) (C M S : gM) (u N : Int) (hS : Sc C M) (hI : Iv C N) (hN : N ≤ 512) (hu : 0 ≤ u ∧ u ≤ 999) : Ct l G b yX6_staleIn cX6_staleIn 2 (some .int) rmX6_staleIn [.ref (ad b 0), .int (iI u)] 578 (wM G b M S) (RI G b M S (fun v => v = stA C (u + C 1 4))) := by
  have hM := hS.iv hI
  have e := hS.ag
  have h20 := hI.1.1
  have e13 : M 1 3 = C 1 3 := by rw [hS 1 (by omega)]
  refine Ct_mono (tX6_staleIn l G b M S u N (by omega) hM.1 hN hM.2.1 hM.2.2.1) (fun r n w h => RI_mono (fun v hv => ?_) h)
  rw [← stA_ag e h20, ← hS 1 (by omega)]
  unfold stA
  omega
theorem s_worth (l : Launch) (G : gG) (b : Nat) (C M S : gM) (u N : Int) (hS : Sc C M) (hI : Iv C N) (hN : N ≤ 512) (hu : 0 ≤ u ∧ u < C 1 3) : Ct l G b yX6_worth cX6_worth 3 (some .float) rmX6_worth [.ref (ad b 0), .int (iI u)] 578 (wM G b M S) (RF G b M S (fun v => v = lwU C u)) := by
  have hM := hS.iv hI
  have e := hS.ag
  have h20 := hI.1.1
  have e13 : M 1 3 = C 1 3 := by rw [hS 1 (by omega)]
  refine Ct_mono (tX6_worth l G b M S u N (by omega) hM.1 hN hM.2.1 hM.2.2.1) (fun r n w h => RF_mono (fun v hv => ?_) h)
  rcases hv with hv | hv
  · exact absurd hv.1 (by omega)
  · rw [hv.2]
    unfold lwU
    rw [hS (1 + 2) (by omega), hS 1 (by omega), hS (4 * u + 5) (by omega), hS (4 * u + 5 + 1) (by omega), hS (4 * u + 5 + 2) (by omega), hS (4 * u + 5 + 3) (by omega)]
theorem s_page (l : Launch) (G : gG) (b : Nat) (C M S : gM) (u N : Int) (hS : Sc C M) (hI : Iv C N) (hN : N ≤ 512) (hu : 0 ≤ u ∧ u ≤ 100) : Ct l G b yX6_page cX6_page 2 (some .int) rmX6_page [.ref (ad b 0), .int (iI u)] 578 (wM G b M S) (WI G b S (fun v C' => Sc C C' ∧ Lq C C' ∧ v = pgv C' u)) := by
  have hM := hS.iv hI
  have e := hS.ag
  have h20 := hI.1.1
  have e13 : M 1 3 = C 1 3 := by rw [hS 1 (by omega)]
  refine Ct_mono (tX6_page l G b M S u N (by omega) hM.1 hN hM.2.1 hM.2.2.1) (fun r n w h => WI_mono (fun v C' hv => ?_) h)
  rcases hv with hv | ⟨h0, hL, hv⟩
  · omega
  · refine ⟨hS.tr (Laid_sc hL), Lq_ag e h20 (Laid_lq hL), ?_⟩
    unfold pgv
    rcases hv with g | g
    · rw [if_pos g.1]; exact g.2
    · rw [if_neg g.1]; exact g.2
theorem s_pageL (l : Launch) (G : gG) (b : Nat) (C M S : gM) (L : gM) (u N : Int) (hS : Sc C M) (hI : Iv C N) (hN : N ≤ 512) (hL : Lq C L) (hu : 0 ≤ u ∧ u ≤ 100) : Ct l G b yX6_page cX6_page 2 (some .int) rmX6_page [.ref (ad b 0), .int (iI u)] 578 (wM G b M S) (WI G b S (fun v C' => Sc C C' ∧ v = pgv L u)) := by
  have hM := hS.iv hI
  have e := hS.ag
  have h20 := hI.1.1
  have e13 : M 1 3 = C 1 3 := by rw [hS 1 (by omega)]
  refine Ct_mono (s_page l G b C M S u N hS hI hN hu) (fun r n w h => WI_mono (fun v C' hv => ⟨hv.1, ?_⟩) h)
  rw [hv.2.2]
  exact pgv_same h20 hv.2.1 hL hu.1
theorem s_free (l : Launch) (G : gG) (b : Nat) (C M S : gM) (N : Int) (hS : Sc C M) (hI : Iv C N) (hN : N ≤ 512) : Ct l G b yX6_count cX6_count 2 (some .int) rmX6_count [.ref (ad b 0), .int (iI 9)] 578 (wM G b M S) (WI G b S (fun v C' => Sc C C' ∧ Lq C C' ∧ v = C' 573 3)) := by
  have hM := hS.iv hI
  have e := hS.ag
  have h20 := hI.1.1
  have e13 : M 1 3 = C 1 3 := by rw [hS 1 (by omega)]
  refine Ct_mono (tX6_count l G b M S 9 N (by omega) hM.1 hN hM.2.1 hM.2.2.1) (fun r n w h => WI_mono (fun v C' hv => ?_) h)
  rcases hv with hv | hv | hv | hv | hv | hv | hv | hv | hv | hv | hv | hv | hv | hv | hv | hv | hv | hv | hv
  · exact absurd hv.1 (by omega)
  · exact absurd hv.1 (by omega)
  · exact absurd hv.1 (by omega)
  · exact absurd hv.1 (by omega)
  · exact absurd hv.1 (by omega)
  · exact absurd hv.1 (by omega)
  · exact absurd hv.1 (by omega)
  · exact absurd hv.1 (by omega)
  · exact absurd hv.1 (by omega)
  · exact absurd hv.1 (by omega)
  · exact ⟨hS.tr (Laid_sc hv.2.2), Lq_ag e h20 (Laid_lq hv.2.2), hv.2.1⟩
  · exact absurd hv.1 (by omega)
  · exact absurd hv.1 (by omega)
  · exact absurd hv.1 (by omega)
  · exact absurd hv.1 (by omega)
  · exact absurd hv.1 (by omega)
  · exact absurd hv.1 (by omega)
  · exact absurd hv.1 (by omega)
  · exact absurd hv.1 (by omega)
theorem s_freeL (l : Launch) (G : gG) (b : Nat) (C M S : gM) (L : gM) (N : Int) (hS : Sc C M) (hI : Iv C N) (hN : N ≤ 512) (hL : Lq C L) : Ct l G b yX6_count cX6_count 2 (some .int) rmX6_count [.ref (ad b 0), .int (iI 9)] 578 (wM G b M S) (WI G b S (fun v C' => Sc C C' ∧ v = L 573 3)) := by
  have hM := hS.iv hI
  have e := hS.ag
  have h20 := hI.1.1
  have e13 : M 1 3 = C 1 3 := by rw [hS 1 (by omega)]
  refine Ct_mono (s_free l G b C M S N hS hI hN) (fun r n w h => WI_mono (fun v C' hv => ⟨hv.1, ?_⟩) h)
  rw [hv.2.2]
  exact (Lq_same h20 hv.2.1 hL).2.1
theorem s_urg (l : Launch) (G : gG) (b : Nat) (C M S : gM) (u N : Int) (hS : Sc C M) (hI : Iv C N) (hN : N ≤ 512) (hu : 0 ≤ u ∧ u ≤ 100) : Ct l G b yX6_urgent cX6_urgent 2 (some .int) rmX6_urgent [.ref (ad b 0), .int (iI u)] 578 (wM G b M S) (WI G b S (fun v C' => Sc C C' ∧ Uq C C' ∧ v = ugv C' u)) := by
  have hM := hS.iv hI
  have e := hS.ag
  have h20 := hI.1.1
  have e13 : M 1 3 = C 1 3 := by rw [hS 1 (by omega)]
  refine Ct_mono (tX6_urgent l G b M S u N (by omega) hM.1 hN hM.2.1 hM.2.2.1) (fun r n w h => WI_mono (fun v C' hv => ?_) h)
  rcases hv with hv | ⟨h0, hR, hf, hv⟩
  · omega
  · refine ⟨hS.tr (fun a ha => hf a (by omega)), Uq_of e h20 (Rkd_rnk hR), ?_⟩
    unfold ugv
    rcases hv with g | g
    · rw [if_pos g.1]; exact g.2
    · rw [if_neg g.1]; exact g.2
