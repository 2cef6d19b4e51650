/-! what is told is the same -/
theorem Rnk_ext {e : Int → Int} {m n M : Int} {P P' : Int → Prop} {f f' : Int → Int} (h : Rnk e m P f n) (hn : 0 ≤ n ∧ n ≤ M) (hP : ∀ x : Int, 0 ≤ x → x < M → (P' x ↔ x < n ∧ P x)) (hf : ∀ x : Int, 0 ≤ x → x < n → P x → f' x = f x) : Rnk e m P' f' M := by
  obtain ⟨h1, h2, h3, h4⟩ := h
  refine ⟨by omega, fun t a1 a2 => ?_, fun s t a1 a2 a3 => ?_, fun g hg => ?_⟩
  · obtain ⟨b1, b2, b3⟩ := h2 t a1 a2
    exact ⟨b1, by omega, (hP _ b1 (by omega)).mpr ⟨b2, b3⟩⟩
  · have k := h3 s t a1 a2 a3
    obtain ⟨b1, b2, b3⟩ := h2 t (by omega) a3
    obtain ⟨c1, c2, c3⟩ := h2 s a1 (by omega)
    unfold ahd at *
    rw [hf _ b1 b2 b3, hf _ c1 c2 c3]
    exact k
  · have k := h4 g (fun x a1 a2 a3 => hg x a1 (by omega) (fun z => a3 ((hP x a1 (by omega)).mp z).2))
    rw [← k]
    have key : ∀ d : Nat, n + d ≤ M → smI g (n + d) = smI g n := by
      intro d
      induction d with
      | zero => intro _; rw [show n + ((0 : Nat) : Int) = n by omega]
      | succ d ih =>
        intro hd
        rw [show n + ((d + 1 : Nat) : Int) = (n + d) + 1 by omega, smI_s _ (by omega), ih (by omega), hg _ (by omega) (by omega) (fun z => by have := ((hP _ (by omega) (by omega)).mp z).1; omega), Int.add_zero]
    have := key (M - n).toNat (by omega)
    rwa [show n + ((M - n).toNat : Int) = M by omega] at this
theorem ahN_c {P P' : Int → Prop} {f f' : Int → Int} {n x : Int} (hP : ∀ y : Int, 0 ≤ y → y < n → (P y ↔ P' y)) (hf : ∀ y : Int, 0 ≤ y → y < n → f y = f' y) (hx : 0 ≤ x ∧ x < n) : ahN P f n x = ahN P' f' n x := by
  unfold ahN
  refine smI_congr (fun y a1 a2 => ci_c ?_)
  unfold ahd
  rw [hf y a1 a2, hf x hx.1 hx.2, hP y a1 a2]
section
variable {C C' S S' : gM} {N : Int}
theorem JJ.life (h : JJ C S N) {u : Int} (hu : 0 ≤ u ∧ u < C 1 3) : LfR C (4 * u + 5) (S 579) (32 * u) (C 1 4) := by
  have := h.1.2.1 u hu.1 hu.2
  rwa [show 4 * u + 1 + 4 = 4 * u + 5 by omega] at this
theorem page_same (hJ : JJ C S N) (hN : N ≤ 512) (hA : Laid C C' 1) (hB : LyD S S') : C' 573 3 = S' 578 6 ∧ C' 573 2 = S' 578 5 ∧ ∀ r : Int, 0 ≤ r → r < C' 573 2 → C' 577 r = S' 582 r := by
  obtain ⟨q, m, h1, h2, h3, h4, h5, h6, h7, h8⟩ := hA
  obtain ⟨e, m', g1, g2, g3, g4, g5, g6⟩ := hB
  have hc := hJ.1
  have h13 := hc.1.2.1.1
  have e1 : S 579 1 = C 1 3 := hc.1.1.2.1
  have e5 : S 579 5 = C (1 + 1) 1 := hc.1.2.2.1.2.1
  have hst : ∀ x : Int, 0 ≤ x → x < C 1 3 → S 579 (32 * x + 18) = C (4 * x + 1 + 4) 2 := fun x a1 a2 => (hc.2.1 x a1 a2).2.1.2.2.1
  have k1 := Rnk_ext (M := 20) (P' := mP (S 579)) (f' := mky (S 579)) h1 (by omega) (fun x a1 a2 => by
    unfold mP
    rw [e1]
    constructor
    · rintro ⟨b1, b2, b3⟩
      exact ⟨b1, by rw [← hst x a1 b1]; exact b2, (c_rdy hc ⟨a1, b1⟩).mp b3⟩
    · rintro ⟨b1, b2, b3⟩
      exact ⟨b1, by rw [hst x a1 b1]; exact b2, (c_rdy hc ⟨a1, b1⟩).mpr b3⟩) (fun x a1 a2 a3 => by
    have hL := hc.2.1 x a1 a2
    unfold mky dky
    rw [hL.2.1.2.1, hL.2.2.1 (by have := a3.1; omega)])
  obtain ⟨rfl, k2⟩ := Rnk_uniq (fun _ _ _ => Iff.rfl) (fun _ _ _ _ => rfl) k1 g1
  have k3 : ∀ t : Int, 0 ≤ t → t < m → q t = e t ∧ lnP C 1 (q t) = mLn (S 579) (e t) := fun t a1 a2 => by
    have b := h1.2.1 t a1 a2
    refine ⟨k2 t a1 a2, ?_⟩
    rw [← k2 t a1 a2, c_ln hc ⟨b.1, b.2.1⟩ rfl]
    rfl
  have k4 := pg_congr (f0 := C (1 + 1) 1) k3 m (by have := h1.1; omega) (by omega)
  rw [e5] at g2 g3 g4
  refine ⟨by rw [h2, g2]; exact k4.1, by rw [h3, g3]; exact k4.2, fun r a1 a2 => ?_⟩
  rw [h3] at a2
  obtain ⟨t, b1, b2, b3, b4⟩ := pg_at (by have := h1.1; omega) ⟨a1, a2⟩
  have c1 := h4 t b1 b2 b3
  have c2 := g4 t b1 b2 ((tkn_congr k3 ⟨b1, b2⟩).mp b3)
  rw [← (pg_congr (f0 := C (1 + 1) 1) k3 t b1 (by omega)).2] at c2
  rw [b4] at c1 c2
  rw [c1, c2]
  exact k2 t b1 b2
theorem page_J (hJ : JJ C S N) (hA : Laid C C' 1) (hB : LyD S S') : JJ C' S' N := by
  obtain ⟨q, m, h1, h2, h3, h4, h5, h6, h7, h8⟩ := hA
  obtain ⟨e, m', g1, g2, g3, g4, g5, g6⟩ := hB
  obtain ⟨hc, hr⟩ := hJ
  have hr' := hr.2.2.2
  refine ⟨Cur_e (by omega) (fun a _ _ => h8 a (by omega)) (fun k _ _ => by rw [g5 579 (by omega) (by omega) (by omega)]) hc, Rest_e (by omega) hr (fun a _ _ => h8 a (by omega)) (by rw [h8 0 (by omega)]) (h8 508 (by omega)) (by rw [h8 507 (by omega)]) (by rw [h8 507 (by omega)]; exact hr'.2.2.2.1) (g5 580 (by omega) (by omega) (by omega)) (g5 581 (by omega) (by omega) (by omega)) (g5 584 (by omega) (by omega) (by omega)) (g6 8 (by omega) (by omega)) (g6 9 (by omega) (by omega)) (g6 10 (by omega) (by omega)) ?_⟩
  rw [g6 12 (by omega) (by omega)]
  exact hr'.2.2.2.2
theorem urg_J (hJ : JJ C S N) (hA : ∀ a : Int, a < 570 ∨ 572 < a → C' a = C a) : JJ C' S N := by
  obtain ⟨hc, hr⟩ := hJ
  have hr' := hr.2.2.2
  refine ⟨Cur_e (by omega) (fun a _ _ => hA a (by omega)) (fun k _ _ => rfl) hc, Rest_e (by omega) hr (fun a _ _ => hA a (by omega)) (by rw [hA 0 (by omega)]) (hA 508 (by omega)) (by rw [hA 507 (by omega)]) (by rw [hA 507 (by omega)]; exact hr'.2.2.2.1) rfl rfl rfl rfl rfl rfl ?_⟩
  exact hr'.2.2.2.2
end
set_option maxHeartbeats 4000000 in
theorem sm_person {C S : gM} {N : Int} {u t v v' : Int} (hJ : JJ C S N) (hN : N ≤ 512) (hA : (fun v => ((¬ (0 ≤ u ∧ u < C 1 3)) ∧ v = -1) ∨ (((0 ≤ u ∧ u < C 1 3) ∧ (t < 0 ∨ 10 < t)) ∧ v = -2) ∨ (((0 ≤ u ∧ u < C 1 3) ∧ t = 0) ∧ v = C (4 * u + 5) 0) ∨ (((0 ≤ u ∧ u < C 1 3) ∧ t = 1) ∧ v = C (4 * u + 5) 1) ∨ (((0 ≤ u ∧ u < C 1 3) ∧ t = 2) ∧ v = C (4 * u + 5) 2) ∨ (((0 ≤ u ∧ u < C 1 3) ∧ t = 3) ∧ v = C (4 * u + 5) 6) ∨ (((0 ≤ u ∧ u < C 1 3) ∧ t = 4) ∧ v = smI (C (4 * u + 5 + 2)) (C (4 * u + 5) 6)) ∨ (((0 ≤ u ∧ u < C 1 3) ∧ t = 5) ∧ v = staleN C 1 (4 * u + 5) (C 1 4)) ∨ (((0 ≤ u ∧ u < C 1 3) ∧ t = 6) ∧ v = pcI (mkI (C (4 * u + 5 + 1)) (C (4 * u + 5) 6))) ∨ (((0 ≤ u ∧ u < C 1 3) ∧ t = 7) ∧ ((C (4 * u + 5) 2 = 0 ∧ v = urg C 1 (4 * u + 5)) ∨ (¬ C (4 * u + 5) 2 = 0 ∧ v = -5))) ∨ (((0 ≤ u ∧ u < C 1 3) ∧ t = 8) ∧ v = C (4 * u + 5) 4) ∨ (((0 ≤ u ∧ u < C 1 3) ∧ t = 9) ∧ v = C (4 * u + 5) 5) ∨ (((0 ≤ u ∧ u < C 1 3) ∧ t = 10) ∧ ((v = 1 ∧ C (1 + 1) 3 ≤ pcI (mkI (C (4 * u + 5 + 1)) (C (4 * u + 5) 6)) ∧ staleN C 1 (4 * u + 5) (C 1 4) = 0) ∨ (v = 0 ∧ ¬ (C (1 + 1) 3 ≤ pcI (mkI (C (4 * u + 5 + 1)) (C (4 * u + 5) 6)) ∧ staleN C 1 (4 * u + 5) (C 1 4) = 0))))) v) (hB : (fun v => ((¬ (0 ≤ u ∧ u < S 579 1)) ∧ v = -1) ∨ (((0 ≤ u ∧ u < S 579 1) ∧ (t < 0 ∨ 10 < t)) ∧ v = -2) ∨ (((0 ≤ u ∧ u < S 579 1) ∧ t = 0) ∧ v = S 579 (32 * u + 16)) ∨ (((0 ≤ u ∧ u < S 579 1) ∧ t = 1) ∧ v = S 579 (32 * u + 17)) ∨ (((0 ≤ u ∧ u < S 579 1) ∧ t = 2) ∧ v = S 579 (32 * u + 18)) ∨ (((0 ≤ u ∧ u < S 579 1) ∧ t = 3) ∧ v = S 579 (32 * u + 19)) ∨ (((0 ≤ u ∧ u < S 579 1) ∧ t = 4) ∧ v = mLn (S 579) u) ∨ (((0 ≤ u ∧ u < S 579 1) ∧ t = 5) ∧ v = mSt (S 579) u (S 579 0)) ∨ (((0 ≤ u ∧ u < S 579 1) ∧ t = 6) ∧ v = mSrc (S 579) u) ∨ (((0 ≤ u ∧ u < S 579 1) ∧ t = 7) ∧ ((S 579 (32 * u + 18) = 0 ∧ v = mUrg (S 579) u) ∨ (¬ S 579 (32 * u + 18) = 0 ∧ v = -5))) ∨ (((0 ≤ u ∧ u < S 579 1) ∧ t = 8) ∧ ((S 579 (32 * u + 18) = 0 ∧ v = -5) ∨ (¬ S 579 (32 * u + 18) = 0 ∧ v = S 579 (32 * u + 20)))) ∨ (((0 ≤ u ∧ u < S 579 1) ∧ t = 9) ∧ v = S 579 (32 * u + 22)) ∨ (((0 ≤ u ∧ u < S 579 1) ∧ t = 10) ∧ ((v = 1 ∧ mRdy (S 579) u) ∨ (v = 0 ∧ ¬ mRdy (S 579) u)))) v') : v = v' := by
  have e0 : S 579 0 = C 1 4 := hJ.1.1.1.1
  have e1 : S 579 1 = C 1 3 := hJ.1.1.1.2.1
  have h13 := hJ.1.1.2.1.1
  rcases hA with ⟨a, ha⟩ | ⟨a, ha⟩ | ⟨a, ha⟩ | ⟨a, ha⟩ | ⟨a, ha⟩ | ⟨a, ha⟩ | ⟨a, ha⟩ | ⟨a, ha⟩ | ⟨a, ha⟩ | ⟨a, ha⟩ | ⟨a, ha⟩ | ⟨a, ha⟩ | ⟨a, ha⟩
  · rcases hB with ⟨c, hc⟩ | ⟨c, hc⟩ | ⟨c, hc⟩ | ⟨c, hc⟩ | ⟨c, hc⟩ | ⟨c, hc⟩ | ⟨c, hc⟩ | ⟨c, hc⟩ | ⟨c, hc⟩ | ⟨c, hc⟩ | ⟨c, hc⟩ | ⟨c, hc⟩ | ⟨c, hc⟩
    · omega
    · exfalso; clear ha hc; omega
    · exfalso; clear ha hc; omega
    · exfalso; clear ha hc; omega
    · exfalso; clear ha hc; omega
    · exfalso; clear ha hc; omega
    · exfalso; clear ha hc; omega
    · exfalso; clear ha hc; omega
    · exfalso; clear ha hc; omega
    · exfalso; clear ha hc; omega
    · exfalso; clear ha hc; omega
    · exfalso; clear ha hc; omega
    · exfalso; clear ha hc; omega
  · rcases hB with ⟨c, hc⟩ | ⟨c, hc⟩ | ⟨c, hc⟩ | ⟨c, hc⟩ | ⟨c, hc⟩ | ⟨c, hc⟩ | ⟨c, hc⟩ | ⟨c, hc⟩ | ⟨c, hc⟩ | ⟨c, hc⟩ | ⟨c, hc⟩ | ⟨c, hc⟩ | ⟨c, hc⟩
    · exfalso; clear ha hc; omega
    · omega
    · exfalso; clear ha hc; omega
    · exfalso; clear ha hc; omega
    · exfalso; clear ha hc; omega
    · exfalso; clear ha hc; omega
    · exfalso; clear ha hc; omega
    · exfalso; clear ha hc; omega
    · exfalso; clear ha hc; omega
    · exfalso; clear ha hc; omega
    · exfalso; clear ha hc; omega
    · exfalso; clear ha hc; omega
    · exfalso; clear ha hc; omega
  · rcases hB with ⟨c, hc⟩ | ⟨c, hc⟩ | ⟨c, hc⟩ | ⟨c, hc⟩ | ⟨c, hc⟩ | ⟨c, hc⟩ | ⟨c, hc⟩ | ⟨c, hc⟩ | ⟨c, hc⟩ | ⟨c, hc⟩ | ⟨c, hc⟩ | ⟨c, hc⟩ | ⟨c, hc⟩
    · exfalso; clear ha hc; omega
    · exfalso; clear ha hc; omega
    · have hL := hJ.life (u := u) (by omega)
      rw [ha, hc, hL.2.1.1]
    · exfalso; clear ha hc; omega
    · exfalso; clear ha hc; omega
    · exfalso; clear ha hc; omega
    · exfalso; clear ha hc; omega
    · exfalso; clear ha hc; omega
    · exfalso; clear ha hc; omega
    · exfalso; clear ha hc; omega
    · exfalso; clear ha hc; omega
    · exfalso; clear ha hc; omega
    · exfalso; clear ha hc; omega
  · rcases hB with ⟨c, hc⟩ | ⟨c, hc⟩ | ⟨c, hc⟩ | ⟨c, hc⟩ | ⟨c, hc⟩ | ⟨c, hc⟩ | ⟨c, hc⟩ | ⟨c, hc⟩ | ⟨c, hc⟩ | ⟨c, hc⟩ | ⟨c, hc⟩ | ⟨c, hc⟩ | ⟨c, hc⟩
    · exfalso; clear ha hc; omega
    · exfalso; clear ha hc; omega
    · exfalso; clear ha hc; omega
    · have hL := hJ.life (u := u) (by omega)
      rw [ha, hc, hL.2.1.2.1]
    · exfalso; clear ha hc; omega
    · exfalso; clear ha hc; omega
    · exfalso; clear ha hc; omega
    · exfalso; clear ha hc; omega
    · exfalso; clear ha hc; omega
    · exfalso; clear ha hc; omega
    · exfalso; clear ha hc; omega
    · exfalso; clear ha hc; omega
    · exfalso; clear ha hc; omega
  · rcases hB with ⟨c, hc⟩ | ⟨c, hc⟩ | ⟨c, hc⟩ | ⟨c, hc⟩ | ⟨c, hc⟩ | ⟨c, hc⟩ | ⟨c, hc⟩ | ⟨c, hc⟩ | ⟨c, hc⟩ | ⟨c, hc⟩ | ⟨c, hc⟩ | ⟨c, hc⟩ | ⟨c, hc⟩
    · exfalso; clear ha hc; omega
    · exfalso; clear ha hc; omega
    · exfalso; clear ha hc; omega
    · exfalso; clear ha hc; omega
    · have hL := hJ.life (u := u) (by omega)
      rw [ha, hc, hL.2.1.2.2.1]
    · exfalso; clear ha hc; omega
    · exfalso; clear ha hc; omega
    · exfalso; clear ha hc; omega
    · exfalso; clear ha hc; omega
    · exfalso; clear ha hc; omega
    · exfalso; clear ha hc; omega
    · exfalso; clear ha hc; omega
    · exfalso; clear ha hc; omega
  · rcases hB with ⟨c, hc⟩ | ⟨c, hc⟩ | ⟨c, hc⟩ | ⟨c, hc⟩ | ⟨c, hc⟩ | ⟨c, hc⟩ | ⟨c, hc⟩ | ⟨c, hc⟩ | ⟨c, hc⟩ | ⟨c, hc⟩ | ⟨c, hc⟩ | ⟨c, hc⟩ | ⟨c, hc⟩
    · exfalso; clear ha hc; omega
    · exfalso; clear ha hc; omega
    · exfalso; clear ha hc; omega
    · exfalso; clear ha hc; omega
    · exfalso; clear ha hc; omega
    · have hL := hJ.life (u := u) (by omega)
      rw [ha, hc, hL.2.1.2.2.2.1]
    · exfalso; clear ha hc; omega
    · exfalso; clear ha hc; omega
    · exfalso; clear ha hc; omega
    · exfalso; clear ha hc; omega
    · exfalso; clear ha hc; omega
    · exfalso; clear ha hc; omega
    · exfalso; clear ha hc; omega
  · rcases hB with ⟨c, hc⟩ | ⟨c, hc⟩ | ⟨c, hc⟩ | ⟨c, hc⟩ | ⟨c, hc⟩ | ⟨c, hc⟩ | ⟨c, hc⟩ | ⟨c, hc⟩ | ⟨c, hc⟩ | ⟨c, hc⟩ | ⟨c, hc⟩ | ⟨c, hc⟩ | ⟨c, hc⟩
    · exfalso; clear ha hc; omega
    · exfalso; clear ha hc; omega
    · exfalso; clear ha hc; omega
    · exfalso; clear ha hc; omega
    · exfalso; clear ha hc; omega
    · exfalso; clear ha hc; omega
    · have hu : 0 ≤ u ∧ u < C 1 3 := by omega
      rw [ha, hc, c_ln hJ.1 hu (show 4 * u + 1 + 4 = 4 * u + 5 by omega)]
    · exfalso; clear ha hc; omega
    · exfalso; clear ha hc; omega
    · exfalso; clear ha hc; omega
    · exfalso; clear ha hc; omega
    · exfalso; clear ha hc; omega
    · exfalso; clear ha hc; omega
  · rcases hB with ⟨c, hc⟩ | ⟨c, hc⟩ | ⟨c, hc⟩ | ⟨c, hc⟩ | ⟨c, hc⟩ | ⟨c, hc⟩ | ⟨c, hc⟩ | ⟨c, hc⟩ | ⟨c, hc⟩ | ⟨c, hc⟩ | ⟨c, hc⟩ | ⟨c, hc⟩ | ⟨c, hc⟩
    · exfalso; clear ha hc; omega
    · exfalso; clear ha hc; omega
    · exfalso; clear ha hc; omega
    · exfalso; clear ha hc; omega
    · exfalso; clear ha hc; omega
    · exfalso; clear ha hc; omega
    · exfalso; clear ha hc; omega
    · have hu : 0 ≤ u ∧ u < C 1 3 := by omega
      rw [ha, hc, c_st hJ.1 hu (show 4 * u + 1 + 4 = 4 * u + 5 by omega), e0]
    · exfalso; clear ha hc; omega
    · exfalso; clear ha hc; omega
    · exfalso; clear ha hc; omega
    · exfalso; clear ha hc; omega
    · exfalso; clear ha hc; omega
  · rcases hB with ⟨c, hc⟩ | ⟨c, hc⟩ | ⟨c, hc⟩ | ⟨c, hc⟩ | ⟨c, hc⟩ | ⟨c, hc⟩ | ⟨c, hc⟩ | ⟨c, hc⟩ | ⟨c, hc⟩ | ⟨c, hc⟩ | ⟨c, hc⟩ | ⟨c, hc⟩ | ⟨c, hc⟩
    · exfalso; clear ha hc; omega
    · exfalso; clear ha hc; omega
    · exfalso; clear ha hc; omega
    · exfalso; clear ha hc; omega
    · exfalso; clear ha hc; omega
    · exfalso; clear ha hc; omega
    · exfalso; clear ha hc; omega
    · exfalso; clear ha hc; omega
    · have hu : 0 ≤ u ∧ u < C 1 3 := by omega
      rw [ha, hc, c_src hJ.1 hu (show 4 * u + 1 + 4 = 4 * u + 5 by omega)]
    · exfalso; clear ha hc; omega
    · exfalso; clear ha hc; omega
    · exfalso; clear ha hc; omega
    · exfalso; clear ha hc; omega
  · rcases hB with ⟨c, hc⟩ | ⟨c, hc⟩ | ⟨c, hc⟩ | ⟨c, hc⟩ | ⟨c, hc⟩ | ⟨c, hc⟩ | ⟨c, hc⟩ | ⟨c, hc⟩ | ⟨c, hc⟩ | ⟨c, hc⟩ | ⟨c, hc⟩ | ⟨c, hc⟩ | ⟨c, hc⟩
    · exfalso; clear ha hc; omega
    · exfalso; clear ha hc; omega
    · exfalso; clear ha hc; omega
    · exfalso; clear ha hc; omega
    · exfalso; clear ha hc; omega
    · exfalso; clear ha hc; omega
    · exfalso; clear ha hc; omega
    · exfalso; clear ha hc; omega
    · exfalso; clear ha hc; omega
    · have hu : 0 ≤ u ∧ u < C 1 3 := by omega
      have hL := hJ.life (u := u) (by omega)
      have h2 := hL.2.1.2.2.1
      have h9 := c_urg hJ.1 hu (show 4 * u + 1 + 4 = 4 * u + 5 by omega)
      rcases ha with ha | ha <;> rcases hc with hc | hc <;> omega
    · exfalso; clear ha hc; omega
    · exfalso; clear ha hc; omega
    · exfalso; clear ha hc; omega
  · rcases hB with ⟨c, hc⟩ | ⟨c, hc⟩ | ⟨c, hc⟩ | ⟨c, hc⟩ | ⟨c, hc⟩ | ⟨c, hc⟩ | ⟨c, hc⟩ | ⟨c, hc⟩ | ⟨c, hc⟩ | ⟨c, hc⟩ | ⟨c, hc⟩ | ⟨c, hc⟩ | ⟨c, hc⟩
    · exfalso; clear ha hc; omega
    · exfalso; clear ha hc; omega
    · exfalso; clear ha hc; omega
    · exfalso; clear ha hc; omega
    · exfalso; clear ha hc; omega
    · exfalso; clear ha hc; omega
    · exfalso; clear ha hc; omega
    · exfalso; clear ha hc; omega
    · exfalso; clear ha hc; omega
    · exfalso; clear ha hc; omega
    · have hL := hJ.life (u := u) (by omega)
      have h2 := hL.2.1.2.2.1
      have h3 := hL.2.2.1
      have h4 := hL.2.2.2.1
      rcases hc with hc | hc
      · have := h4 (by omega)
        omega
      · have := h3 (by omega)
        omega
    · exfalso; clear ha hc; omega
    · exfalso; clear ha hc; omega
  · rcases hB with ⟨c, hc⟩ | ⟨c, hc⟩ | ⟨c, hc⟩ | ⟨c, hc⟩ | ⟨c, hc⟩ | ⟨c, hc⟩ | ⟨c, hc⟩ | ⟨c, hc⟩ | ⟨c, hc⟩ | ⟨c, hc⟩ | ⟨c, hc⟩ | ⟨c, hc⟩ | ⟨c, hc⟩
    · exfalso; clear ha hc; omega
    · exfalso; clear ha hc; omega
    · exfalso; clear ha hc; omega
    · exfalso; clear ha hc; omega
    · exfalso; clear ha hc; omega
    · exfalso; clear ha hc; omega
    · exfalso; clear ha hc; omega
    · exfalso; clear ha hc; omega
    · exfalso; clear ha hc; omega
    · exfalso; clear ha hc; omega
    · exfalso; clear ha hc; omega
    · have hL := hJ.life (u := u) (by omega)
      rw [ha, hc, hL.2.1.2.2.2.2]
    · exfalso; clear ha hc; omega
  · rcases hB with ⟨c, hc⟩ | ⟨c, hc⟩ | ⟨c, hc⟩ | ⟨c, hc⟩ | ⟨c, hc⟩ | ⟨c, hc⟩ | ⟨c, hc⟩ | ⟨c, hc⟩ | ⟨c, hc⟩ | ⟨c, hc⟩ | ⟨c, hc⟩ | ⟨c, hc⟩ | ⟨c, hc⟩
    · exfalso; clear ha hc; omega
    · exfalso; clear ha hc; omega
    · exfalso; clear ha hc; omega
    · exfalso; clear ha hc; omega
    · exfalso; clear ha hc; omega
    · exfalso; clear ha hc; omega
    · exfalso; clear ha hc; omega
    · exfalso; clear ha hc; omega
    · exfalso; clear ha hc; omega
    · exfalso; clear ha hc; omega
    · exfalso; clear ha hc; omega
    · exfalso; clear ha hc; omega
    · have hu : 0 ≤ u ∧ u < C 1 3 := by omega
      have h9 := c_rdy hJ.1 hu
      unfold rdy at h9
      rw [show 4 * u + 1 + 4 = 4 * u + 5 by omega] at h9
      rcases ha with ⟨ha, hx⟩ | ⟨ha, hx⟩ <;> rcases hc with ⟨hc, hy⟩ | ⟨hc, hy⟩
      · omega
      · exact absurd (h9.mpr hx) hy
      · exact absurd (h9.mp hy) hx
      · omega
set_option maxHeartbeats 4000000 in
theorem sm_fact {C S : gM} {N : Int} {u t z v v' : Int} (hJ : JJ C S N) (hN : N ≤ 512) (hA : (fun v => ((¬ (0 ≤ u ∧ u < C 1 3 ∧ 0 ≤ t ∧ t < C (4 * u + 5) 6)) ∧ v = -1) ∨ (((0 ≤ u ∧ u < C 1 3 ∧ 0 ≤ t ∧ t < C (4 * u + 5) 6) ∧ (z < 0 ∨ 4 < z)) ∧ v = -2) ∨ (((0 ≤ u ∧ u < C 1 3 ∧ 0 ≤ t ∧ t < C (4 * u + 5) 6) ∧ z = 0) ∧ v = C (4 * u + 5 + 1) t) ∨ (((0 ≤ u ∧ u < C 1 3 ∧ 0 ≤ t ∧ t < C (4 * u + 5) 6) ∧ z = 1) ∧ v = C (4 * u + 5 + 2) t) ∨ (((0 ≤ u ∧ u < C 1 3 ∧ 0 ≤ t ∧ t < C (4 * u + 5) 6) ∧ z = 2) ∧ v = C (4 * u + 5 + 3) t) ∨ (((0 ≤ u ∧ u < C 1 3 ∧ 0 ≤ t ∧ t < C (4 * u + 5) 6) ∧ z = 3) ∧ v = fst C 1 (4 * u + 5) (C 1 4) t) ∨ (((0 ≤ u ∧ u < C 1 3 ∧ 0 ≤ t ∧ t < C (4 * u + 5) 6) ∧ z = 4) ∧ v = bI (WF (C (1 + 2) (C (4 * u + 5 + 1) t)) (C 1 4 - C (4 * u + 5 + 3) t)))) v) (hB : (fun v => ((¬ (0 ≤ u ∧ u < S 579 1 ∧ 0 ≤ t ∧ t < S 579 (32 * u + 19))) ∧ v = -1) ∨ (((0 ≤ u ∧ u < S 579 1 ∧ 0 ≤ t ∧ t < S 579 (32 * u + 19)) ∧ (z < 0 ∨ 4 < z)) ∧ v = -2) ∨ (((0 ≤ u ∧ u < S 579 1 ∧ 0 ≤ t ∧ t < S 579 (32 * u + 19)) ∧ z = 0) ∧ v = S 579 (32 * u + 3 * t + 24)) ∨ (((0 ≤ u ∧ u < S 579 1 ∧ 0 ≤ t ∧ t < S 579 (32 * u + 19)) ∧ z = 1) ∧ v = S 579 (32 * u + 3 * t + 25)) ∨ (((0 ≤ u ∧ u < S 579 1 ∧ 0 ≤ t ∧ t < S 579 (32 * u + 19)) ∧ z = 2) ∧ v = S 579 (32 * u + 3 * t + 26)) ∨ (((0 ≤ u ∧ u < S 579 1 ∧ 0 ≤ t ∧ t < S 579 (32 * u + 19)) ∧ z = 3) ∧ v = mFst (S 579) u (S 579 0) t) ∨ (((0 ≤ u ∧ u < S 579 1 ∧ 0 ≤ t ∧ t < S 579 (32 * u + 19)) ∧ z = 4) ∧ v = bI (WF (S 579 (S 579 (32 * u + 3 * t + 24) + 9)) (S 579 0 - S 579 (32 * u + 3 * t + 26))))) v') : v = v' := by
  have e0 : S 579 0 = C 1 4 := hJ.1.1.1.1
  have e1 : S 579 1 = C 1 3 := hJ.1.1.1.2.1
  have h13 := hJ.1.1.2.1.1
  have hsz : 0 ≤ u → u < C 1 3 → S 579 (32 * u + 19) = C (4 * u + 5) 6 := fun x1 x2 => (hJ.life ⟨x1, x2⟩).2.1.2.2.2.1
  rcases hA with ⟨a, ha⟩ | ⟨a, ha⟩ | ⟨a, ha⟩ | ⟨a, ha⟩ | ⟨a, ha⟩ | ⟨a, ha⟩ | ⟨a, ha⟩
  · rcases hB with ⟨c, hc⟩ | ⟨c, hc⟩ | ⟨c, hc⟩ | ⟨c, hc⟩ | ⟨c, hc⟩ | ⟨c, hc⟩ | ⟨c, hc⟩
    · omega
    · exfalso; clear ha hc; omega
    · exfalso; clear ha hc; omega
    · exfalso; clear ha hc; omega
    · exfalso; clear ha hc; omega
    · exfalso; clear ha hc; omega
    · exfalso; clear ha hc; omega
  · rcases hB with ⟨c, hc⟩ | ⟨c, hc⟩ | ⟨c, hc⟩ | ⟨c, hc⟩ | ⟨c, hc⟩ | ⟨c, hc⟩ | ⟨c, hc⟩
    · exfalso; clear ha hc; omega
    · omega
    · exfalso; clear ha hc; omega
    · exfalso; clear ha hc; omega
    · exfalso; clear ha hc; omega
    · exfalso; clear ha hc; omega
    · exfalso; clear ha hc; omega
  · rcases hB with ⟨c, hc⟩ | ⟨c, hc⟩ | ⟨c, hc⟩ | ⟨c, hc⟩ | ⟨c, hc⟩ | ⟨c, hc⟩ | ⟨c, hc⟩
    · exfalso; clear ha hc; omega
    · exfalso; clear ha hc; omega
    · have hL := hJ.life (u := u) (by omega)
      have h9 := hL.2.2.2.2.2.2.2 t (by omega) (by omega)
      rw [ha, hc, h9.1]
    · exfalso; clear ha hc; omega
    · exfalso; clear ha hc; omega
    · exfalso; clear ha hc; omega
    · exfalso; clear ha hc; omega
  · rcases hB with ⟨c, hc⟩ | ⟨c, hc⟩ | ⟨c, hc⟩ | ⟨c, hc⟩ | ⟨c, hc⟩ | ⟨c, hc⟩ | ⟨c, hc⟩
    · exfalso; clear ha hc; omega
    · exfalso; clear ha hc; omega
    · exfalso; clear ha hc; omega
    · have hL := hJ.life (u := u) (by omega)
      have h9 := hL.2.2.2.2.2.2.2 t (by omega) (by omega)
      rw [ha, hc, h9.2.1]
    · exfalso; clear ha hc; omega
    · exfalso; clear ha hc; omega
    · exfalso; clear ha hc; omega
  · rcases hB with ⟨c, hc⟩ | ⟨c, hc⟩ | ⟨c, hc⟩ | ⟨c, hc⟩ | ⟨c, hc⟩ | ⟨c, hc⟩ | ⟨c, hc⟩
    · exfalso; clear ha hc; omega
    · exfalso; clear ha hc; omega
    · exfalso; clear ha hc; omega
    · exfalso; clear ha hc; omega
    · have hL := hJ.life (u := u) (by omega)
      have h9 := hL.2.2.2.2.2.2.2 t (by omega) (by omega)
      rw [ha, hc, h9.2.2]
    · exfalso; clear ha hc; omega
    · exfalso; clear ha hc; omega
  · rcases hB with ⟨c, hc⟩ | ⟨c, hc⟩ | ⟨c, hc⟩ | ⟨c, hc⟩ | ⟨c, hc⟩ | ⟨c, hc⟩ | ⟨c, hc⟩
    · exfalso; clear ha hc; omega
    · exfalso; clear ha hc; omega
    · exfalso; clear ha hc; omega
    · exfalso; clear ha hc; omega
    · exfalso; clear ha hc; omega
    · have hu : 0 ≤ u ∧ u < C 1 3 := by omega
      rw [ha, hc, e0, c_fst hJ.1 hu (show 4 * u + 1 + 4 = 4 * u + 5 by omega) ⟨by omega, by omega⟩]
    · exfalso; clear ha hc; omega
  · rcases hB with ⟨c, hc⟩ | ⟨c, hc⟩ | ⟨c, hc⟩ | ⟨c, hc⟩ | ⟨c, hc⟩ | ⟨c, hc⟩ | ⟨c, hc⟩
    · exfalso; clear ha hc; omega
    · exfalso; clear ha hc; omega
    · exfalso; clear ha hc; omega
    · exfalso; clear ha hc; omega
    · exfalso; clear ha hc; omega
    · exfalso; clear ha hc; omega
    · have hL := hJ.life (u := u) (by omega)
      have h9 := hL.2.2.2.2.2.2.2 t (by omega) (by omega)
      have hb := (hL.1.2.2.2.2.2.2.2.2 t (by omega) (by omega)).1
      rw [ha, hc, h9.1, h9.2.2, e0, (hJ.1.1.2.2.2.2 _ hb).1]
set_option maxHeartbeats 4000000 in
theorem sm_staleIn {C S : gM} {N : Int} {u v v' : Int} (hJ : JJ C S N) (hN : N ≤ 512) (hA : (fun v => ((¬ (0 ≤ u ∧ u ≤ 999)) ∧ v = -2) ∨ ((0 ≤ u ∧ u ≤ 999) ∧ v = smI (fun i => if C (4 * i + 1 + 4) 2 = 3 then 0 else staleN C 1 (4 * i + 1 + 4) (u + C 1 4)) (C 1 3))) v) (hB : (fun v => ((¬ (0 ≤ u ∧ u ≤ 999)) ∧ v = -2) ∨ ((0 ≤ u ∧ u ≤ 999) ∧ v = smI (fun i => if S 579 (32 * i + 18) = 3 then 0 else mSt (S 579) i (S 579 0 + u)) (S 579 1))) v') : v = v' := by
  have e0 : S 579 0 = C 1 4 := hJ.1.1.1.1
  have e1 : S 579 1 = C 1 3 := hJ.1.1.1.2.1
  have h13 := hJ.1.1.2.1.1
  rcases hA with ⟨a, ha⟩ | ⟨a, ha⟩
  · rcases hB with ⟨c, hc⟩ | ⟨c, hc⟩
    · omega
    · exfalso; clear ha hc; omega
  · rcases hB with ⟨c, hc⟩ | ⟨c, hc⟩
    · exfalso; clear ha hc; omega
    · rw [ha, hc, e1]
      refine smI_congr (fun i a1 a2 => ?_)
      rw [c_st hJ.1 ⟨a1, a2⟩ rfl, (hJ.1.2.1 i a1 a2).2.1.2.2.1, e0, Int.add_comm u (C 1 4)]
set_option maxHeartbeats 4000000 in
theorem sm_source {C S : gM} {N : Int} {u t v v' : Int} (hJ : JJ C S N) (hN : N ≤ 512) (hA : (fun v => ((¬ (0 ≤ u ∧ u < 6)) ∧ v = -1) ∨ (((0 ≤ u ∧ u < 6) ∧ (t < 0 ∨ 3 < t)) ∧ v = -2) ∨ (((0 ≤ u ∧ u < 6) ∧ t = 0) ∧ v = C 3 u) ∨ (((0 ≤ u ∧ u < 6) ∧ t = 1) ∧ v = smI (fun i => smI (fun j => if C (4 * i + 1 + 5) j = u then 1 else 0) (C (4 * i + 1 + 4) 6)) (C 1 3)) ∨ (((0 ≤ u ∧ u < 6) ∧ t = 2) ∧ v = smI (fun i => smI (fun j => if C (4 * i + 1 + 5) j = u then fst C 1 (4 * i + 1 + 4) (C 1 4) j else 0) (C (4 * i + 1 + 4) 6)) (C 1 3)) ∨ (((0 ≤ u ∧ u < 6) ∧ t = 3) ∧ v = smI (fun i => smI (fun j => if C (4 * i + 1 + 5) j = u then C (4 * i + 1 + 6) j else 0) (C (4 * i + 1 + 4) 6)) (C 1 3))) v) (hB : (fun v => ((¬ (0 ≤ u ∧ u < 6)) ∧ v = -1) ∨ (((0 ≤ u ∧ u < 6) ∧ (t < 0 ∨ 3 < t)) ∧ v = -2) ∨ (((0 ≤ u ∧ u < 6) ∧ t = 0) ∧ v = S 579 (u + 9)) ∨ (((0 ≤ u ∧ u < 6) ∧ 1 ≤ t ∧ t ≤ 3) ∧ v = smI (fun i => smI (mSrcT (S 579) u t i) (S 579 (32 * i + 19))) (S 579 1))) v') : v = v' := by
  have e0 : S 579 0 = C 1 4 := hJ.1.1.1.1
  have e1 : S 579 1 = C 1 3 := hJ.1.1.1.2.1
  have h13 := hJ.1.1.2.1.1
  rcases hA with ⟨a, ha⟩ | ⟨a, ha⟩ | ⟨a, ha⟩ | ⟨a, ha⟩ | ⟨a, ha⟩ | ⟨a, ha⟩
  · rcases hB with ⟨c, hc⟩ | ⟨c, hc⟩ | ⟨c, hc⟩ | ⟨c, hc⟩
    · omega
    · exfalso; clear ha hc; omega
    · exfalso; clear ha hc; omega
    · exfalso; clear ha hc; omega
  · rcases hB with ⟨c, hc⟩ | ⟨c, hc⟩ | ⟨c, hc⟩ | ⟨c, hc⟩
    · exfalso; clear ha hc; omega
    · omega
    · exfalso; clear ha hc; omega
    · exfalso; clear ha hc; omega
  · rcases hB with ⟨c, hc⟩ | ⟨c, hc⟩ | ⟨c, hc⟩ | ⟨c, hc⟩
    · exfalso; clear ha hc; omega
    · exfalso; clear ha hc; omega
    · rw [ha, hc, (hJ.1.1.2.2.2.2 u ⟨by omega, by omega⟩).1]
      rfl
    · exfalso; clear ha hc; omega
  · rcases hB with ⟨c, hc⟩ | ⟨c, hc⟩ | ⟨c, hc⟩ | ⟨c, hc⟩
    · exfalso; clear ha hc; omega
    · exfalso; clear ha hc; omega
    · exfalso; clear ha hc; omega
    · obtain rfl : t = 1 := by omega
      rw [ha, hc, e1]
      refine smI_congr (fun i a1 a2 => ?_)
      have hL := hJ.1.2.1 i a1 a2
      rw [hL.2.1.2.2.2.1]
      refine smI_congr (fun j b1 b2 => ?_)
      have h9 := hL.2.2.2.2.2.2.2 j b1 b2
      rw [show 4 * i + 1 + 4 + 1 = 4 * i + 1 + 5 by omega, show 4 * i + 1 + 4 + 2 = 4 * i + 1 + 6 by omega] at h9
      unfold mSrcT
      rw [h9.1]
      by_cases hs : C (4 * i + 1 + 5) j = u
      · rw [if_pos hs, if_pos hs, if_pos rfl]
      · rw [if_neg hs, if_neg hs]
  · rcases hB with ⟨c, hc⟩ | ⟨c, hc⟩ | ⟨c, hc⟩ | ⟨c, hc⟩
    · exfalso; clear ha hc; omega
    · exfalso; clear ha hc; omega
    · exfalso; clear ha hc; omega
    · obtain rfl : t = 2 := by omega
      rw [ha, hc, e1]
      refine smI_congr (fun i a1 a2 => ?_)
      have hL := hJ.1.2.1 i a1 a2
      rw [hL.2.1.2.2.2.1]
      refine smI_congr (fun j b1 b2 => ?_)
      have h9 := hL.2.2.2.2.2.2.2 j b1 b2
      rw [show 4 * i + 1 + 4 + 1 = 4 * i + 1 + 5 by omega, show 4 * i + 1 + 4 + 2 = 4 * i + 1 + 6 by omega] at h9
      unfold mSrcT
      rw [h9.1]
      by_cases hs : C (4 * i + 1 + 5) j = u
      · rw [if_pos hs, if_pos hs, if_neg (by omega), if_neg (by omega), e0, c_fst hJ.1 ⟨a1, a2⟩ rfl ⟨b1, b2⟩]
      · rw [if_neg hs, if_neg hs]
  · rcases hB with ⟨c, hc⟩ | ⟨c, hc⟩ | ⟨c, hc⟩ | ⟨c, hc⟩
    · exfalso; clear ha hc; omega
    · exfalso; clear ha hc; omega
    · exfalso; clear ha hc; omega
    · obtain rfl : t = 3 := by omega
      rw [ha, hc, e1]
      refine smI_congr (fun i a1 a2 => ?_)
      have hL := hJ.1.2.1 i a1 a2
      rw [hL.2.1.2.2.2.1]
      refine smI_congr (fun j b1 b2 => ?_)
      have h9 := hL.2.2.2.2.2.2.2 j b1 b2
      rw [show 4 * i + 1 + 4 + 1 = 4 * i + 1 + 5 by omega, show 4 * i + 1 + 4 + 2 = 4 * i + 1 + 6 by omega] at h9
      unfold mSrcT
      rw [h9.1]
      by_cases hs : C (4 * i + 1 + 5) j = u
      · rw [if_pos hs, if_pos hs, if_neg (by omega), if_pos rfl, h9.2.1]
      · rw [if_neg hs, if_neg hs]
theorem sm_worth {C S : gM} {N u : Int} {v v' : UInt32} (hJ : JJ C S N) (hA : (fun v => (¬ (0 ≤ u ∧ u < C 1 3) ∧ v = 3212836864) ∨ ((0 ≤ u ∧ u < C 1 3) ∧ v = wsI (fun j => FP.fmul (WF (C (1 + 2) (C (4 * u + 5 + 1) j)) (C 1 4 - C (4 * u + 5 + 3) j)) (FP.i2f (iI (C (4 * u + 5 + 2) j)))) (C (4 * u + 5) 6))) v) (hB : (fun v => (¬ (0 ≤ u ∧ u < S 579 1) ∧ v = 3212836864) ∨ ((0 ≤ u ∧ u < S 579 1) ∧ v = wsI (fun j => FP.fmul (WF (S 579 (S 579 (32 * u + 3 * j + 24) + 9)) (S 579 0 - S 579 (32 * u + 3 * j + 26))) (FP.i2f (iI (S 579 (32 * u + 3 * j + 25))))) (S 579 (32 * u + 19)))) v') : v = v' := by
  have e0 : S 579 0 = C 1 4 := hJ.1.1.1.1
  have e1 : S 579 1 = C 1 3 := hJ.1.1.1.2.1
  have h13 := hJ.1.1.2.1.1
  rcases hA with ⟨a, ha⟩ | ⟨a, ha⟩
  · rcases hB with ⟨c, hc⟩ | ⟨c, hc⟩
    · rw [ha, hc]
    · exfalso; clear ha hc; omega
  · rcases hB with ⟨c, hc⟩ | ⟨c, hc⟩
    · exfalso; clear ha hc; omega
    · have hL := hJ.life (u := u) (by omega)
      rw [ha, hc, hL.2.1.2.2.2.1]
      refine wsI_congr (fun j a1 a2 => ?_)
      have h9 := hL.2.2.2.2.2.2.2 j a1 a2
      have hb := (hL.1.2.2.2.2.2.2.2.2 j a1 a2).1
      rw [h9.1, h9.2.1, h9.2.2, e0, (hJ.1.1.2.2.2.2 _ hb).1]
theorem pos_worth {C : gM} {S : gM} {N u : Int} {v : UInt32} (hJ : JJ C S N) (hN : N ≤ 512) (hA : (fun v => (¬ (0 ≤ u ∧ u < C 1 3) ∧ v = 3212836864) ∨ ((0 ≤ u ∧ u < C 1 3) ∧ v = wsI (fun j => FP.fmul (WF (C (1 + 2) (C (4 * u + 5 + 1) j)) (C 1 4 - C (4 * u + 5 + 3) j)) (FP.i2f (iI (C (4 * u + 5 + 2) j)))) (C (4 * u + 5) 6))) v) : v = 3212836864 ∨ pos32 v := by
  rcases hA with ⟨a, ha⟩ | ⟨a, ha⟩
  · exact Or.inl ha
  · right
    rw [ha]
    have hL := hJ.life (u := u) (by omega)
    have h14 := hJ.1.1.2.1.2.1
    refine pos_wsI (fun j a1 a2 => ?_)
    have hb := hL.1.2.2.2.2.2.2.2.2 j a1 a2
    exact pos_fmul (fin_WF (hJ.1.1.2.2.2.2 _ hb.1).2 (by have h9 := hb.2.2; rw [show 4 * u + 5 + 3 = 4 * u + 5 + 3 from rfl] at h9; omega)) (fin_lines (by omega))
theorem sm_urgent {C C' S : gM} {N u v v' : Int} (hJ : JJ C S N) (hN : N ≤ 512) (hA : (fun v C' => (u < 0 ∧ v = -2 ∧ C' = C) ∨ (0 ≤ u ∧ Rkd C' 570 (fun i => C (4 * i + 1 + 4) 2 = 0) (urgP C 1) (C 1 3) ∧ (∀ a, a < 570 ∨ 572 < a → C' a = C a) ∧ ((u < C' 570 2 ∧ v = C' 571 u) ∨ (¬ u < C' 570 2 ∧ v = -5)))) v C') (hB : (fun v => (u < 0 ∧ v = -2) ∨ (0 ≤ u ∧ ((v = -5 ∧ ∀ k : Int, 0 ≤ k → k < S 579 1 → ¬ (fun k => S 579 (32 * k + 18) = 0 ∧ ahN (fun y => S 579 (32 * y + 18) = 0) (mUrg (S 579)) (S 579 1) k = u) k) ∨ (0 ≤ v ∧ v < S 579 1 ∧ (fun k => S 579 (32 * k + 18) = 0 ∧ ahN (fun y => S 579 (32 * y + 18) = 0) (mUrg (S 579)) (S 579 1) k = u) v)))) v') : v = v' ∧ JJ C' S N := by
  have e0 : S 579 0 = C 1 4 := hJ.1.1.1.1
  have e1 : S 579 1 = C 1 3 := hJ.1.1.1.2.1
  have h13 := hJ.1.1.2.1.1
  rcases hA with ⟨a, ha, rfl⟩ | ⟨a, hk, hf, ha⟩
  · exact ⟨by rcases hB with ⟨c, hc⟩ | ⟨c, hc⟩ <;> omega, hJ⟩
  · refine ⟨?_, urg_J hJ hf⟩
    rcases hB with ⟨c, hc⟩ | ⟨c, hc⟩
    · omega
    have hR : Rnk (C' 571) (C' 570 2) (fun i => C (4 * i + 1 + 4) 2 = 0) (urgP C 1) (C 1 3) := Rkd_rnk hk
    have hP : ∀ y : Int, 0 ≤ y → y < C 1 3 → (C (4 * y + 1 + 4) 2 = 0 ↔ S 579 (32 * y + 18) = 0) := fun y a1 a2 => by rw [(hJ.1.2.1 y a1 a2).2.1.2.2.1]
    have hU : ∀ y : Int, 0 ≤ y → y < C 1 3 → urgP C 1 y = mUrg (S 579) y := fun y a1 a2 => (c_urg hJ.1 ⟨a1, a2⟩ rfl).symm
    rw [e1] at hc
    have hN' : ∀ x : Int, 0 ≤ x → x < C 1 3 → ahN (fun y => S 579 (32 * y + 18) = 0) (mUrg (S 579)) (C 1 3) x = ahN (fun i => C (4 * i + 1 + 4) 2 = 0) (urgP C 1) (C 1 3) x := fun x a1 a2 => (ahN_c hP hU ⟨a1, a2⟩).symm
    rcases ha with ⟨b, ha⟩ | ⟨b, ha⟩
    · have h2 := hR.2.1 u a b
      have h3 := Rnk_ahN hR ⟨a, b⟩
      rcases hc with ⟨hc, hn⟩ | ⟨d1, d2, d3, d4⟩
      · exact absurd ⟨(hP _ h2.1 h2.2.1).mp h2.2.2, by rw [hN' _ h2.1 h2.2.1]; exact h3⟩ (hn _ h2.1 h2.2.1)
      · obtain ⟨t, t1, t2, t3⟩ := Rnk_has hR ⟨d1, d2⟩ ((hP _ d1 d2).mpr d3)
        have h4 := Rnk_ahN hR ⟨t1, t2⟩
        rw [hN' _ d1 d2, ← t3, h4] at d4
        rw [ha, ← t3, d4]
    · rcases hc with ⟨hc, hn⟩ | ⟨d1, d2, d3, d4⟩
      · omega
      · obtain ⟨t, t1, t2, t3⟩ := Rnk_has hR ⟨d1, d2⟩ ((hP _ d1 d2).mpr d3)
        have h4 := Rnk_ahN hR ⟨t1, t2⟩
        rw [hN' _ d1 d2, ← t3, h4] at d4
        omega
theorem sm_page {C C' S S' : gM} {N u v v' : Int} (hJ : JJ C S N) (hN : N ≤ 512) (hA : (fun v C' => (u < 0 ∧ v = -2 ∧ C' = C) ∨ (0 ≤ u ∧ Laid C C' 1 ∧ ((u < C' 573 2 ∧ v = C' 577 u) ∨ (¬ u < C' 573 2 ∧ v = -5)))) v C') (hB : (fun v S' => (u < 0 ∧ v = -2 ∧ S' = S) ∨ (0 ≤ u ∧ LyD S S' ∧ ((u < S' 578 5 ∧ v = S' 582 u) ∨ (¬ u < S' 578 5 ∧ v = -5)))) v' S') : v = v' ∧ JJ C' S' N := by
  rcases hA with ⟨a, ha, rfl⟩ | ⟨a, hk, ha⟩
  · rcases hB with ⟨c, hc, rfl⟩ | ⟨c, hl, hc⟩
    · exact ⟨by omega, hJ⟩
    · exfalso; omega
  · rcases hB with ⟨c, hc, rfl⟩ | ⟨c, hl, hc⟩
    · exfalso; omega
    · have h9 := page_same hJ hN hk hl
      refine ⟨?_, page_J hJ hk hl⟩
      rcases ha with ⟨b, ha⟩ | ⟨b, ha⟩
      · have := h9.2.2 u a b
        omega
      · omega
set_option maxHeartbeats 4000000 in
theorem sm_count {C C' S S' : gM} {N u v v' : Int} (hJ : JJ C S N) (hN : N ≤ 512) (hA : (fun v C' => ((u < 0 ∨ 17 < u) ∧ v = -2 ∧ C' = C) ∨ ((u = 0) ∧ v = C 1 4 ∧ C' = C) ∨ ((u = 1) ∧ v = C 1 3 ∧ C' = C) ∨ ((u = 2) ∧ v = C 1 5 ∧ C' = C) ∨ ((u = 3) ∧ v = smI (fun i => if C (4 * i + 1 + 4) 2 = 0 then 1 else 0) (C 1 3) ∧ C' = C) ∨ ((u = 4) ∧ v = smI (fun i => if C (4 * i + 1 + 4) 2 = 1 then 1 else 0) (C 1 3) ∧ C' = C) ∨ ((u = 5) ∧ v = smI (fun i => if C (4 * i + 1 + 4) 2 = 2 then 1 else 0) (C 1 3) ∧ C' = C) ∨ ((u = 6) ∧ v = smI (fun i => if C (4 * i + 1 + 4) 2 = 3 then 1 else 0) (C 1 3) ∧ C' = C) ∨ ((u = 7) ∧ v = smI (fun i => C (4 * i + 1 + 4) 6) (C 1 3) ∧ C' = C) ∨ ((u = 8) ∧ v = smI (fun i => if C (4 * i + 1 + 4) 2 = 3 then 0 else staleN C 1 (4 * i + 1 + 4) (C 1 4)) (C 1 3) ∧ C' = C) ∨ ((u = 9) ∧ v = C' 573 3 ∧ Laid C C' 1) ∨ ((u = 10) ∧ v = C 1 6 ∧ C' = C) ∨ ((u = 11) ∧ v = C (1 + 1) (u - 11) ∧ C' = C) ∨ ((u = 12) ∧ v = C (1 + 1) (u - 11) ∧ C' = C) ∨ ((u = 13) ∧ v = C (1 + 1) (u - 11) ∧ C' = C) ∨ ((u = 14) ∧ v = C (1 + 1) (u - 11) ∧ C' = C) ∨ ((u = 15) ∧ v = C (1 + 1) (u - 11) ∧ C' = C) ∨ ((u = 16) ∧ v = C 169 2 ∧ C' = C) ∨ ((u = 17) ∧ v = C 507 1 ∧ C' = C)) v C') (hB : (fun v S' => ((u < 0 ∨ 17 < u) ∧ v = -2 ∧ S' = S) ∨ ((u = 0) ∧ v = S 579 0 ∧ S' = S) ∨ ((u = 1) ∧ v = S 579 1 ∧ S' = S) ∨ ((u = 2) ∧ v = S 579 2 ∧ S' = S) ∨ ((u = 3) ∧ v = smI (fun i => if S 579 (32 * i + 18) = u - 3 then 1 else 0) (S 579 1) ∧ S' = S) ∨ ((u = 4) ∧ v = smI (fun i => if S 579 (32 * i + 18) = u - 3 then 1 else 0) (S 579 1) ∧ S' = S) ∨ ((u = 5) ∧ v = smI (fun i => if S 579 (32 * i + 18) = u - 3 then 1 else 0) (S 579 1) ∧ S' = S) ∨ ((u = 6) ∧ v = smI (fun i => if S 579 (32 * i + 18) = u - 3 then 1 else 0) (S 579 1) ∧ S' = S) ∨ ((u = 7) ∧ v = smI (fun i => S 579 (32 * i + 19)) (S 579 1) ∧ S' = S) ∨ ((u = 8) ∧ v = smI (fun i => if S 579 (32 * i + 18) = 3 then 0 else mSt (S 579) i (S 579 0)) (S 579 1) ∧ S' = S) ∨ ((u = 9) ∧ LyD S S' ∧ v = S' 578 6) ∨ ((u = 10) ∧ v = S 579 3 ∧ S' = S) ∨ ((u = 11) ∧ v = S 579 (u - 7) ∧ S' = S) ∨ ((u = 12) ∧ v = S 579 (u - 7) ∧ S' = S) ∨ ((u = 13) ∧ v = S 579 (u - 7) ∧ S' = S) ∨ ((u = 14) ∧ v = S 579 (u - 7) ∧ S' = S) ∨ ((u = 15) ∧ v = S 579 (u - 7) ∧ S' = S) ∨ ((u = 16) ∧ v = S 578 9 ∧ S' = S) ∨ ((u = 17) ∧ v = S 578 8 ∧ S' = S)) v' S') : v = v' ∧ JJ C' S' N := by
  have e0 : S 579 0 = C 1 4 := hJ.1.1.1.1
  have e1 : S 579 1 = C 1 3 := hJ.1.1.1.2.1
  have h13 := hJ.1.1.2.1.1
  rcases hA with ⟨a, ha⟩ | ⟨a, ha⟩ | ⟨a, ha⟩ | ⟨a, ha⟩ | ⟨a, ha⟩ | ⟨a, ha⟩ | ⟨a, ha⟩ | ⟨a, ha⟩ | ⟨a, ha⟩ | ⟨a, ha⟩ | ⟨a, ha⟩ | ⟨a, ha⟩ | ⟨a, ha⟩ | ⟨a, ha⟩ | ⟨a, ha⟩ | ⟨a, ha⟩ | ⟨a, ha⟩ | ⟨a, ha⟩ | ⟨a, ha⟩
  · rcases hB with ⟨c, hc⟩ | ⟨c, hc⟩ | ⟨c, hc⟩ | ⟨c, hc⟩ | ⟨c, hc⟩ | ⟨c, hc⟩ | ⟨c, hc⟩ | ⟨c, hc⟩ | ⟨c, hc⟩ | ⟨c, hc⟩ | ⟨c, hc⟩ | ⟨c, hc⟩ | ⟨c, hc⟩ | ⟨c, hc⟩ | ⟨c, hc⟩ | ⟨c, hc⟩ | ⟨c, hc⟩ | ⟨c, hc⟩ | ⟨c, hc⟩
    · obtain ⟨ha, rfl⟩ := ha
      obtain ⟨hc, rfl⟩ := hc
      refine ⟨?_, hJ⟩
      omega
    · exfalso; clear ha hc; omega
    · exfalso; clear ha hc; omega
    · exfalso; clear ha hc; omega
    · exfalso; clear ha hc; omega
    · exfalso; clear ha hc; omega
    · exfalso; clear ha hc; omega
    · exfalso; clear ha hc; omega
    · exfalso; clear ha hc; omega
    · exfalso; clear ha hc; omega
    · exfalso; clear ha hc; omega
    · exfalso; clear ha hc; omega
    · exfalso; clear ha hc; omega
    · exfalso; clear ha hc; omega
    · exfalso; clear ha hc; omega
    · exfalso; clear ha hc; omega
    · exfalso; clear ha hc; omega
    · exfalso; clear ha hc; omega
    · exfalso; clear ha hc; omega
  · rcases hB with ⟨c, hc⟩ | ⟨c, hc⟩ | ⟨c, hc⟩ | ⟨c, hc⟩ | ⟨c, hc⟩ | ⟨c, hc⟩ | ⟨c, hc⟩ | ⟨c, hc⟩ | ⟨c, hc⟩ | ⟨c, hc⟩ | ⟨c, hc⟩ | ⟨c, hc⟩ | ⟨c, hc⟩ | ⟨c, hc⟩ | ⟨c, hc⟩ | ⟨c, hc⟩ | ⟨c, hc⟩ | ⟨c, hc⟩ | ⟨c, hc⟩
    · exfalso; clear ha hc; omega
    · obtain ⟨ha, rfl⟩ := ha
      obtain ⟨hc, rfl⟩ := hc
      refine ⟨?_, hJ⟩
      omega
    · exfalso; clear ha hc; omega
    · exfalso; clear ha hc; omega
    · exfalso; clear ha hc; omega
    · exfalso; clear ha hc; omega
    · exfalso; clear ha hc; omega
    · exfalso; clear ha hc; omega
    · exfalso; clear ha hc; omega
    · exfalso; clear ha hc; omega
    · exfalso; clear ha hc; omega
    · exfalso; clear ha hc; omega
    · exfalso; clear ha hc; omega
    · exfalso; clear ha hc; omega
    · exfalso; clear ha hc; omega
    · exfalso; clear ha hc; omega
    · exfalso; clear ha hc; omega
    · exfalso; clear ha hc; omega
    · exfalso; clear ha hc; omega
  · rcases hB with ⟨c, hc⟩ | ⟨c, hc⟩ | ⟨c, hc⟩ | ⟨c, hc⟩ | ⟨c, hc⟩ | ⟨c, hc⟩ | ⟨c, hc⟩ | ⟨c, hc⟩ | ⟨c, hc⟩ | ⟨c, hc⟩ | ⟨c, hc⟩ | ⟨c, hc⟩ | ⟨c, hc⟩ | ⟨c, hc⟩ | ⟨c, hc⟩ | ⟨c, hc⟩ | ⟨c, hc⟩ | ⟨c, hc⟩ | ⟨c, hc⟩
    · exfalso; clear ha hc; omega
    · exfalso; clear ha hc; omega
    · obtain ⟨ha, rfl⟩ := ha
      obtain ⟨hc, rfl⟩ := hc
      refine ⟨?_, hJ⟩
      omega
    · exfalso; clear ha hc; omega
    · exfalso; clear ha hc; omega
    · exfalso; clear ha hc; omega
    · exfalso; clear ha hc; omega
    · exfalso; clear ha hc; omega
    · exfalso; clear ha hc; omega
    · exfalso; clear ha hc; omega
    · exfalso; clear ha hc; omega
    · exfalso; clear ha hc; omega
    · exfalso; clear ha hc; omega
    · exfalso; clear ha hc; omega
    · exfalso; clear ha hc; omega
    · exfalso; clear ha hc; omega
    · exfalso; clear ha hc; omega
    · exfalso; clear ha hc; omega
    · exfalso; clear ha hc; omega
  · rcases hB with ⟨c, hc⟩ | ⟨c, hc⟩ | ⟨c, hc⟩ | ⟨c, hc⟩ | ⟨c, hc⟩ | ⟨c, hc⟩ | ⟨c, hc⟩ | ⟨c, hc⟩ | ⟨c, hc⟩ | ⟨c, hc⟩ | ⟨c, hc⟩ | ⟨c, hc⟩ | ⟨c, hc⟩ | ⟨c, hc⟩ | ⟨c, hc⟩ | ⟨c, hc⟩ | ⟨c, hc⟩ | ⟨c, hc⟩ | ⟨c, hc⟩
    · exfalso; clear ha hc; omega
    · exfalso; clear ha hc; omega
    · exfalso; clear ha hc; omega
    · obtain ⟨ha, rfl⟩ := ha
      obtain ⟨hc, rfl⟩ := hc
      refine ⟨?_, hJ⟩
      have := hJ.1.1.1.2.2.1; omega
    · exfalso; clear ha hc; omega
    · exfalso; clear ha hc; omega
    · exfalso; clear ha hc; omega
    · exfalso; clear ha hc; omega
    · exfalso; clear ha hc; omega
    · exfalso; clear ha hc; omega
    · exfalso; clear ha hc; omega
    · exfalso; clear ha hc; omega
    · exfalso; clear ha hc; omega
    · exfalso; clear ha hc; omega
    · exfalso; clear ha hc; omega
    · exfalso; clear ha hc; omega
    · exfalso; clear ha hc; omega
    · exfalso; clear ha hc; omega
    · exfalso; clear ha hc; omega
  · rcases hB with ⟨c, hc⟩ | ⟨c, hc⟩ | ⟨c, hc⟩ | ⟨c, hc⟩ | ⟨c, hc⟩ | ⟨c, hc⟩ | ⟨c, hc⟩ | ⟨c, hc⟩ | ⟨c, hc⟩ | ⟨c, hc⟩ | ⟨c, hc⟩ | ⟨c, hc⟩ | ⟨c, hc⟩ | ⟨c, hc⟩ | ⟨c, hc⟩ | ⟨c, hc⟩ | ⟨c, hc⟩ | ⟨c, hc⟩ | ⟨c, hc⟩
    · exfalso; clear ha hc; omega
    · exfalso; clear ha hc; omega
    · exfalso; clear ha hc; omega
    · exfalso; clear ha hc; omega
    · obtain ⟨ha, rfl⟩ := ha
      obtain ⟨hc, rfl⟩ := hc
      refine ⟨?_, hJ⟩
      obtain rfl : u = 3 := by omega
      rw [ha, hc, e1]
      refine smI_congr (fun i a1 a2 => ?_)
      rw [(hJ.1.2.1 i a1 a2).2.1.2.2.1]
      rfl
    · exfalso; clear ha hc; omega
    · exfalso; clear ha hc; omega
    · exfalso; clear ha hc; omega
    · exfalso; clear ha hc; omega
    · exfalso; clear ha hc; omega
    · exfalso; clear ha hc; omega
    · exfalso; clear ha hc; omega
    · exfalso; clear ha hc; omega
    · exfalso; clear ha hc; omega
    · exfalso; clear ha hc; omega
    · exfalso; clear ha hc; omega
    · exfalso; clear ha hc; omega
    · exfalso; clear ha hc; omega
    · exfalso; clear ha hc; omega
  · rcases hB with ⟨c, hc⟩ | ⟨c, hc⟩ | ⟨c, hc⟩ | ⟨c, hc⟩ | ⟨c, hc⟩ | ⟨c, hc⟩ | ⟨c, hc⟩ | ⟨c, hc⟩ | ⟨c, hc⟩ | ⟨c, hc⟩ | ⟨c, hc⟩ | ⟨c, hc⟩ | ⟨c, hc⟩ | ⟨c, hc⟩ | ⟨c, hc⟩ | ⟨c, hc⟩ | ⟨c, hc⟩ | ⟨c, hc⟩ | ⟨c, hc⟩
    · exfalso; clear ha hc; omega
    · exfalso; clear ha hc; omega
    · exfalso; clear ha hc; omega
    · exfalso; clear ha hc; omega
    · exfalso; clear ha hc; omega
    · obtain ⟨ha, rfl⟩ := ha
      obtain ⟨hc, rfl⟩ := hc
      refine ⟨?_, hJ⟩
      obtain rfl : u = 4 := by omega
      rw [ha, hc, e1]
      refine smI_congr (fun i a1 a2 => ?_)
      rw [(hJ.1.2.1 i a1 a2).2.1.2.2.1]
      rfl
    · exfalso; clear ha hc; omega
    · exfalso; clear ha hc; omega
    · exfalso; clear ha hc; omega
    · exfalso; clear ha hc; omega
    · exfalso; clear ha hc; omega
    · exfalso; clear ha hc; omega
    · exfalso; clear ha hc; omega
    · exfalso; clear ha hc; omega
    · exfalso; clear ha hc; omega
    · exfalso; clear ha hc; omega
    · exfalso; clear ha hc; omega
    · exfalso; clear ha hc; omega
    · exfalso; clear ha hc; omega
  · rcases hB with ⟨c, hc⟩ | ⟨c, hc⟩ | ⟨c, hc⟩ | ⟨c, hc⟩ | ⟨c, hc⟩ | ⟨c, hc⟩ | ⟨c, hc⟩ | ⟨c, hc⟩ | ⟨c, hc⟩ | ⟨c, hc⟩ | ⟨c, hc⟩ | ⟨c, hc⟩ | ⟨c, hc⟩ | ⟨c, hc⟩ | ⟨c, hc⟩ | ⟨c, hc⟩ | ⟨c, hc⟩ | ⟨c, hc⟩ | ⟨c, hc⟩
    · exfalso; clear ha hc; omega
    · exfalso; clear ha hc; omega
    · exfalso; clear ha hc; omega
    · exfalso; clear ha hc; omega
    · exfalso; clear ha hc; omega
    · exfalso; clear ha hc; omega
    · obtain ⟨ha, rfl⟩ := ha
      obtain ⟨hc, rfl⟩ := hc
      refine ⟨?_, hJ⟩
      obtain rfl : u = 5 := by omega
      rw [ha, hc, e1]
      refine smI_congr (fun i a1 a2 => ?_)
      rw [(hJ.1.2.1 i a1 a2).2.1.2.2.1]
      rfl
    · exfalso; clear ha hc; omega
    · exfalso; clear ha hc; omega
    · exfalso; clear ha hc; omega
    · exfalso; clear ha hc; omega
    · exfalso; clear ha hc; omega
    · exfalso; clear ha hc; omega
    · exfalso; clear ha hc; omega
    · exfalso; clear ha hc; omega
    · exfalso; clear ha hc; omega
    · exfalso; clear ha hc; omega
    · exfalso; clear ha hc; omega
    · exfalso; clear ha hc; omega
  · rcases hB with ⟨c, hc⟩ | ⟨c, hc⟩ | ⟨c, hc⟩ | ⟨c, hc⟩ | ⟨c, hc⟩ | ⟨c, hc⟩ | ⟨c, hc⟩ | ⟨c, hc⟩ | ⟨c, hc⟩ | ⟨c, hc⟩ | ⟨c, hc⟩ | ⟨c, hc⟩ | ⟨c, hc⟩ | ⟨c, hc⟩ | ⟨c, hc⟩ | ⟨c, hc⟩ | ⟨c, hc⟩ | ⟨c, hc⟩ | ⟨c, hc⟩
    · exfalso; clear ha hc; omega
    · exfalso; clear ha hc; omega
    · exfalso; clear ha hc; omega
    · exfalso; clear ha hc; omega
    · exfalso; clear ha hc; omega
    · exfalso; clear ha hc; omega
    · exfalso; clear ha hc; omega
    · obtain ⟨ha, rfl⟩ := ha
      obtain ⟨hc, rfl⟩ := hc
      refine ⟨?_, hJ⟩
      obtain rfl : u = 6 := by omega
      rw [ha, hc, e1]
      refine smI_congr (fun i a1 a2 => ?_)
      rw [(hJ.1.2.1 i a1 a2).2.1.2.2.1]
      rfl
    · exfalso; clear ha hc; omega
    · exfalso; clear ha hc; omega
    · exfalso; clear ha hc; omega
    · exfalso; clear ha hc; omega
    · exfalso; clear ha hc; omega
    · exfalso; clear ha hc; omega
    · exfalso; clear ha hc; omega
    · exfalso; clear ha hc; omega
    · exfalso; clear ha hc; omega
    · exfalso; clear ha hc; omega
    · exfalso; clear ha hc; omega
  · rcases hB with ⟨c, hc⟩ | ⟨c, hc⟩ | ⟨c, hc⟩ | ⟨c, hc⟩ | ⟨c, hc⟩ | ⟨c, hc⟩ | ⟨c, hc⟩ | ⟨c, hc⟩ | ⟨c, hc⟩ | ⟨c, hc⟩ | ⟨c, hc⟩ | ⟨c, hc⟩ | ⟨c, hc⟩ | ⟨c, hc⟩ | ⟨c, hc⟩ | ⟨c, hc⟩ | ⟨c, hc⟩ | ⟨c, hc⟩ | ⟨c, hc⟩
    · exfalso; clear ha hc; omega
    · exfalso; clear ha hc; omega
    · exfalso; clear ha hc; omega
    · exfalso; clear ha hc; omega
    · exfalso; clear ha hc; omega
    · exfalso; clear ha hc; omega
    · exfalso; clear ha hc; omega
    · exfalso; clear ha hc; omega
    · obtain ⟨ha, rfl⟩ := ha
      obtain ⟨hc, rfl⟩ := hc
      refine ⟨?_, hJ⟩
      rw [ha, hc, e1]
      exact smI_congr (fun i a1 a2 => (hJ.1.2.1 i a1 a2).2.1.2.2.2.1.symm)
    · exfalso; clear ha hc; omega
    · exfalso; clear ha hc; omega
    · exfalso; clear ha hc; omega
    · exfalso; clear ha hc; omega
    · exfalso; clear ha hc; omega
    · exfalso; clear ha hc; omega
    · exfalso; clear ha hc; omega
    · exfalso; clear ha hc; omega
    · exfalso; clear ha hc; omega
    · exfalso; clear ha hc; omega
  · rcases hB with ⟨c, hc⟩ | ⟨c, hc⟩ | ⟨c, hc⟩ | ⟨c, hc⟩ | ⟨c, hc⟩ | ⟨c, hc⟩ | ⟨c, hc⟩ | ⟨c, hc⟩ | ⟨c, hc⟩ | ⟨c, hc⟩ | ⟨c, hc⟩ | ⟨c, hc⟩ | ⟨c, hc⟩ | ⟨c, hc⟩ | ⟨c, hc⟩ | ⟨c, hc⟩ | ⟨c, hc⟩ | ⟨c, hc⟩ | ⟨c, hc⟩
    · exfalso; clear ha hc; omega
    · exfalso; clear ha hc; omega
    · exfalso; clear ha hc; omega
    · exfalso; clear ha hc; omega
    · exfalso; clear ha hc; omega
    · exfalso; clear ha hc; omega
    · exfalso; clear ha hc; omega
    · exfalso; clear ha hc; omega
    · exfalso; clear ha hc; omega
    · obtain ⟨ha, rfl⟩ := ha
      obtain ⟨hc, rfl⟩ := hc
      refine ⟨?_, hJ⟩
      rw [ha, hc, e1]
      refine smI_congr (fun i a1 a2 => ?_)
      rw [c_st hJ.1 ⟨a1, a2⟩ rfl, (hJ.1.2.1 i a1 a2).2.1.2.2.1, e0]
    · exfalso; clear ha hc; omega
    · exfalso; clear ha hc; omega
    · exfalso; clear ha hc; omega
    · exfalso; clear ha hc; omega
    · exfalso; clear ha hc; omega
    · exfalso; clear ha hc; omega
    · exfalso; clear ha hc; omega
    · exfalso; clear ha hc; omega
    · exfalso; clear ha hc; omega
  · rcases hB with ⟨c, hc⟩ | ⟨c, hc⟩ | ⟨c, hc⟩ | ⟨c, hc⟩ | ⟨c, hc⟩ | ⟨c, hc⟩ | ⟨c, hc⟩ | ⟨c, hc⟩ | ⟨c, hc⟩ | ⟨c, hc⟩ | ⟨c, hc⟩ | ⟨c, hc⟩ | ⟨c, hc⟩ | ⟨c, hc⟩ | ⟨c, hc⟩ | ⟨c, hc⟩ | ⟨c, hc⟩ | ⟨c, hc⟩ | ⟨c, hc⟩
    · exfalso; clear ha hc; omega
    · exfalso; clear ha hc; omega
    · exfalso; clear ha hc; omega
    · exfalso; clear ha hc; omega
    · exfalso; clear ha hc; omega
    · exfalso; clear ha hc; omega
    · exfalso; clear ha hc; omega
    · exfalso; clear ha hc; omega
    · exfalso; clear ha hc; omega
    · exfalso; clear ha hc; omega
    · exact ⟨by rw [ha.1, hc.2]; exact (page_same hJ hN ha.2 hc.1).1, page_J hJ ha.2 hc.1⟩
    · exfalso; clear ha hc; omega
    · exfalso; clear ha hc; omega
    · exfalso; clear ha hc; omega
    · exfalso; clear ha hc; omega
    · exfalso; clear ha hc; omega
    · exfalso; clear ha hc; omega
    · exfalso; clear ha hc; omega
    · exfalso; clear ha hc; omega
  · rcases hB with ⟨c, hc⟩ | ⟨c, hc⟩ | ⟨c, hc⟩ | ⟨c, hc⟩ | ⟨c, hc⟩ | ⟨c, hc⟩ | ⟨c, hc⟩ | ⟨c, hc⟩ | ⟨c, hc⟩ | ⟨c, hc⟩ | ⟨c, hc⟩ | ⟨c, hc⟩ | ⟨c, hc⟩ | ⟨c, hc⟩ | ⟨c, hc⟩ | ⟨c, hc⟩ | ⟨c, hc⟩ | ⟨c, hc⟩ | ⟨c, hc⟩
    · exfalso; clear ha hc; omega
    · exfalso; clear ha hc; omega
    · exfalso; clear ha hc; omega
    · exfalso; clear ha hc; omega
    · exfalso; clear ha hc; omega
    · exfalso; clear ha hc; omega
    · exfalso; clear ha hc; omega
    · exfalso; clear ha hc; omega
    · exfalso; clear ha hc; omega
    · exfalso; clear ha hc; omega
    · exfalso; clear ha hc; omega
    · obtain ⟨ha, rfl⟩ := ha
      obtain ⟨hc, rfl⟩ := hc
      refine ⟨?_, hJ⟩
      have := hJ.1.1.1.2.2.2; omega
    · exfalso; clear ha hc; omega
    · exfalso; clear ha hc; omega
    · exfalso; clear ha hc; omega
    · exfalso; clear ha hc; omega
    · exfalso; clear ha hc; omega
    · exfalso; clear ha hc; omega
    · exfalso; clear ha hc; omega
  · rcases hB with ⟨c, hc⟩ | ⟨c, hc⟩ | ⟨c, hc⟩ | ⟨c, hc⟩ | ⟨c, hc⟩ | ⟨c, hc⟩ | ⟨c, hc⟩ | ⟨c, hc⟩ | ⟨c, hc⟩ | ⟨c, hc⟩ | ⟨c, hc⟩ | ⟨c, hc⟩ | ⟨c, hc⟩ | ⟨c, hc⟩ | ⟨c, hc⟩ | ⟨c, hc⟩ | ⟨c, hc⟩ | ⟨c, hc⟩ | ⟨c, hc⟩
    · exfalso; clear ha hc; omega
    · exfalso; clear ha hc; omega
    · exfalso; clear ha hc; omega
    · exfalso; clear ha hc; omega
    · exfalso; clear ha hc; omega
    · exfalso; clear ha hc; omega
    · exfalso; clear ha hc; omega
    · exfalso; clear ha hc; omega
    · exfalso; clear ha hc; omega
    · exfalso; clear ha hc; omega
    · exfalso; clear ha hc; omega
    · exfalso; clear ha hc; omega
    · obtain ⟨ha, rfl⟩ := ha
      obtain ⟨hc, rfl⟩ := hc
      refine ⟨?_, hJ⟩
      obtain rfl : u = 11 := by omega
      rw [ha, hc]
      exact hJ.1.1.2.2.1.1.symm
    · exfalso; clear ha hc; omega
    · exfalso; clear ha hc; omega
    · exfalso; clear ha hc; omega
    · exfalso; clear ha hc; omega
    · exfalso; clear ha hc; omega
    · exfalso; clear ha hc; omega
  · rcases hB with ⟨c, hc⟩ | ⟨c, hc⟩ | ⟨c, hc⟩ | ⟨c, hc⟩ | ⟨c, hc⟩ | ⟨c, hc⟩ | ⟨c, hc⟩ | ⟨c, hc⟩ | ⟨c, hc⟩ | ⟨c, hc⟩ | ⟨c, hc⟩ | ⟨c, hc⟩ | ⟨c, hc⟩ | ⟨c, hc⟩ | ⟨c, hc⟩ | ⟨c, hc⟩ | ⟨c, hc⟩ | ⟨c, hc⟩ | ⟨c, hc⟩
    · exfalso; clear ha hc; omega
    · exfalso; clear ha hc; omega
    · exfalso; clear ha hc; omega
    · exfalso; clear ha hc; omega
    · exfalso; clear ha hc; omega
    · exfalso; clear ha hc; omega
    · exfalso; clear ha hc; omega
    · exfalso; clear ha hc; omega
    · exfalso; clear ha hc; omega
    · exfalso; clear ha hc; omega
    · exfalso; clear ha hc; omega
    · exfalso; clear ha hc; omega
    · exfalso; clear ha hc; omega
    · obtain ⟨ha, rfl⟩ := ha
      obtain ⟨hc, rfl⟩ := hc
      refine ⟨?_, hJ⟩
      obtain rfl : u = 12 := by omega
      rw [ha, hc]
      exact hJ.1.1.2.2.1.2.1.symm
    · exfalso; clear ha hc; omega
    · exfalso; clear ha hc; omega
    · exfalso; clear ha hc; omega
    · exfalso; clear ha hc; omega
    · exfalso; clear ha hc; omega
  · rcases hB with ⟨c, hc⟩ | ⟨c, hc⟩ | ⟨c, hc⟩ | ⟨c, hc⟩ | ⟨c, hc⟩ | ⟨c, hc⟩ | ⟨c, hc⟩ | ⟨c, hc⟩ | ⟨c, hc⟩ | ⟨c, hc⟩ | ⟨c, hc⟩ | ⟨c, hc⟩ | ⟨c, hc⟩ | ⟨c, hc⟩ | ⟨c, hc⟩ | ⟨c, hc⟩ | ⟨c, hc⟩ | ⟨c, hc⟩ | ⟨c, hc⟩
    · exfalso; clear ha hc; omega
    · exfalso; clear ha hc; omega
    · exfalso; clear ha hc; omega
    · exfalso; clear ha hc; omega
    · exfalso; clear ha hc; omega
    · exfalso; clear ha hc; omega
    · exfalso; clear ha hc; omega
    · exfalso; clear ha hc; omega
    · exfalso; clear ha hc; omega
    · exfalso; clear ha hc; omega
    · exfalso; clear ha hc; omega
    · exfalso; clear ha hc; omega
    · exfalso; clear ha hc; omega
    · exfalso; clear ha hc; omega
    · obtain ⟨ha, rfl⟩ := ha
      obtain ⟨hc, rfl⟩ := hc
      refine ⟨?_, hJ⟩
      obtain rfl : u = 13 := by omega
      rw [ha, hc]
      exact hJ.1.1.2.2.1.2.2.1.symm
    · exfalso; clear ha hc; omega
    · exfalso; clear ha hc; omega
    · exfalso; clear ha hc; omega
    · exfalso; clear ha hc; omega
  · rcases hB with ⟨c, hc⟩ | ⟨c, hc⟩ | ⟨c, hc⟩ | ⟨c, hc⟩ | ⟨c, hc⟩ | ⟨c, hc⟩ | ⟨c, hc⟩ | ⟨c, hc⟩ | ⟨c, hc⟩ | ⟨c, hc⟩ | ⟨c, hc⟩ | ⟨c, hc⟩ | ⟨c, hc⟩ | ⟨c, hc⟩ | ⟨c, hc⟩ | ⟨c, hc⟩ | ⟨c, hc⟩ | ⟨c, hc⟩ | ⟨c, hc⟩
    · exfalso; clear ha hc; omega
    · exfalso; clear ha hc; omega
    · exfalso; clear ha hc; omega
    · exfalso; clear ha hc; omega
    · exfalso; clear ha hc; omega
    · exfalso; clear ha hc; omega
    · exfalso; clear ha hc; omega
    · exfalso; clear ha hc; omega
    · exfalso; clear ha hc; omega
    · exfalso; clear ha hc; omega
    · exfalso; clear ha hc; omega
    · exfalso; clear ha hc; omega
    · exfalso; clear ha hc; omega
    · exfalso; clear ha hc; omega
    · exfalso; clear ha hc; omega
    · obtain ⟨ha, rfl⟩ := ha
      obtain ⟨hc, rfl⟩ := hc
      refine ⟨?_, hJ⟩
      obtain rfl : u = 14 := by omega
      rw [ha, hc]
      exact hJ.1.1.2.2.1.2.2.2.1.symm
    · exfalso; clear ha hc; omega
    · exfalso; clear ha hc; omega
    · exfalso; clear ha hc; omega
  · rcases hB with ⟨c, hc⟩ | ⟨c, hc⟩ | ⟨c, hc⟩ | ⟨c, hc⟩ | ⟨c, hc⟩ | ⟨c, hc⟩ | ⟨c, hc⟩ | ⟨c, hc⟩ | ⟨c, hc⟩ | ⟨c, hc⟩ | ⟨c, hc⟩ | ⟨c, hc⟩ | ⟨c, hc⟩ | ⟨c, hc⟩ | ⟨c, hc⟩ | ⟨c, hc⟩ | ⟨c, hc⟩ | ⟨c, hc⟩ | ⟨c, hc⟩
    · exfalso; clear ha hc; omega
    · exfalso; clear ha hc; omega
    · exfalso; clear ha hc; omega
    · exfalso; clear ha hc; omega
    · exfalso; clear ha hc; omega
    · exfalso; clear ha hc; omega
    · exfalso; clear ha hc; omega
    · exfalso; clear ha hc; omega
    · exfalso; clear ha hc; omega
    · exfalso; clear ha hc; omega
    · exfalso; clear ha hc; omega
    · exfalso; clear ha hc; omega
    · exfalso; clear ha hc; omega
    · exfalso; clear ha hc; omega
    · exfalso; clear ha hc; omega
    · exfalso; clear ha hc; omega
    · obtain ⟨ha, rfl⟩ := ha
      obtain ⟨hc, rfl⟩ := hc
      refine ⟨?_, hJ⟩
      obtain rfl : u = 15 := by omega
      rw [ha, hc]
      exact hJ.1.1.2.2.1.2.2.2.2.symm
    · exfalso; clear ha hc; omega
    · exfalso; clear ha hc; omega
  · rcases hB with ⟨c, hc⟩ | ⟨c, hc⟩ | ⟨c, hc⟩ | ⟨c, hc⟩ | ⟨c, hc⟩ | ⟨c, hc⟩ | ⟨c, hc⟩ | ⟨c, hc⟩ | ⟨c, hc⟩ | ⟨c, hc⟩ | ⟨c, hc⟩ | ⟨c, hc⟩ | ⟨c, hc⟩ | ⟨c, hc⟩ | ⟨c, hc⟩ | ⟨c, hc⟩ | ⟨c, hc⟩ | ⟨c, hc⟩ | ⟨c, hc⟩
    · exfalso; clear ha hc; omega
    · exfalso; clear ha hc; omega
    · exfalso; clear ha hc; omega
    · exfalso; clear ha hc; omega
    · exfalso; clear ha hc; omega
    · exfalso; clear ha hc; omega
    · exfalso; clear ha hc; omega
    · exfalso; clear ha hc; omega
    · exfalso; clear ha hc; omega
    · exfalso; clear ha hc; omega
    · exfalso; clear ha hc; omega
    · exfalso; clear ha hc; omega
    · exfalso; clear ha hc; omega
    · exfalso; clear ha hc; omega
    · exfalso; clear ha hc; omega
    · exfalso; clear ha hc; omega
    · exfalso; clear ha hc; omega
    · obtain ⟨ha, rfl⟩ := ha
      obtain ⟨hc, rfl⟩ := hc
      refine ⟨?_, hJ⟩
      have := hJ.2.1.2.2; omega
    · exfalso; clear ha hc; omega
  · rcases hB with ⟨c, hc⟩ | ⟨c, hc⟩ | ⟨c, hc⟩ | ⟨c, hc⟩ | ⟨c, hc⟩ | ⟨c, hc⟩ | ⟨c, hc⟩ | ⟨c, hc⟩ | ⟨c, hc⟩ | ⟨c, hc⟩ | ⟨c, hc⟩ | ⟨c, hc⟩ | ⟨c, hc⟩ | ⟨c, hc⟩ | ⟨c, hc⟩ | ⟨c, hc⟩ | ⟨c, hc⟩ | ⟨c, hc⟩ | ⟨c, hc⟩
    · exfalso; clear ha hc; omega
    · exfalso; clear ha hc; omega
    · exfalso; clear ha hc; omega
    · exfalso; clear ha hc; omega
    · exfalso; clear ha hc; omega
    · exfalso; clear ha hc; omega
    · exfalso; clear ha hc; omega
    · exfalso; clear ha hc; omega
    · exfalso; clear ha hc; omega
    · exfalso; clear ha hc; omega
    · exfalso; clear ha hc; omega
    · exfalso; clear ha hc; omega
    · exfalso; clear ha hc; omega
    · exfalso; clear ha hc; omega
    · exfalso; clear ha hc; omega
    · exfalso; clear ha hc; omega
    · exfalso; clear ha hc; omega
    · exfalso; clear ha hc; omega
    · obtain ⟨ha, rfl⟩ := ha
      obtain ⟨hc, rfl⟩ := hc
      refine ⟨?_, hJ⟩
      have := hJ.2.2.2.2.2.2.1; omega
