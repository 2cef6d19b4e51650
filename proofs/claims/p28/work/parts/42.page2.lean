/-! what the page holds, what the ranking of the living holds -/
theorem lnP_eq (C : gM) (i : Int) : lnP C 1 i = lnI C i := by
  unfold lnP lnI
  rw [show 4 * i + 1 + 4 = 4 * i + 5 by omega]
theorem rd_iff (C : gM) (i : Int) : rdy C 1 i ↔ rdI C i = 1 := by
  unfold rdI
  by_cases h : rdy C 1 i
  · exact ⟨fun _ => ci_t h, fun _ => h⟩
  · exact ⟨fun z => absurd z h, fun z => by rw [ci_f h] at z; omega⟩
theorem pgf_anti {e ln : Int → Int} {f0 t : Int} (h : 0 ≤ t) (hl : ∀ j, 0 ≤ j → 0 ≤ ln (e j) ∨ True) : ∀ k : Nat, (∀ j, t ≤ j → j < t + k → 0 ≤ ln (e j)) → pgf e ln f0 (t + k) ≤ pgf e ln f0 t := by
  intro k
  induction k with
  | zero => intro _; rw [show t + ((0 : Nat) : Int) = t by omega]; exact Int.le_refl _
  | succ k ih =>
    intro hj
    have h1 := ih (fun j a1 a2 => hj j a1 (by omega))
    have h2 := hj (t + k) (by omega) (by omega)
    rw [show t + ((k + 1 : Nat) : Int) = (t + k) + 1 by omega]
    by_cases hk : tkn e ln f0 (t + k)
    · have h3 := (pg_s (by omega) hk).1
      omega
    · have h3 := (pg_n (by omega) hk).1
      omega
theorem pg_sum {e ln L : Int → Int} {f0 m : Int} (hL : ∀ t, 0 ≤ t → t < m → tkn e ln f0 t → L (pgc e ln f0 t) = e t) : ∀ k : Nat, (k : Int) ≤ m → pgf e ln f0 k = f0 - smI (fun r => ln (L r)) (pgc e ln f0 k) := by
  intro k
  induction k with
  | zero => intro _; show f0 = f0 - 0; omega
  | succ k ih =>
    intro hk
    have h1 := ih (by omega)
    rw [show ((k + 1 : Nat) : Int) = (k : Int) + 1 by omega]
    by_cases hc : tkn e ln f0 k
    · have h3 := pg_s (by omega) hc
      have h4 := (pgc_b e ln f0 k).1
      have h5 : 0 ≤ pgc e ln f0 k := by
        unfold pgc
        rw [show ((k : Int)).toNat = k by omega]
        exact h4
      rw [h3.1, h3.2, smI_s _ h5, hL k (by omega) (by omega) hc]
      omega
    · have h3 := pg_n (by omega) hc
      rw [h3.1, h3.2]
      exact h1
theorem pgv_or (L : gM) (u : Int) : (u < L 573 2 ∧ pgv L u = L 577 u) ∨ (¬ u < L 573 2 ∧ pgv L u = -5) := by
  unfold pgv
  by_cases h : u < L 573 2
  · exact Or.inl ⟨h, if_pos h⟩
  · exact Or.inr ⟨h, if_neg h⟩
theorem ugv_or (L : gM) (u : Int) : (u < L 570 2 ∧ ugv L u = L 571 u) ∨ (¬ u < L 570 2 ∧ ugv L u = -5) := by
  unfold ugv
  by_cases h : u < L 570 2
  · exact Or.inl ⟨h, if_pos h⟩
  · exact Or.inr ⟨h, if_neg h⟩
/-- the page: those on it are dead and ready, in their order, the lines are what isn't free, and no one who is left out would fit -/
theorem Lq_facts {C L : gM} {N : Int} (hI : Iv C N) (hN : N ≤ 500) (hL : Lq C L) :
    (0 ≤ L 573 2 ∧ L 573 2 ≤ C 1 3) ∧
    (∀ r : Int, 0 ≤ r → r < L 573 2 → (0 ≤ L 577 r ∧ L 577 r < C 1 3) ∧ C (4 * L 577 r + 5) 2 = 2 ∧ rdI C (L 577 r) = 1) ∧
    (∀ s r : Int, 0 ≤ s → s < r → r < L 573 2 → C (4 * L 577 r + 5) 1 < C (4 * L 577 s + 5) 1 ∨ (C (4 * L 577 s + 5) 1 = C (4 * L 577 r + 5) 1 ∧ (C (4 * L 577 s + 5) 4 < C (4 * L 577 r + 5) 4 ∨ (C (4 * L 577 s + 5) 4 = C (4 * L 577 r + 5) 4 ∧ L 577 s < L 577 r)))) ∧
    (L 573 3 = C 2 1 - smI (fun r => lnI C (L 577 r)) (L 573 2) ∧ 0 ≤ L 573 3 ∧ L 573 3 ≤ C 2 1) ∧
    (∀ p : Int, 0 ≤ p → p < C 1 3 → C (4 * p + 5) 2 = 2 → rdI C p = 1 → lnI C p ≤ L 573 3 → ∃ r : Int, 0 ≤ r ∧ r < L 573 2 ∧ L 577 r = p) := by
  obtain ⟨q, m, h1, h2, h3, h4⟩ := hL
  have hf0 := bc_12 hI
  rw [show (1 : Int) + 1 = 2 from rfl] at h2 h3 h4
  have hq : ∀ t, 0 ≤ t → t < m → (0 ≤ q t ∧ q t < C 1 3) ∧ C (4 * q t + 5) 2 = 2 ∧ rdI C (q t) = 1 := fun t a1 a2 => by
    obtain ⟨b1, b2, b3, b4⟩ := h1.2.1 t a1 a2
    refine ⟨⟨b1, b2⟩, ?_, (rd_iff C _).mp b4⟩
    rw [show 4 * q t + 5 = 4 * q t + 1 + 4 by omega]
    exact b3
  have hln : ∀ t, 0 ≤ t → t < m → 0 ≤ lnP C 1 (q t) := fun t a1 a2 => by
    rw [lnP_eq]
    exact (lnI_b hI (hq t a1 a2).1).1
  have hat : ∀ r, 0 ≤ r → r < L 573 2 → ∃ t, 0 ≤ t ∧ t < m ∧ pgc q (lnP C 1) (C 2 1) t = r ∧ L 577 r = q t := fun r a1 a2 => by
    rw [h3] at a2
    obtain ⟨t, b1, b2, b3, b4⟩ := pg_at h1.1.1 ⟨a1, a2⟩
    exact ⟨t, b1, b2, b4, by rw [← b4]; exact h4 t b1 b2 b3⟩
  have hm : pgf q (lnP C 1) (C 2 1) m = C 2 1 - smI (fun r => lnP C 1 (L 577 r)) (pgc q (lnP C 1) (C 2 1) m) := by
    have h9 := pg_sum (L := L 577) h4 m.toNat (by have := h1.1.1; omega)
    rwa [Int.toNat_of_nonneg h1.1.1] at h9
  have hcb : 0 ≤ pgc q (lnP C 1) (C 2 1) m ∧ pgc q (lnP C 1) (C 2 1) m ≤ m := by
    have h9 := pgc_b q (lnP C 1) (C 2 1) m.toNat
    rw [Int.toNat_of_nonneg h1.1.1] at h9
    exact h9
  have hfb := pgf_b q (lnP C 1) (C 2 1) (by omega) m.toNat (fun j hj => hln j (by omega) (by have := h1.1.1; omega))
  refine ⟨?_, fun r a1 a2 => ?_, fun s r a0 a1 a2 => ?_, ⟨?_, ?_, ?_⟩, fun p a1 a2 a3 a4 a5 => ?_⟩
  · rw [h3]
    have := h1.1
    omega
  · obtain ⟨t, b1, b2, b3, b4⟩ := hat r a1 a2
    rw [b4]
    exact hq t b1 b2
  · obtain ⟨t, b1, b2, b3, b4⟩ := hat r (by omega) a2
    obtain ⟨x, c1, c2, c3, c4⟩ := hat s a0 (by omega)
    have hxt : x < t := by
      refine Int.not_le.mp fun hle => ?_
      have h9 := pgc_mono q (lnP C 1) (C 2 1) b1 (x - t).toNat
      rw [show t + ((x - t).toNat : Int) = x by omega] at h9
      omega
    have ho := h1.2.2.1 x t c1 hxt b2
    have d1 := hI.lf (hq t b1 b2).1
    have d2 := hI.lf (hq x c1 c2).1
    have f1 := (hq t b1 b2).2.1
    have f2 := (hq x c1 c2).2.1
    have g1 := d1.2.2.2.2.2.2.2.1 (by omega)
    have g2 := d2.2.2.2.2.2.2.2.1 (by omega)
    have k1 := d1.2.2.2.2.1
    have k2 := d2.2.2.2.2.1
    have hT := hI.1.2.1
    rw [b4, c4]
    unfold ahd dky at ho
    rw [show 4 * q t + 1 + 4 = 4 * q t + 5 by omega, show 4 * q x + 1 + 4 = 4 * q x + 5 by omega] at ho
    omega
  · rw [h2, hm, h3]
    congr 2
    funext r
    exact lnP_eq C _
  · rw [h2]
    unfold pgf
    exact hfb.1
  · rw [h2]
    unfold pgf
    exact hfb.2
  · have hp : C (4 * p + 1 + 4) 2 = 2 ∧ rdy C 1 p := ⟨by rw [show 4 * p + 1 + 4 = 4 * p + 5 by omega]; exact a3, (rd_iff C p).mpr a4⟩
    obtain ⟨t, b1, b2, b3⟩ := Rnk_has h1 ⟨a1, a2⟩ hp
    have hle := pgf_anti (e := q) (ln := lnP C 1) (f0 := C 2 1) b1 (fun _ _ => Or.inr trivial) (m - t).toNat (fun j c1 c2 => hln j (by omega) (by omega))
    rw [show t + ((m - t).toNat : Int) = m by omega, ← h2] at hle
    have hk : tkn q (lnP C 1) (C 2 1) t := by
      unfold tkn
      rw [b3, lnP_eq]
      omega
    have hlt := pg_lt ⟨b1, b2⟩ hk
    have h0 := (pgc_b q (lnP C 1) (C 2 1) t.toNat).1
    refine ⟨pgc q (lnP C 1) (C 2 1) t, h0, by rw [h3]; exact hlt, ?_⟩
    rw [h4 t b1 b2 hk, b3]
theorem orI_bit {a s k : Int} (ha : 0 ≤ a ∧ a < 64) (hs : 0 ≤ s ∧ s < 6) (hk : 0 ≤ k ∧ k < 6) : orI a (p2 s) / p2 k % 2 = if s = k then 1 else a / p2 k % 2 := by
  have h := co_all (P := fun a => (List.range 6).all (fun s => (List.range 6).all (fun k => decide (orI a (p2 (s : Int)) / p2 (k : Int) % 2 = if (s : Int) = (k : Int) then 1 else a / p2 (k : Int) % 2))) = true) 64 (by decide +kernel) ha
  have h1 := List.all_eq_true.mp h s.toNat (List.mem_range.mpr (by omega))
  have h2 := List.all_eq_true.mp h1 k.toNat (List.mem_range.mpr (by omega))
  have h3 := of_decide_eq_true h2
  rwa [Int.toNat_of_nonneg hs.1, Int.toNat_of_nonneg hk.1] at h3
theorem mk_bit {f : Int → Int} {n r k : Int} (hf : ∀ j, 0 ≤ j → j < n → 0 ≤ f j ∧ f j ≤ 5) (hr : 0 ≤ r ∧ r < n) (hk : f r = k) : mkI f n / p2 k % 2 = 1 := by
  have key : ∀ m : Nat, (m : Int) ≤ n → r < m → mkI f m / p2 k % 2 = 1 := by
    intro m
    induction m with
    | zero => intro _ h; omega
    | succ m ih =>
      intro hm hrm
      have hkb := hf r hr.1 hr.2
      have hfb := hf m (by omega) (by omega)
      rw [show ((m + 1 : Nat) : Int) = (m : Int) + 1 by omega, mkI_s _ (by omega), orI_bit (mkI_lt fun j a1 a2 => hf j a1 (by omega)) (by omega) (by omega)]
      by_cases hc : f m = k
      · rw [if_pos hc]
      · rw [if_neg hc]
        exact ih (by omega) (by
          rcases (show r < m ∨ r = m by omega) with g | g
          · exact g
          · rw [g] at hk; exact absurd hk hc)
  have := key n.toNat (by omega) (by omega)
  rwa [Int.toNat_of_nonneg (by omega)] at this
/-- the living: as many as are ranked; of two behind each other -/
theorem Uq_size {C L : gM} (h : Uq C L) : L 570 2 = ctS C 0 := by
  have h4 := h.2.2.2 (fun i => if C (4 * i + 1 + 4) 2 = 0 then 1 else 0) (fun x _ _ z => if_neg z)
  unfold ctS
  rw [h4]
  refine Eq.symm ((smI_congr (g := fun _ => 1) fun j a1 a2 => if_pos (h.2.1 j a1 a2).2.2).trans ?_)
  exact smI_lt (fun _ => 1) (L 570 2) (L 570 2) h.1.1 (Int.le_refl _) (fun _ _ _ => rfl) (fun s a1 a2 => by omega)
theorem urU_al {C : gM} {i : Int} (h : C (4 * i + 1 + 4) 2 = 0) : urgP C 1 i = urU C i := by
  unfold urgP urU
  rw [show 4 * i + 1 + 4 = 4 * i + 5 by omega] at *
  rw [if_pos h]
theorem Uq_two {C L L' : gM} {k : Int} (h : Uq C L) (h' : Uq C L') (hk : 1 ≤ k ∧ k < ctS C 0) : (0 ≤ ugv L (k - 1) ∧ ugv L (k - 1) < C 1 3) ∧ (0 ≤ ugv L' k ∧ ugv L' k < C 1 3) ∧ (urU C (ugv L' k) < urU C (ugv L (k - 1)) ∨ (urU C (ugv L (k - 1)) = urU C (ugv L' k) ∧ ugv L (k - 1) < ugv L' k)) := by
  have e := Uq_size h
  have e' := Uq_size h'
  have u1 : ugv L (k - 1) = L 571 (k - 1) := if_pos (by omega)
  have u2 : ugv L' k = L' 571 k := if_pos (by omega)
  have hsm := (Rnk_uniq (fun _ _ _ => Iff.rfl) (fun _ _ _ _ => rfl) h h').2 (k - 1) (by omega) (by omega)
  have a1 := h.2.1 (k - 1) (by omega) (by omega)
  have a2 := h'.2.1 k (by omega) (by omega)
  have ho := h'.2.2.1 (k - 1) k (by omega) (by omega) (by omega)
  rw [← hsm] at ho
  unfold ahd at ho
  rw [urU_al a1.2.2, urU_al a2.2.2] at ho
  rw [u1, u2]
  exact ⟨⟨a1.1, a1.2.1⟩, ⟨a2.1, a2.2.1⟩, ho⟩
/-! sums -/
theorem smI_add (f g : Int → Int) (n : Int) : smI (fun i => f i + g i) n = smI f n + smI g n := by
  have key : ∀ m : Nat, smI (fun i => f i + g i) m = smI f m + smI g m := by
    intro m
    induction m with
    | zero => rfl
    | succ m ih =>
      rw [show ((m + 1 : Nat) : Int) = (m : Int) + 1 by omega, smI_s _ (by omega), smI_s _ (by omega), smI_s _ (by omega), ih]
      omega
  by_cases h : 0 ≤ n
  · have := key n.toNat
    rwa [Int.toNat_of_nonneg h] at this
  · unfold smI
    rw [show n.toNat = 0 by omega]
    rfl
theorem smI_mul (c : Int) (f : Int → Int) (n : Int) : smI (fun i => c * f i) n = c * smI f n := by
  have key : ∀ m : Nat, smI (fun i => c * f i) m = c * smI f m := by
    intro m
    induction m with
    | zero => show (0 : Int) = c * 0; omega
    | succ m ih =>
      rw [show ((m + 1 : Nat) : Int) = (m : Int) + 1 by omega, smI_s _ (by omega), smI_s _ (by omega), ih, Int.mul_add]
  by_cases h : 0 ≤ n
  · have := key n.toNat
    rwa [Int.toNat_of_nonneg h] at this
  · unfold smI
    rw [show n.toNat = 0 by omega]
    show (0 : Int) = c * 0
    omega
def p5 (s : Int) : Int := if s = 0 then 1 else if s = 1 then 32 else if s = 2 then 1024 else 32768
theorem p5_at {s : Int} (h : 0 ≤ s ∧ s ≤ 3) : (iI 1) <<< ((iI (5 * s)) &&& 31) = iI (p5 s) := by
  rcases (show s = 0 ∨ s = 1 ∨ s = 2 ∨ s = 3 by omega) with rfl | rfl | rfl | rfl <;> decide
theorem p5_sum {C : gM} {N : Int} (hI : Iv C N) : smI (fun i => p5 (C (4 * i + 1 + 4) 2)) (C 1 3) = ctS C 0 + 32 * ctS C 1 + 1024 * ctS C 2 + 32768 * ctS C 3 := by
  unfold ctS
  rw [← smI_mul 32, ← smI_mul 1024, ← smI_mul 32768, ← smI_add, ← smI_add, ← smI_add]
  refine smI_congr fun j a1 a2 => ?_
  have h9 := bp_2 hI ⟨a1, a2⟩
  rw [show 4 * j + 5 = 4 * j + 1 + 4 by omega] at h9
  show p5 (C (4 * j + 1 + 4) 2) = (if C (4 * j + 1 + 4) 2 = 0 then 1 else 0) + 32 * (if C (4 * j + 1 + 4) 2 = 1 then 1 else 0) + 1024 * (if C (4 * j + 1 + 4) 2 = 2 then 1 else 0) + 32768 * (if C (4 * j + 1 + 4) 2 = 3 then 1 else 0)
  rcases (show C (4 * j + 1 + 4) 2 = 0 ∨ C (4 * j + 1 + 4) 2 = 1 ∨ C (4 * j + 1 + 4) 2 = 2 ∨ C (4 * j + 1 + 4) 2 = 3 by omega) with g | g | g | g <;> rw [g] <;> decide
theorem smI_6 (f : Int → Int) : smI f 6 = f 0 + f 1 + f 2 + f 3 + f 4 + f 5 := by
  show (((((0 + f 0) + f 1) + f 2) + f 3) + f 4) + f 5 = _
  omega
theorem one_of {x : Int} (h : 0 ≤ x ∧ x ≤ 5) : (if x = 0 then (1 : Int) else 0) + (if x = 1 then 1 else 0) + (if x = 2 then 1 else 0) + (if x = 3 then 1 else 0) + (if x = 4 then 1 else 0) + (if x = 5 then 1 else 0) = 1 := by
  rcases (show x = 0 ∨ x = 1 ∨ x = 2 ∨ x = 3 ∨ x = 4 ∨ x = 5 by omega) with rfl | rfl | rfl | rfl | rfl | rfl <;> decide
theorem sg_sum {C : gM} {N : Int} (hI : Iv C N) : smI (sgN C) 6 = fcN C := by
  rw [smI_6]
  unfold sgN fcN
  rw [← smI_add, ← smI_add, ← smI_add, ← smI_add, ← smI_add]
  refine smI_congr fun i a1 a2 => ?_
  have hl := hI.lf ⟨a1, a2⟩
  unfold LfOk at hl
  rw [show 4 * i + 5 = 4 * i + 1 + 4 by omega, show 4 * i + 1 + 4 + 1 = 4 * i + 1 + 5 by omega] at hl
  show smI _ _ + smI _ _ + smI _ _ + smI _ _ + smI _ _ + smI _ _ = C (4 * i + 1 + 4) 6
  rw [← smI_add, ← smI_add, ← smI_add, ← smI_add, ← smI_add]
  have h8 := hl.2.2.2.2.2.2.1
  refine (smI_congr (g := fun _ => 1) fun j b1 b2 => one_of (hl.2.2.2.2.2.2.2.2 j b1 b2).1).trans ?_
  exact smI_lt (fun _ => 1) _ _ h8.1 (Int.le_refl _) (fun _ _ _ => rfl) (fun s c1 c2 => by omega)
theorem shl_5 {c : Int} (h : 0 ≤ c ∧ c ≤ 20) : (iI c) <<< ((iI 5) &&& 31) = iI (32 * c) := by
  rw [iI_shl' h 5 (by decide) 5 (by decide), show c * ((2 ^ 5 : Nat) : Int) = 32 * c from Int.mul_comm _ _]
theorem shl_10 {c : Int} (h : 0 ≤ c ∧ c ≤ 20) : (iI c) <<< ((iI 10) &&& 31) = iI (1024 * c) := by
  rw [iI_shl' h 10 (by decide) 10 (by decide), show c * ((2 ^ 10 : Nat) : Int) = 1024 * c from Int.mul_comm _ _]
theorem shl_15 {c : Int} (h : 0 ≤ c ∧ c ≤ 20) : (iI c) <<< ((iI 15) &&& 31) = iI (32768 * c) := by
  rw [iI_shl' h 15 (by decide) 15 (by decide), show c * ((2 ^ 15 : Nat) : Int) = 32768 * c from Int.mul_comm _ _]
