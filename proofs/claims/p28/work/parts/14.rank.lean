/-! rankings: persons by a key, the greatest first, of several the lowest -/
def insM (C : gM) (r t n : Int) : gM := fun a => if a = r + 1 ∨ a = r + 2 then (fun j => if t < j ∧ j ≤ n then C a (j - 1) else C a j) else C a
theorem insM_in {C : gM} {r t n a j : Int} (h : a = r + 1 ∨ a = r + 2) : insM C r t n a j = if t < j ∧ j ≤ n then C a (j - 1) else C a j := by
  unfold insM
  rw [if_pos h]
theorem insM_out {C : gM} {r t n a : Int} (h : ¬ (a = r + 1 ∨ a = r + 2)) : insM C r t n a = C a := by
  unfold insM
  rw [if_neg h]
theorem insM_0 (C : gM) (r n : Int) : insM C r n n = C := by
  funext a j
  by_cases h : a = r + 1 ∨ a = r + 2
  · rw [insM_in h, if_neg (by omega)]
  · rw [insM_out h]
theorem insM_s (C : gM) (r t n : Int) (ht : t ≤ n) : up2 (up2 (insM C r t n) (r + 1) t (insM C r t n (r + 1) (t - 1))) (r + 2) t (insM C r t n (r + 2) (t - 1)) = insM C r (t - 1) n := by
  funext a j
  by_cases h1 : a = r + 1
  · subst h1
    rw [rd_k (by omega), rd_at, insM_in (Or.inl rfl), insM_in (Or.inl rfl), insM_in (Or.inl rfl)]
    by_cases hj : j = t
    · subst hj
      rw [if_pos rfl, if_neg (by omega), if_pos (by omega)]
    · rw [if_neg hj]
      exact ite_c (by omega)
  · by_cases h2 : a = r + 2
    · subst h2
      rw [rd_at, rd_k (by omega), insM_in (Or.inr rfl), insM_in (Or.inr rfl), insM_in (Or.inr rfl)]
      by_cases hj : j = t
      · subst hj
        rw [if_pos rfl, if_neg (by omega), if_pos (by omega)]
      · rw [if_neg hj]
        exact ite_c (by omega)
    · rw [rd_k h2, rd_k h1, insM_out (by omega), insM_out (by omega)]
/-- the memory behind an entry at the place t -/
def entM (C : gM) (r t n p k : Int) : gM := up2 (up2 (up2 (insM C r t n) (r + 1) t p) (r + 2) t k) r 2 (n + 1)
def insF (f : Int → Int) (t v : Int) : Int → Int := fun j => if j < t then f j else if j = t then v else f (j - 1)
theorem entM_0 {C : gM} {r t n p k : Int} : entM C r t n p k r 2 = n + 1 := by unfold entM; rw [rd_hit rfl rfl]
theorem entM_1 {C : gM} {r t n p k j : Int} (hj : j ≤ n) : entM C r t n p k (r + 1) j = insF (C (r + 1)) t p j := by
  unfold entM insF
  rw [rd_k (by omega), rd_k (by omega), rd_at, insM_in (Or.inl rfl)]
  by_cases h : j = t
  · rw [if_pos h, if_neg (by omega), if_pos h]
  · rw [if_neg h]
    by_cases h2 : j < t
    · rw [if_neg (by omega), if_pos h2]
    · rw [if_pos (by omega), if_neg h2, if_neg h]
theorem entM_2 {C : gM} {r t n p k j : Int} (hj : j ≤ n) : entM C r t n p k (r + 2) j = insF (C (r + 2)) t k j := by
  unfold entM insF
  rw [rd_k (by omega), rd_at, rd_k (by omega), insM_in (Or.inr rfl)]
  by_cases h : j = t
  · rw [if_pos h, if_neg (by omega), if_pos h]
  · rw [if_neg h]
    by_cases h2 : j < t
    · rw [if_neg (by omega), if_pos h2]
    · rw [if_pos (by omega), if_neg h2, if_neg h]
theorem entM_out {C : gM} {r t n p k a : Int} (h0 : a ≠ r) (h1 : a ≠ r + 1) (h2 : a ≠ r + 2) : entM C r t n p k a = C a := by
  unfold entM
  rw [up2_ne _ _ _ h0, up2_ne _ _ _ h2, up2_ne _ _ _ h1, insM_out (by omega)]
theorem smI_ins (f : Int → Int) (t v n : Int) (h : 0 ≤ t ∧ t ≤ n) : smI (insF f t v) (n + 1) = smI f n + v := by
  have key : ∀ m : Nat, smI (insF f t v) (t + m + 1) = smI f (t + m) + v := by
    intro m
    induction m with
    | zero =>
      rw [show t + ((0 : Nat) : Int) = t by omega, smI_s _ h.1]
      have e1 : smI (insF f t v) t = smI f t := smI_congr (fun j a1 a2 => by unfold insF; rw [if_pos a2])
      have e2 : insF f t v t = v := by unfold insF; rw [if_neg (by omega), if_pos rfl]
      rw [e1, e2]
    | succ m ih =>
      rw [show t + ((m + 1 : Nat) : Int) = t + (m : Int) + 1 by omega, smI_s _ (by omega), ih, smI_s _ (by omega)]
      have e : insF f t v (t + (m : Int) + 1) = f (t + (m : Int)) := by
        unfold insF
        rw [if_neg (by omega), if_neg (by omega), show t + (m : Int) + 1 - 1 = t + (m : Int) by omega]
      rw [e]
      omega
  have := key (n - t).toNat
  rwa [show t + ((n - t).toNat : Int) = n by omega] at this
def ahd (f : Int → Int) (a c : Int) : Prop := f c < f a ∨ (f a = f c ∧ a < c)
/-- the ranking at r holds those below i of the kind P, by the key f -/
def Rkd (C : gM) (r : Int) (P : Int → Prop) (f : Int → Int) (i : Int) : Prop := (0 ≤ C r 2 ∧ C r 2 ≤ i) ∧ (∀ t : Int, 0 ≤ t → t < C r 2 → 0 ≤ C (r + 1) t ∧ C (r + 1) t < i ∧ P (C (r + 1) t) ∧ C (r + 2) t = f (C (r + 1) t)) ∧ (∀ s t : Int, 0 ≤ s → s < t → t < C r 2 → ahd f (C (r + 1) s) (C (r + 1) t)) ∧ ∀ g : Int → Int, (∀ m : Int, 0 ≤ m → m < i → ¬ P m → g m = 0) → smI g i = smI (fun t => g (C (r + 1) t)) (C r 2)
theorem Rkd_0 {C : gM} {r : Int} (P : Int → Prop) (f : Int → Int) (h : C r 2 = 0) : Rkd C r P f 0 := by
  refine ⟨by omega, fun t a1 a2 => by omega, fun s t a1 a2 a3 => by omega, fun g _ => by rw [h]; rfl⟩
theorem Rkd_no {C : gM} {r i : Int} {P : Int → Prop} {f : Int → Int} (h : Rkd C r P f i) (hi : 0 ≤ i) (hp : ¬ P i) : Rkd C r P f (i + 1) := by
  obtain ⟨h1, h2, h3, h4⟩ := h
  refine ⟨by omega, fun t a1 a2 => ?_, h3, fun g hg => ?_⟩
  · have := h2 t a1 a2
    exact ⟨this.1, by omega, this.2.2⟩
  · rw [smI_s _ hi, hg i hi (by omega) hp, h4 g (fun m a1 a2 a3 => hg m a1 (by omega) a3)]
    omega
theorem Rkd_cong {C C' : gM} {r i : Int} {P : Int → Prop} {f : Int → Int} (h : Rkd C r P f i) (e : ∀ a, r ≤ a → a ≤ r + 2 → C' a = C a) : Rkd C' r P f i := by
  have e0 := e r (by omega) (by omega)
  have e1 := e (r + 1) (by omega) (by omega)
  have e2 := e (r + 2) (by omega) (by omega)
  unfold Rkd
  rw [e0, e1, e2]
  exact h
theorem Rkd_in {C : gM} {r i t : Int} {P : Int → Prop} {f : Int → Int} (h : Rkd C r P f i) (hi : 0 ≤ i) (hp : P i) (ht : 0 ≤ t ∧ t ≤ C r 2) (hlt : ∀ j, t ≤ j → j < C r 2 → C (r + 2) j < f i) (hge : t = 0 ∨ ¬ C (r + 2) (t - 1) < f i) : Rkd (entM C r t (C r 2) i (f i)) r P f (i + 1) := by
  obtain ⟨h1, h2, h3, h4⟩ := h
  have g0 : entM C r t (C r 2) i (f i) r 2 = C r 2 + 1 := entM_0
  have a1 : ∀ j, j ≤ C r 2 → entM C r t (C r 2) i (f i) (r + 1) j = insF (C (r + 1)) t i j := fun j hj => entM_1 hj
  have a2 : ∀ j, j ≤ C r 2 → entM C r t (C r 2) i (f i) (r + 2) j = insF (C (r + 2)) t (f i) j := fun j hj => entM_2 hj
  have lo : ∀ j, 0 ≤ j → j < t → f i ≤ f (C (r + 1) j) := by
    intro j b1 b2
    have c1 := h2 (t - 1) (by omega) (by omega)
    have c2 : f i ≤ f (C (r + 1) (t - 1)) := by rw [← c1.2.2.2]; omega
    rcases (show j = t - 1 ∨ j < t - 1 by omega) with b3 | b3
    · rw [b3]; exact c2
    · have c3 := h3 j (t - 1) b1 b3 (by omega)
      unfold ahd at c3
      omega
  have hi2 : ∀ j, t ≤ j → j < C r 2 → f (C (r + 1) j) < f i := by
    intro j b1 b2
    have c1 := h2 j (by omega) b2
    rw [← c1.2.2.2]
    exact hlt j b1 b2
  have hx : ∀ j, j < t → insF (C (r + 1)) t i j = C (r + 1) j := fun j hj => by unfold insF; rw [if_pos hj]
  have hy : insF (C (r + 1)) t i t = i := by unfold insF; rw [if_neg (by omega), if_pos rfl]
  have hz : ∀ j, t < j → insF (C (r + 1)) t i j = C (r + 1) (j - 1) := fun j hj => by unfold insF; rw [if_neg (by omega), if_neg (by omega)]
  unfold Rkd
  rw [g0]
  refine ⟨by omega, fun j b1 b2 => ?_, fun s j b1 b2 b3 => ?_, fun g hg => ?_⟩
  · rw [a1 j (by omega), a2 j (by omega)]
    rcases Int.lt_trichotomy j t with b3 | b3 | b3
    · rw [hx j b3]
      have c := h2 j b1 (by omega)
      refine ⟨c.1, by omega, c.2.2.1, ?_⟩
      unfold insF
      rw [if_pos b3]
      exact c.2.2.2
    · subst b3
      rw [hy]
      refine ⟨hi, by omega, hp, ?_⟩
      unfold insF
      rw [if_neg (by omega), if_pos rfl]
    · rw [hz j b3]
      have c := h2 (j - 1) (by omega) (by omega)
      refine ⟨c.1, by omega, c.2.2.1, ?_⟩
      unfold insF
      rw [if_neg (by omega), if_neg (by omega)]
      exact c.2.2.2
  · rw [a1 s (by omega), a1 j (by omega)]
    rcases Int.lt_trichotomy s t with b4 | b4 | b4
    · rw [hx s b4]
      rcases Int.lt_trichotomy j t with b5 | b5 | b5
      · rw [hx j b5]
        exact h3 s j b1 b2 (by omega)
      · subst b5
        rw [hy]
        have c1 := lo s b1 b4
        have c2 := h2 s b1 (by omega)
        unfold ahd
        omega
      · rw [hz j b5]
        exact h3 s (j - 1) b1 (by omega) (by omega)
    · subst b4
      rw [hy, hz j b2]
      have c1 := hi2 (j - 1) (by omega) (by omega)
      unfold ahd
      omega
    · rw [hz s b4, hz j (by omega)]
      exact h3 (s - 1) (j - 1) (by omega) (by omega) (by omega)
  · rw [smI_s _ hi, h4 g (fun m b1 b2 b3 => hg m b1 (by omega) b3)]
    have e : smI (fun j => g (entM C r t (C r 2) i (f i) (r + 1) j)) (C r 2 + 1) = smI (insF (fun j => g (C (r + 1) j)) t (g i)) (C r 2 + 1) := smI_congr (fun j b1 b2 => by
      rw [a1 j (by omega)]
      unfold insF
      split
      · rfl
      · split <;> rfl)
    rw [e, smI_ins _ _ _ _ ht]
def isRk (r : Int) : Prop := kd r = 12 ∧ kd (r + 1) = 13 ∧ kd (r + 2) = 13
theorem rk_570 : isRk 570 := ⟨by decide, by decide, by decide⟩
theorem rk_574 : isRk 574 := ⟨by decide, by decide, by decide⟩
/-- two memories that agree on a desk -/
def agD (C C' : gM) (o : Int) : Prop := ∀ a : Int, o ≤ a → a < o + 84 → C' a = C a
theorem LfOk_ag {C C' : gM} {q T : Int} (e : ∀ a, q ≤ a → a ≤ q + 3 → C' a = C a) (h : LfOk C q T) : LfOk C' q T := by
  unfold LfOk
  rw [e q (by omega) (by omega), e (q + 1) (by omega) (by omega), e (q + 2) (by omega) (by omega), e (q + 3) (by omega) (by omega)]
  exact h
theorem DkOk_ag {C C' : gM} {o N : Int} (e : agD C C' o) (h : DkOk C o N) : DkOk C' o N := by
  have h3 := h.1
  unfold DkOk
  rw [e o (by omega) (by omega), e (o + 1) (by omega) (by omega), e (o + 2) (by omega) (by omega)]
  obtain ⟨g1, g2, g3, g4, g5, g6, g7, g8, g9, g10, g11⟩ := h
  exact ⟨g1, g2, g3, g4, g5, g6, g7, g8, g9, g10, fun i a1 a2 => LfOk_ag (fun a b1 b2 => e a (by omega) (by omega)) (g11 i a1 a2)⟩
theorem staleN_ag {C C' : gM} {o q d : Int} (e : agD C C' o) (hq : o ≤ q ∧ q + 3 < o + 84) : staleN C' o q d = staleN C o q d := by
  unfold staleN fst
  rw [e (o + 1) (by omega) (by omega), e (o + 2) (by omega) (by omega), e q (by omega) (by omega), e (q + 1) (by omega) (by omega), e (q + 3) (by omega) (by omega)]
theorem urg_ag {C C' : gM} {o q : Int} (e : agD C C' o) (hq : o ≤ q ∧ q + 3 < o + 84) : urg C' o q = urg C o q := by
  unfold urg
  rw [staleN_ag e hq, e o (by omega) (by omega), e q (by omega) (by omega)]
