/-! bounds of what is read; lives joined; a page printed; facts checked -/
def PRok (p : PR) : Prop := (0 ≤ p.age ∧ p.age ≤ 110) ∧ (1 ≤ p.rank ∧ p.rank ≤ 9) ∧ (0 ≤ p.m ∧ p.m ≤ 8) ∧ fsB p.m p.s p.l
theorem psP_b (t : Int → Int) (n : Int) : ∀ (f : Nat) (a k : Int) (r : Int → PR), 0 ≤ k → (∀ j, 0 ≤ j → j < k → PRok (r j)) → ((psP t n f a k r).ok = 0 ∨ (psP t n f a k r).ok = 1) ∧ (k ≤ (psP t n f a k r).k ∧ (psP t n f a k r).k ≤ k + f) ∧ a ≤ (psP t n f a k r).a ∧ ((psP t n f a k r).a ≤ a ∨ (psP t n f a k r).a ≤ n) ∧ ∀ j, 0 ≤ j → j < (psP t n f a k r).k → PRok ((psP t n f a k r).r j) := by
  intro f
  induction f with
  | zero => intro a k r h0 h1; exact ⟨Or.inl rfl, ⟨Int.le_refl _, (show k ≤ k + ((0 : Nat) : Int) by omega)⟩, Int.le_refl _, Or.inl (Int.le_refl _), h1⟩
  | succ f ih =>
    intro a k r h0 h1
    have hp := pP_b t n a
    have hg := hT_b t n (pP t n a).a 59
    have hR : ¬ (pP t n a).ok = 0 → ∀ j, 0 ≤ j → j < k + 1 → PRok (if j = k then pP t n a else r j) := by
      intro ho j a1 a2
      by_cases hj : j = k
      · rw [if_pos hj]
        obtain ⟨-, b1, b2, b3, b4⟩ := hp.2.2.2 (by omega)
        exact ⟨b1, b2, b3, b4⟩
      · rw [if_neg hj]
        exact h1 j a1 (by omega)
    by_cases c0 : (pP t n a).ok = 0
    · rw [psP_bad c0]
      exact ⟨Or.inl rfl, ⟨Int.le_refl _, (show k ≤ k + ((f + 1 : Nat) : Int) by omega)⟩, hp.2.1, hp.2.2.1, h1⟩
    · by_cases c1 : hT t n (pP t n a).a 59 = 1
      · rw [psP_ok c0 c1]
        have := ih (hA t n (pP t n a).a 59) (k + 1) (fun i => if i = k then pP t n a else r i) (by omega) (hR c0)
        exact ⟨this.1, by omega, by omega, by omega, this.2.2.2.2⟩
      · rw [psP_end c0 (by omega)]
        refine ⟨?_, ⟨(show k ≤ k + 1 by omega), (show k + 1 ≤ k + ((f + 1 : Nat) : Int) by omega)⟩, (show a ≤ hA t n (pP t n a).a 59 by omega), (show hA t n (pP t n a).a 59 ≤ a ∨ hA t n (pP t n a).a 59 ≤ n by omega), hR c0⟩
        show (if hA t n (pP t n a).a 59 = n then (1 : Int) else 0) = 0 ∨ (if hA t n (pP t n a).a 59 = n then (1 : Int) else 0) = 1
        split
        · exact Or.inr rfl
        · exact Or.inl rfl
theorem txP_b (t : Int → Int) {n : Int} (hn : 0 ≤ n ∧ n ≤ 60) : ((txP t n).ok = 0 ∨ (txP t n).ok = 1) ∧ (0 ≤ (txP t n).k ∧ (txP t n).k ≤ 15) ∧ (0 ≤ (txP t n).a ∧ (txP t n).a ≤ 60) ∧ ∀ j, 0 ≤ j → j < (txP t n).k → PRok ((txP t n).r j) := by
  have := psP_b t n 15 0 0 (fun _ => zPR) (by omega) (fun j a1 a2 => by omega)
  unfold txP
  exact ⟨this.1, by omega, by omega, this.2.2.2.2⟩
/-- the first i lives that were read, joined -/
def jlM (D : gM) (i : Int) : gM := fun a => if a = 1 then up1 (D 1) 3 (D 1 3 + i) else if 4 * D 1 3 + 5 ≤ a ∧ a < 4 * D 1 3 + 5 + 4 * i then cpI (D (a - (4 * D 1 3 + 5) + 510)) (D a) (if (a - (4 * D 1 3 + 5)) % 4 = 0 then 7 else 8) else D a
theorem jlM_1 (D : gM) (i : Int) : jlM D i 1 = up1 (D 1) 3 (D 1 3 + i) := by unfold jlM; rw [if_pos rfl]
theorem jlM_out {D : gM} {i a : Int} (h : a ≠ 1) (h2 : a < 4 * D 1 3 + 5 ∨ 4 * D 1 3 + 5 + 4 * i ≤ a) : jlM D i a = D a := by unfold jlM; rw [if_neg h, if_neg (by omega)]
theorem jlM_in {D : gM} {i a : Int} (h0 : 0 ≤ D 1 3) (h2 : 4 * D 1 3 + 5 ≤ a ∧ a < 4 * D 1 3 + 5 + 4 * i) : jlM D i a = cpI (D (a - (4 * D 1 3 + 5) + 510)) (D a) (if (a - (4 * D 1 3 + 5)) % 4 = 0 then 7 else 8) := by unfold jlM; rw [if_neg (by omega), if_pos h2]
theorem jlM_0 (D : gM) : jlM D 0 = D := by
  funext a j
  by_cases h : a = 1
  · subst h
    rw [jlM_1]
    unfold up1
    by_cases hj : j = 3
    · rw [if_pos hj, hj, Int.add_zero]
    · rw [if_neg hj]
  · rw [jlM_out h (by omega)]
theorem bgn_out {M : gM} {q u t a : Int} (h : a ≠ q) : bgn M q u t a = M a := by
  unfold bgn
  rw [up2_ne _ _ _ h, up2_ne _ _ _ h, up2_ne _ _ _ h, up2_ne _ _ _ h, up2_ne _ _ _ h, up2_ne _ _ _ h, up2_ne _ _ _ h]
theorem bgn_cp {M : gM} {q u t : Int} (f : Int → Int) : cpI f (bgn M q u t q) 7 = cpI f (M q) 7 := by
  funext j
  unfold cpI
  by_cases hj : 0 ≤ j ∧ j < 7
  · rw [if_pos hj, if_pos hj]
  · rw [if_neg hj, if_neg hj]
    unfold bgn
    rw [rd_i (by omega), rd_i (by omega), rd_i (by omega), rd_i (by omega), rd_i (by omega), rd_i (by omega), rd_i (by omega)]
theorem jlM_s {D : gM} {i m u t : Int} (h0 : 0 ≤ D 1 3) (hi : 0 ≤ i ∧ i < 15) (hn : m = D 1 3 + i) (h20 : m < 20) : cpL (bgn (up2 (jlM D i) 1 3 (m + 1)) (4 * m + 5) u t) (4 * m + 5) (4 * i + 510) = jlM D (i + 1) := by
  have P : ∀ a, 510 ≤ a → bgn (up2 (jlM D i) 1 3 (m + 1)) (4 * m + 5) u t a = D a := fun a ha => by rw [bgn_out (by omega), up2_ne _ _ _ (by omega), jlM_out (by omega) (by omega)]
  have Q : ∀ a, 4 * m + 5 < a → a ≤ 4 * m + 8 → bgn (up2 (jlM D i) 1 3 (m + 1)) (4 * m + 5) u t a = D a := fun a ha hb => by rw [bgn_out (by omega), up2_ne _ _ _ (by omega), jlM_out (by omega) (by omega)]
  funext a
  unfold cpL
  by_cases g0 : a = 4 * m + 5
  · subst g0
    rw [if_pos rfl, bgn_cp, P _ (by omega), up2_ne _ _ _ (by omega), jlM_out (i := i) (by omega) (by omega), jlM_in h0 (by omega), if_pos (by omega), show 4 * m + 5 - (4 * D 1 3 + 5) + 510 = 4 * i + 510 by omega]
  · rw [if_neg g0]
    by_cases g1 : a = 4 * m + 5 + 1
    · subst g1
      rw [if_pos rfl, P _ (by omega), Q _ (by omega) (by omega), jlM_in h0 (by omega), if_neg (by omega), show 4 * m + 5 + 1 - (4 * D 1 3 + 5) + 510 = 4 * i + 510 + 1 by omega]
    · rw [if_neg g1]
      by_cases g2 : a = 4 * m + 5 + 2
      · subst g2
        rw [if_pos rfl, P _ (by omega), Q _ (by omega) (by omega), jlM_in h0 (by omega), if_neg (by omega), show 4 * m + 5 + 2 - (4 * D 1 3 + 5) + 510 = 4 * i + 510 + 2 by omega]
      · rw [if_neg g2]
        by_cases g3 : a = 4 * m + 5 + 3
        · subst g3
          rw [if_pos rfl, P _ (by omega), Q _ (by omega) (by omega), jlM_in h0 (by omega), if_neg (by omega), show 4 * m + 5 + 3 - (4 * D 1 3 + 5) + 510 = 4 * i + 510 + 3 by omega]
        · rw [if_neg g3, bgn_out g0]
          by_cases ga : a = 1
          · subst ga
            rw [up2_self, jlM_1, jlM_1]
            funext j
            unfold up1
            by_cases hj : j = 3
            · rw [if_pos hj, if_pos hj]; omega
            · rw [if_neg hj, if_neg hj, if_neg hj]
          · rw [up2_ne _ _ _ ga]
            by_cases hb : 4 * D 1 3 + 5 ≤ a ∧ a < 4 * D 1 3 + 5 + 4 * i
            · rw [jlM_in h0 hb, jlM_in h0 (by omega)]
            · rw [jlM_out ga (by omega), jlM_out ga (by omega)]
theorem DkOk_mod {C C' : gM} {N : Int} (h : DkOk C 1 N) (h3 : C' 1 3 = C 1 3) (h4 : C' 1 4 = C 1 4) (h5 : 0 ≤ C' 1 5 ∧ C' 1 5 ≤ 24) (h6 : C' 1 6 = C 1 6) (e2 : C' 2 = C 2) (e3 : C' 3 = C 3) (hl : ∀ i : Int, 0 ≤ i → i < C 1 3 → LfOk C (4 * i + 1 + 4) (C 1 4) → LfOk C' (4 * i + 1 + 4) (C 1 4)) : DkOk C' 1 N := by
  obtain ⟨g1, g2, g3, g4, g5, g6, g7, g8, g9, g10, g11⟩ := h
  unfold DkOk
  rw [h3, h4, h6]
  rw [show (1 : Int) + 1 = 2 from rfl] at *
  rw [show (1 : Int) + 2 = 3 from rfl] at *
  rw [e2, e3]
  exact ⟨g1, g2, h5, g4, g5, g6, g7, g8, g9, g10, fun i a1 a2 => hl i a1 a2 (g11 i a1 a2)⟩
theorem LfOk_days {C C' : gM} {q T : Int} (h : LfOk C q T) (e0 : C' q = C q) (e1 : C' (q + 1) = C (q + 1)) (e2 : C' (q + 2) = C (q + 2)) (e3 : ∀ j, C' (q + 3) j = C (q + 3) j ∨ C' (q + 3) j = T) (hT : 0 ≤ T) : LfOk C' q T := by
  obtain ⟨g1, g2, g3, g4, g5, g6, g7, g8, g9⟩ := h
  unfold LfOk
  rw [e0, e1, e2]
  refine ⟨g1, g2, g3, g4, g5, g6, g7, g8, fun j a1 a2 => ?_⟩
  have := g9 j a1 a2
  rcases e3 j with h | h
  · rw [h]; exact this
  · rw [h]; exact ⟨this.1, this.2.1, by omega⟩
/-- a fact checked -/
def chk (M : gM) (k f : Int) : gM := up2 (up2 M (4 * k + 8) f (M 1 4)) 1 5 (M 1 5 - 1)
theorem DkOk_chk {M : gM} {N k f : Int} (h : DkOk M 1 N) (hk : 0 ≤ k) (h5 : 1 ≤ M 1 5) : DkOk (chk M k f) 1 N := by
  have g := h.2.2.1
  have gT := h.2.1
  unfold chk
  refine DkOk_mod h ?_ ?_ ?_ ?_ ?_ ?_ (fun i a1 a2 hl => LfOk_days hl ?_ ?_ ?_ (fun j => ?_) gT.1)
  · rw [rd_i (by omega), rd_k (by omega)]
  · rw [rd_i (by omega), rd_k (by omega)]
  · rw [rd_hit rfl rfl]; omega
  · rw [rd_i (by omega), rd_k (by omega)]
  · rw [up2_ne _ _ _ (by omega), up2_ne _ _ _ (by omega)]
  · rw [up2_ne _ _ _ (by omega), up2_ne _ _ _ (by omega)]
  · rw [up2_ne _ _ _ (by omega), up2_ne _ _ _ (by omega)]
  · rw [up2_ne _ _ _ (by omega), up2_ne _ _ _ (by omega)]
  · rw [up2_ne _ _ _ (by omega), up2_ne _ _ _ (by omega)]
  · rw [rd_k (by omega)]
    by_cases hi : 4 * i + 1 + 4 + 3 = 4 * k + 8
    · by_cases hj : j = f
      · rw [rd_hit hi hj]; exact Or.inr rfl
      · rw [rd_i hj]; exact Or.inl rfl
    · rw [rd_k hi]; exact Or.inl rfl
def CkDone (M : gM) : Prop := M 1 5 < 1 ∨ isBest (due M 1) (urgP M 1) (M 1 3) (-5)
def CkS (M M' : gM) : Prop := ∃ k f : Int, 0 ≤ k ∧ 1 ≤ M 1 5 ∧ isBest (due M 1) (urgP M 1) (M 1 3) k ∧ 0 ≤ f ∧ isFirst (toChk M 1 (4 * k + 5)) (M (4 * k + 5) 6) f ∧ M' = chk M k f
def CkN : Nat → gM → gM → Prop
  | 0, M, M' => M' = M
  | n + 1, M, M' => ∃ M1, CkN n M M1 ∧ CkS M1 M'
theorem CkN_s {i : Int} {M M1 M' : gM} (hi : 0 ≤ i) (h : CkN i.toNat M M1) (h2 : CkS M1 M') : CkN (i + 1).toNat M M' := by
  rw [show (i + 1).toNat = i.toNat + 1 by omega]
  exact ⟨M1, h, h2⟩
theorem isBest_P {P : Int → Prop} {f : Int → Int} {n v : Int} (h : isBest P f n v) (hv : 0 ≤ v) : P v := by
  rcases h with ⟨h1, h2⟩ | ⟨h1, h2, h3, h4⟩
  · omega
  · exact h3
/-- those of the page, printed -/
def mkPn (M : gM) : Nat → gM
  | 0 => M
  | k + 1 => up2 (up2 (mkPn M k) (4 * M 577 k + 5) 2 3) (4 * M 577 k + 5) 5 (M 1 4)
def mkP (M : gM) (i : Int) : gM := mkPn M i.toNat
theorem mkP_0 (M : gM) : mkP M 0 = M := rfl
theorem mkP_s {M : gM} {i : Int} (h : 0 ≤ i) : up2 (up2 (mkP M i) (4 * M 577 i + 5) 2 3) (4 * M 577 i + 5) 5 (M 1 4) = mkP M (i + 1) := by
  unfold mkP
  rw [show (i + 1).toNat = i.toNat + 1 by omega]
  show _ = up2 (up2 (mkPn M i.toNat) (4 * M 577 (i.toNat : Int) + 5) 2 3) (4 * M 577 (i.toNat : Int) + 5) 5 (M 1 4)
  rw [Int.toNat_of_nonneg h]
theorem mkP_out {M : gM} {i a : Int} (h0 : 0 ≤ i) (h : ∀ s : Int, 0 ≤ s → s < i → a ≠ 4 * M 577 s + 5) : mkP M i a = M a := by
  have key : ∀ k : Nat, (k : Int) ≤ i → mkP M k a = M a := by
    intro k
    induction k with
    | zero => intro _; exact congrFun (mkP_0 M) a
    | succ k ih =>
      intro hk
      rw [show ((k + 1 : Nat) : Int) = (k : Int) + 1 by omega, ← mkP_s (by omega), up2_ne _ _ _ (h k (by omega) (by omega)), up2_ne _ _ _ (h k (by omega) (by omega))]
      exact ih (by omega)
  have := key i.toNat (by omega)
  rwa [Int.toNat_of_nonneg h0] at this
theorem mkP_j {M : gM} {i a j : Int} (h0 : 0 ≤ i) (h : j ≠ 2 ∧ j ≠ 5) : mkP M i a j = M a j := by
  have key : ∀ k : Nat, mkP M k a j = M a j := by
    intro k
    induction k with
    | zero => exact congrFun (congrFun (mkP_0 M) a) j
    | succ k ih =>
      rw [show ((k + 1 : Nat) : Int) = (k : Int) + 1 by omega, ← mkP_s (by omega), rd_i (by omega), rd_i (by omega)]
      exact ih
  have := key i.toNat
  rwa [Int.toNat_of_nonneg h0] at this
theorem mkP_in {M : gM} {i a : Int} (h0 : 0 ≤ i) (h : ∃ s : Int, 0 ≤ s ∧ s < i ∧ a = 4 * M 577 s + 5) : mkP M i a 2 = 3 ∧ mkP M i a 5 = M 1 4 := by
  obtain ⟨s, s0, s1, s2⟩ := h
  have key : ∀ k : Nat, s < (k : Int) → mkP M k a 2 = 3 ∧ mkP M k a 5 = M 1 4 := by
    intro k
    induction k with
    | zero => intro h; omega
    | succ k ih =>
      intro hk
      rw [show ((k + 1 : Nat) : Int) = (k : Int) + 1 by omega, ← mkP_s (by omega)]
      by_cases ha : a = 4 * M 577 (k : Int) + 5
      · rw [rd_i (by omega), rd_hit ha rfl, rd_hit ha rfl]
        exact ⟨rfl, rfl⟩
      · have hs : s ≠ (k : Int) := fun z => ha (by rw [← z]; exact s2)
        rw [rd_k ha, rd_k ha, rd_k ha, rd_k ha]
        exact ih (by omega)
  have := key i.toNat (by omega)
  rwa [Int.toNat_of_nonneg h0] at this
theorem DkOk_mk {M : gM} {N i : Int} (h : DkOk M 1 N) (h0 : 0 ≤ i) (hp : ∀ s : Int, 0 ≤ s → s < i → (0 ≤ M 577 s ∧ M 577 s < M 1 3) ∧ 0 ≤ M (4 * M 577 s + 5) 4) : DkOk (mkP M i) 1 N := by
  have O : ∀ a, (a < 5 ∨ (a - 5) % 4 ≠ 0) → mkP M i a = M a := fun a ha => mkP_out h0 (fun s s0 s1 => by have := (hp s s0 s1).1; omega)
  have gT := h.2.1
  have g5 := h.2.2.1
  refine DkOk_mod h ?_ ?_ ?_ ?_ (O 2 (by omega)) (O 3 (by omega)) (fun j a1 a2 hl => ?_)
  · rw [O 1 (by omega)]
  · rw [O 1 (by omega)]
  · rw [O 1 (by omega)]; exact g5
  · rw [O 1 (by omega)]
  · by_cases hz : ∃ s : Int, 0 ≤ s ∧ s < i ∧ 4 * j + 1 + 4 = 4 * M 577 s + 5
    · have hv := mkP_in h0 hz
      obtain ⟨s, s0, s1, s2⟩ := hz
      have hd := (hp s s0 s1).2
      rw [← s2] at hd
      obtain ⟨b1, b2, b3, b4, b5, b6, b7, b8, b9⟩ := hl
      unfold LfOk
      rw [O (4 * j + 1 + 4 + 1) (by omega), O (4 * j + 1 + 4 + 2) (by omega), O (4 * j + 1 + 4 + 3) (by omega), mkP_j h0 (j := 0) (by omega), mkP_j h0 (j := 1) (by omega), mkP_j h0 (j := 3) (by omega), mkP_j h0 (j := 4) (by omega), mkP_j h0 (j := 6) (by omega), hv.1, hv.2]
      exact ⟨b1, b2, by omega, b4, b5, by omega, b7, fun _ => hd, b9⟩
    · have e : mkP M i (4 * j + 1 + 4) = M (4 * j + 1 + 4) := mkP_out h0 (fun s s0 s1 z => hz ⟨s, s0, s1, z⟩)
      exact LfOk_ag (fun a c1 c2 => by
        rcases (show a = 4 * j + 1 + 4 ∨ a = 4 * j + 1 + 4 + 1 ∨ a = 4 * j + 1 + 4 + 2 ∨ a = 4 * j + 1 + 4 + 3 by omega) with g | g | g | g
        · rw [g]; exact e
        · rw [g]; exact O _ (by omega)
        · rw [g]; exact O _ (by omega)
        · rw [g]; exact O _ (by omega)) hl
theorem Laid_dead {C L : gM} (h : Laid C L 1) : ∀ r : Int, 0 ≤ r → r < L 573 2 → (0 ≤ L 577 r ∧ L 577 r < C 1 3) ∧ C (4 * L 577 r + 5) 2 = 2 := by
  intro r a1 a2
  obtain ⟨q, m, h1, h2, h3, h4, h5, h6, h7, h8⟩ := h
  rw [h3] at a2
  obtain ⟨s, b1, b2, b3, b4⟩ := pg_at (h1.1.1) ⟨a1, a2⟩
  have e := h4 s b1 b2 b3
  rw [b4] at e
  have g := h1.2.1 s b1 b2
  rw [e]
  refine ⟨⟨g.1, g.2.1⟩, ?_⟩
  have := g.2.2.1
  rwa [show 4 * q s + 1 + 4 = 4 * q s + 5 by omega] at this
def prtM (M : gM) : gM := up2 (up2 (tbk M 1 (M 1 3)) 1 4 (tbk M 1 (M 1 3) 1 4 + 1)) 1 5 (tbk M 1 (M 1 3) (1 + 1) 0)
set_option maxHeartbeats 4000000 in
theorem tX6_addPersons (l : Launch) (G : gG) (b : Nat) (C S : gM) (t : Int → Int) (n a N : Int) (hD : DkOk C 1 N) (hN : N ≤ 512) (hhf : 0 ≤ C 169 1 ∧ C 169 1 < 4) (hhs : 0 ≤ C 169 2 ∧ C 169 2 ≤ 4) (htx : TxS C t n a) (hb : TxB t n) (ha0 : 0 ≤ a ∧ a ≤ 60) : Ct l G b yX6_addPersons cX6_addPersons 3 (some .int) rmX6_addPersons [.ref (ad b (0))] 586 (wM G b C S) (WI G b S (fun v C' => ((txP t n).ok = 0 ∧ v = -100 - (txP t n).a ∧ RdP C C' t n (C 1 4) 0) ∨ ((txP t n).ok = 1 ∧ 20 - C 1 3 < (txP t n).k ∧ v = -3 ∧ RdP C C' t n (C 1 4) 1) ∨ ((txP t n).ok = 1 ∧ (txP t n).k ≤ 20 - C 1 3 ∧ v = (txP t n).k ∧ ∃ M, RdP C M t n (C 1 4) 1 ∧ C' = jlM (remC M) (txP t n).k))) := by
  refine CtK_of (by decide) (Nat.le_of_ble_eq_true rfl) q277 ?_
  intro x hl hB hE _
  subst hl
  show YM x G b 0 0 C S 0 [(0, .ref (ad b (0)))] []
  obtain ⟨hd3, hd4, hd5, hd6, hs0, hs1, hs2, hs3, hs4, htr, hlv⟩ := id hD
  refine y_aload_n hB 0 dX6_addPersons_0 rfl rfl ?_
  refine gt_6_4 hB (by decide) (t1 := 507) (by omega) dX6_addPersons_1 ?_
  refine y_aload_n hB 0 dX6_addPersons_4 rfl rfl ?_
  refine gt_6_0 hB (by decide) (t1 := 1) (by omega) dX6_addPersons_5 ?_
  refine m_V hB msX0_today q278 (tX0_today _ G b C S 1 (desk_1).1) (t := 1) (desk_1).1 (by decide) rfl rfl rfl rfl rfl ⟨Nat.le_of_ble_eq_true rfl, Nat.le_of_ble_eq_true rfl⟩ (Nat.le_of_ble_eq_true rfl) ⟨rfl, rfl⟩ ⟨Nat.le_of_ble_eq_true rfl, Nat.le_of_ble_eq_true rfl⟩ dX6_addPersons_8 (k_RI (fun v_8 h_8 => ?_))
  rw [h_8]
  refine m_V hB msX4_readPersons q282 (tX4_readPersons _ G b C S t n a (C 1 4) htx hb ha0) (t := 9) (by decide) (by decide) rfl rfl rfl rfl rfl ⟨Nat.le_of_ble_eq_true rfl, Nat.le_of_ble_eq_true rfl⟩ (Nat.le_of_ble_eq_true rfl) ⟨rfl, rfl⟩ ⟨Nat.le_of_ble_eq_true rfl, Nat.le_of_ble_eq_true rfl⟩ dX6_addPersons_11 (k_WI (fun v_11 C_11 h_11 => ?_))
  have g4 := h_11.2.2.2
  have eD : C_11 1 = C 1 := g4 1 (by omega)
  have eH : C_11 169 = C 169 := g4 169 (by omega)
  have e13 : C_11 1 3 = C 1 3 := by rw [eD]
  have hv_11 := h_11.1
  have ha_11 := h_11.2.1.2.2
  have hb_11 := txP_b t hb.1
  refine y_if_ne hB 28 dX6_addPersons_14 (by decide) (by omega) (fun c_14 => ?_) (fun c_14 => ?_)
  · have hok : (txP t n).ok = 1 := by omega
    have hR1 : RdP C C_11 t n (C 1 4) 1 := by have h9 := h_11; rwa [show v_11 = 1 by omega] at h9
    refine y_aload_n hB 0 dX6_addPersons_28 rfl rfl ?_
    refine gt_6_4 hB (by decide) (t1 := 507) (by omega) dX6_addPersons_29 ?_
    refine m_V hB msX4_personsRead q323 (tX4_personsRead _ G b C_11 S) (t := 9) (by decide) (by decide) rfl rfl rfl rfl rfl ⟨Nat.le_of_ble_eq_true rfl, Nat.le_of_ble_eq_true rfl⟩ (Nat.le_of_ble_eq_true rfl) ⟨rfl, rfl⟩ ⟨Nat.le_of_ble_eq_true rfl, Nat.le_of_ble_eq_true rfl⟩ dX6_addPersons_32 (k_RI (fun v_32 h_32 => ?_))
    have h3_32 := (h_11.2.2.1 (by omega)).1
    refine y_istore_n (lv' := [(1, .int (iI (v_32))), (0, .ref (ad b (0)))]) hB dX6_addPersons_35 rfl (by decide) rfl ?_
    refine y_iload_n hB 0 dX6_addPersons_36 rfl rfl ?_
    refine y_aload_n hB 1 dX6_addPersons_37 rfl rfl ?_
    refine gt_6_0 hB (by decide) (t1 := 1) (by omega) dX6_addPersons_38 ?_
    refine m_V hB msX0_roomForPersons q233 (tX0_roomForPersons _ G b C_11 S 1 (desk_1).1) (t := 1) (desk_1).1 (by decide) rfl rfl rfl rfl rfl ⟨Nat.le_of_ble_eq_true rfl, Nat.le_of_ble_eq_true rfl⟩ (Nat.le_of_ble_eq_true rfl) ⟨rfl, rfl⟩ ⟨Nat.le_of_ble_eq_true rfl, Nat.le_of_ble_eq_true rfl⟩ dX6_addPersons_41 (k_RI (fun v_41 h_41 => ?_))
    refine y_icmp_le hB 50 dX6_addPersons_44 (by decide) (by omega) (by omega) (fun c_44 => ?_) (fun c_44 => ?_)
    · refine y_aload_n hB 1 dX6_addPersons_50 rfl rfl ?_
      refine gt_6_3 hB (by decide) (t1 := 169) (by omega) dX6_addPersons_51 ?_
      refine y_aload_n hB 1 dX6_addPersons_54 rfl rfl ?_
      refine gt_6_0 hB (by decide) (t1 := 1) (by omega) dX6_addPersons_55 ?_
      have hhf : 0 ≤ C_11 169 1 ∧ C_11 169 1 < 4 := by rw [eH]; exact hhf
      have hhs : 0 ≤ C_11 169 2 ∧ C_11 169 2 ≤ 4 := by rw [eH]; exact hhs
      have hd3 : 0 ≤ C_11 1 3 ∧ C_11 1 3 ≤ 20 := by rw [eD]; exact hd3
      have hD : DkOk C_11 1 N := DkOk_ag (fun a a1 a2 => g4 a (by omega)) hD
      refine m_V hB msX1_remember q237 (tX1_remember _ G b C_11 S hhf hhs hd3) (t := 7) (by decide) (by decide) rfl rfl rfl rfl rfl ⟨Nat.le_of_ble_eq_true rfl, Nat.le_of_ble_eq_true rfl⟩ (Nat.le_of_ble_eq_true rfl) ⟨rfl, rfl⟩ ⟨Nat.le_of_ble_eq_true rfl, Nat.le_of_ble_eq_true rfl⟩ dX6_addPersons_58 (k_WV (fun C_58 h_58 => ?_))
      obtain rfl := h_58
      have eR : (remC C_11) 1 3 = C 1 3 := by rw [remC_out (by omega) hd3, eD]
      have eT : (remC C_11) 507 3 = (txP t n).k := by rw [remC_out (by omega) hd3, h3_32]
      refine y_iconst (v := 0) hB dX6_addPersons_61 rfl ?_
      refine y_istore_n (lv' := [(2, .int (iI (0))), (1, .int (iI (v_32))), (0, .ref (ad b (0)))]) hB dX6_addPersons_62 rfl (by decide) rfl ?_
      have LOOP_63 : ∀ (fu : Nat) (i : Int), (0 ≤ i ∧ i ≤ v_32) → v_32 - i < (fu : Int) → YM x G b 0 0 (jlM (remC C_11) i) S 63 [(0, .ref (ad b (0))), (1, .int (iI (v_32))), (2, .int (iI (i)))] [] := by
        intro fu
        induction fu with
        | zero => intro i hi hm_63; exfalso; omega
        | succ fu ih_63 =>
          intro i hi hm_63
          obtain ⟨n1, hn1⟩ : ∃ n1, jlM (remC C_11) i 1 3 = n1 := ⟨_, rfl⟩
          have hn2 : n1 = (remC C_11) 1 3 + i := by rw [← hn1, jlM_1]; exact if_pos rfl
          have ej : jlM (remC C_11) i 507 3 = (txP t n).k := by rw [jlM_out (by omega) (by omega)]; exact eT
          refine y_iload_n hB 2 dX6_addPersons_63 rfl rfl ?_
          refine y_iload_n hB 1 dX6_addPersons_64 rfl rfl ?_
          refine y_icmp_ge hB 89 dX6_addPersons_65 (by decide) (by omega) (by omega) (fun c_65 => ?_) (fun c_65 => ?_)
          · refine y_iload_n hB 1 dX6_addPersons_89 rfl rfl ?_
            exact m_wi hB hE dX6_addPersons_90 rfl (Or.inr (Or.inr ⟨hok, by omega, by omega, C_11, hR1, by rw [show i = v_32 by omega, show v_32 = (txP t n).k by omega]⟩))
          · refine y_aload_n hB 0 dX6_addPersons_68 rfl rfl ?_
            refine gt_6_0 hB (by decide) (t1 := 1) (by omega) dX6_addPersons_69 ?_
            refine y_aload_n hB 0 dX6_addPersons_72 rfl rfl ?_
            refine gt_6_4 hB (by decide) (t1 := 507) (by omega) dX6_addPersons_73 ?_
            refine y_iload_n hB 2 dX6_addPersons_76 rfl rfl ?_
            have hq_77 : isLife (4 * i + 510) := (by have h9 := life_t (i := i) (by omega); rwa [show (509 : Int) + 1 + 4 * (i) = 4 * i + 510 by omega] at h9)
            refine m_V hB msX4_readLife q327 (tX4_readLife _ G b (jlM (remC C_11) i) S i (4 * i + 510) (by omega) (by omega)) (t := 9) (by decide) (by decide) rfl rfl rfl rfl rfl ⟨Nat.le_of_ble_eq_true rfl, Nat.le_of_ble_eq_true rfl⟩ (Nat.le_of_ble_eq_true rfl) ⟨rfl, rfl⟩ ⟨Nat.le_of_ble_eq_true rfl, Nat.le_of_ble_eq_true rfl⟩ dX6_addPersons_77 (k_RR ?_)
            refine m_V hB msX0_joinLike q328 (tX0_joinLike _ G b (jlM (remC C_11) i) S 1 (4 * i + 510) n1 (4 * n1 + 5) desk_1 hq_77 (by omega) hn1 (by omega) (by omega)) (t := 1) (desk_1).1 (by decide) rfl rfl rfl rfl rfl ⟨Nat.le_of_ble_eq_true rfl, Nat.le_of_ble_eq_true rfl⟩ (Nat.le_of_ble_eq_true rfl) ⟨rfl, rfl⟩ ⟨Nat.le_of_ble_eq_true rfl, Nat.le_of_ble_eq_true rfl⟩ dX6_addPersons_80 (k_WV (fun C_80 h_80 => ?_))
            refine y_iinc (v := i + 1) (lv' := [(2, .int (iI (i + 1))), (0, .ref (ad b (0))), (1, .int (iI (v_32)))]) hB 2 dX6_addPersons_83 rfl (by omega) (by decide) rfl ?_
            refine y_goto hB 63 dX6_addPersons_86 (by decide) ?_
            refine y_sub (lv' := [(0, .ref (ad b (0))), (1, .int (iI (v_32))), (2, .int (iI (i + 1)))]) [1, 2, 0] rfl ?_
            rw [h_80, jlM_s (by omega) (by omega) hn2 (by omega)]
            exact ih_63 (i + 1) (by omega) (by omega)
      refine y_sub (lv' := [(0, .ref (ad b (0))), (1, .int (iI (v_32))), (2, .int (iI (0)))]) [2, 1, 0] rfl ?_
      rw [← jlM_0 (remC C_11)]
      exact LOOP_63 ((v_32).toNat + 1) 0 (by omega) (by omega)
    · refine y_bipush (v := -3) hB dX6_addPersons_47 (by decide) ?_
      exact m_wi hB hE dX6_addPersons_49 rfl (Or.inr (Or.inl ⟨hok, by omega, rfl, hR1⟩))
  · refine y_bipush (v := -100) hB dX6_addPersons_17 (by decide) ?_
    refine y_aload_n hB 0 dX6_addPersons_19 rfl rfl ?_
    refine gt_6_4 hB (by decide) (t1 := 507) (by omega) dX6_addPersons_20 ?_
    refine m_V hB msX4_fault q319 (tX4_fault _ G b C_11 S) (t := 9) (by decide) (by decide) rfl rfl rfl rfl rfl ⟨Nat.le_of_ble_eq_true rfl, Nat.le_of_ble_eq_true rfl⟩ (Nat.le_of_ble_eq_true rfl) ⟨rfl, rfl⟩ ⟨Nat.le_of_ble_eq_true rfl, Nat.le_of_ble_eq_true rfl⟩ dX6_addPersons_23 (k_RI (fun v_23 h_23 => ?_))
    refine y_isub (t := -v_23 - 100) hB dX6_addPersons_26 (by omega) ?_
    exact m_wi hB hE dX6_addPersons_27 rfl (Or.inl ⟨by omega, by omega, by have h9 := h_11; rwa [show v_11 = 0 by omega] at h9⟩)
set_option maxHeartbeats 4000000 in
theorem tX6_print (l : Launch) (G : gG) (b : Nat) (C S : gM) (N : Int) (hD : DkOk C 1 N) (hN : N ≤ 512) (hhf : 0 ≤ C 169 1 ∧ C 169 1 < 4) (hhs : 0 ≤ C 169 2 ∧ C 169 2 ≤ 4) : Ct l G b yX6_print cX6_print 3 (some .int) rmX6_print [.ref (ad b (0))] 586 (wM G b C S) (WI G b S (fun v C' => ∃ L, Laid (remC C) L 1 ∧ v = L 573 2 ∧ C' = prtM (mkP L (L 573 2)))) := by
  refine CtK_of (by decide) (Nat.le_of_ble_eq_true rfl) q501 ?_
  intro x hl hB hE _
  subst hl
  show YM x G b 0 0 C S 0 [(0, .ref (ad b (0)))] []
  obtain ⟨hd3, hd4, hd5, hd6, hs0, hs1, hs2, hs3, hs4, htr, hlv⟩ := id hD
  refine y_aload_n hB 0 dX6_print_0 rfl rfl ?_
  refine gt_6_0 hB (by decide) (t1 := 1) (by omega) dX6_print_1 ?_
  refine m_V hB msX0_today q278 (tX0_today _ G b C S 1 (desk_1).1) (t := 1) (desk_1).1 (by decide) rfl rfl rfl rfl rfl ⟨Nat.le_of_ble_eq_true rfl, Nat.le_of_ble_eq_true rfl⟩ (Nat.le_of_ble_eq_true rfl) ⟨rfl, rfl⟩ ⟨Nat.le_of_ble_eq_true rfl, Nat.le_of_ble_eq_true rfl⟩ dX6_print_4 (k_RI (fun v_4 h_4 => ?_))
  refine y_sipush (v := 9999) hB dX6_print_7 (by decide) ?_
  refine y_icmp_lt hB 16 dX6_print_10 (by decide) (by omega) (by omega) (fun c_10 => ?_) (fun c_10 => ?_)
  · refine y_aload_n hB 0 dX6_print_16 rfl rfl ?_
    refine gt_6_3 hB (by decide) (t1 := 169) (by omega) dX6_print_17 ?_
    refine y_aload_n hB 0 dX6_print_20 rfl rfl ?_
    refine gt_6_0 hB (by decide) (t1 := 1) (by omega) dX6_print_21 ?_
    refine m_V hB msX1_remember q237 (tX1_remember _ G b C S hhf hhs hd3) (t := 7) (by decide) (by decide) rfl rfl rfl rfl rfl ⟨Nat.le_of_ble_eq_true rfl, Nat.le_of_ble_eq_true rfl⟩ (Nat.le_of_ble_eq_true rfl) ⟨rfl, rfl⟩ ⟨Nat.le_of_ble_eq_true rfl, Nat.le_of_ble_eq_true rfl⟩ dX6_print_24 (k_WV (fun C_24 h_24 => ?_))
    obtain rfl := h_24
    have agR := remC_ag hd3
    have hDR := DkOk_ag agR hD
    have er := agR 1 (by omega) (by omega)
    have e3 : (remC C) 1 3 = C 1 3 := by rw [er]
    have e4 : (remC C) 1 4 = C 1 4 := by rw [er]
    have e5 : (remC C) 1 5 = C 1 5 := by rw [er]
    have e6 : (remC C) 1 6 = C 1 6 := by rw [er]
    refine y_aload_n hB 0 dX6_print_27 rfl rfl ?_
    refine gt_6_6 hB (by decide) (t1 := 573) (by omega) dX6_print_28 ?_
    refine y_aload_n hB 0 dX6_print_31 rfl rfl ?_
    refine gt_6_0 hB (by decide) (t1 := 1) (by omega) dX6_print_32 ?_
    refine m_V hB msX3_lay q502 (tX3_lay _ G b (remC C) S 1 N desk_1 (by omega) hDR hN) (t := 14) (by decide) (by decide) rfl rfl rfl rfl rfl ⟨Nat.le_of_ble_eq_true rfl, Nat.le_of_ble_eq_true rfl⟩ (Nat.le_of_ble_eq_true rfl) ⟨rfl, rfl⟩ ⟨Nat.le_of_ble_eq_true rfl, Nat.le_of_ble_eq_true rfl⟩ dX6_print_35 (k_WV (fun C_35 h_35 => ?_))
    obtain ⟨q35, m35, hk1, hk2, hk3, hk4, hk5, hk6, hk7, hk8⟩ := id h_35
    have hde := Laid_dead h_35
    have agL : agD (remC C) C_35 1 := fun a a1 a2 => hk8 a (by omega)
    have hDL : DkOk C_35 1 N := DkOk_ag agL hDR
    have eL : C_35 1 = C 1 := (agL 1 (by omega) (by omega)).trans er
    have eL3 : C_35 1 3 = C 1 3 := by rw [eL]
    have hps : ∀ s : Int, 0 ≤ s → s < C_35 573 2 → (0 ≤ C_35 577 s ∧ C_35 577 s < C_35 1 3) ∧ 0 ≤ C_35 (4 * C_35 577 s + 5) 4 := fun s s0 s1 => (by have h9 := hde s s0 s1; have h8 := (hDL.2.2.2.2.2.2.2.2.2.2 (C_35 577 s) h9.1.1 (by omega)).2.2.2.2.2.2.2.1; rw [show 4 * C_35 577 s + 1 + 4 = 4 * C_35 577 s + 5 by omega, agL (4 * C_35 577 s + 5) (by omega) (by omega)] at h8; refine ⟨by omega, ?_⟩; rw [agL (4 * C_35 577 s + 5) (by omega) (by omega)]; exact h8 (by omega))
    refine y_aload_n hB 0 dX6_print_38 rfl rfl ?_
    refine gt_6_6 hB (by decide) (t1 := 573) (by omega) dX6_print_39 ?_
    refine m_V hB msX3_size q561 (tX3_size _ G b C_35 S) (t := 14) (by decide) (by decide) rfl rfl rfl rfl rfl ⟨Nat.le_of_ble_eq_true rfl, Nat.le_of_ble_eq_true rfl⟩ (Nat.le_of_ble_eq_true rfl) ⟨rfl, rfl⟩ ⟨Nat.le_of_ble_eq_true rfl, Nat.le_of_ble_eq_true rfl⟩ dX6_print_42 (k_RI (fun v_42 h_42 => ?_))
    refine y_istore_n (lv' := [(1, .int (iI (v_42))), (0, .ref (ad b (0)))]) hB dX6_print_45 rfl (by decide) rfl ?_
    refine y_iconst (v := 0) hB dX6_print_46 rfl ?_
    refine y_istore_n (lv' := [(2, .int (iI (0))), (1, .int (iI (v_42))), (0, .ref (ad b (0)))]) hB dX6_print_47 rfl (by decide) rfl ?_
    have LOOP_48 : ∀ (fu : Nat) (i : Int), (0 ≤ i ∧ i ≤ v_42) → v_42 - i < (fu : Int) → YM x G b 0 0 (mkP C_35 i) S 48 [(0, .ref (ad b (0))), (1, .int (iI (v_42))), (2, .int (iI (i)))] [] := by
      intro fu
      induction fu with
      | zero => intro i hi hm_48; exfalso; omega
      | succ fu ih_48 =>
        intro i hi hm_48
        have e573 : mkP C_35 i 573 2 = C_35 573 2 := by rw [mkP_out hi.1 (fun s s0 s1 => by have h9 := (hps s s0 (by omega)).1; omega)]
        have e577 : mkP C_35 i 577 = C_35 577 := mkP_out hi.1 (fun s s0 s1 => by have h9 := (hps s s0 (by omega)).1; omega)
        have e13 : mkP C_35 i 1 3 = C_35 1 3 := mkP_j hi.1 (by omega)
        have e14 : mkP C_35 i 1 4 = C_35 1 4 := mkP_j hi.1 (by omega)
        refine y_iload_n hB 2 dX6_print_48 rfl rfl ?_
        refine y_iload_n hB 1 dX6_print_49 rfl rfl ?_
        refine y_icmp_ge hB 74 dX6_print_50 (by decide) (by omega) (by omega) (fun c_50 => ?_) (fun c_50 => ?_)
        · refine y_aload_n hB 0 dX6_print_74 rfl rfl ?_
          refine gt_6_0 hB (by decide) (t1 := 1) (by omega) dX6_print_75 ?_
          have hie : i = C_35 573 2 := by omega
          have hDk : DkOk (mkP C_35 i) 1 N := by rw [hie]; exact DkOk_mk hDL hk5.1 hps
          refine m_V hB msX0_takeBackOldDeaths q577 (tX0_takeBackOldDeaths _ G b (mkP C_35 i) S 1 N desk_1 hDk hN) (t := 1) (desk_1).1 (by decide) rfl rfl rfl rfl rfl ⟨Nat.le_of_ble_eq_true rfl, Nat.le_of_ble_eq_true rfl⟩ (Nat.le_of_ble_eq_true rfl) ⟨rfl, rfl⟩ ⟨Nat.le_of_ble_eq_true rfl, Nat.le_of_ble_eq_true rfl⟩ dX6_print_78 (k_WV (fun C_78 h_78 => ?_))
          refine y_aload_n hB 0 dX6_print_81 rfl rfl ?_
          refine gt_6_0 hB (by decide) (t1 := 1) (by omega) dX6_print_82 ?_
          refine m_V hB msX0_beginNextDay q583 (tX0_beginNextDay _ G b C_78 S 1 desk_1) (t := 1) (desk_1).1 (by decide) rfl rfl rfl rfl rfl ⟨Nat.le_of_ble_eq_true rfl, Nat.le_of_ble_eq_true rfl⟩ (Nat.le_of_ble_eq_true rfl) ⟨rfl, rfl⟩ ⟨Nat.le_of_ble_eq_true rfl, Nat.le_of_ble_eq_true rfl⟩ dX6_print_85 (k_WV (fun C_85 h_85 => ?_))
          refine y_iload_n hB 1 dX6_print_88 rfl rfl ?_
          exact m_wi hB hE dX6_print_89 rfl (⟨C_35, h_35, h_42, by rw [h_85, h_78, hie]; rfl⟩)
        · refine y_aload_n hB 0 dX6_print_53 rfl rfl ?_
          refine gt_6_0 hB (by decide) (t1 := 1) (by omega) dX6_print_54 ?_
          refine y_aload_n hB 0 dX6_print_57 rfl rfl ?_
          refine gt_6_6 hB (by decide) (t1 := 573) (by omega) dX6_print_58 ?_
          refine y_iload_n hB 2 dX6_print_61 rfl rfl ?_
          refine m_V hB msX3_personAt q565 (tX3_personAt _ G b (mkP C_35 i) S i (by omega) (by omega)) (t := 14) (by decide) (by decide) rfl rfl rfl rfl rfl ⟨Nat.le_of_ble_eq_true rfl, Nat.le_of_ble_eq_true rfl⟩ (Nat.le_of_ble_eq_true rfl) ⟨rfl, rfl⟩ ⟨Nat.le_of_ble_eq_true rfl, Nat.le_of_ble_eq_true rfl⟩ dX6_print_62 (k_RI (fun v_62 h_62 => ?_))
          have hp_62 : v_62 = C_35 577 i := (by rcases h_62 with g | g; exact g.2.2.trans (by rw [e577]); exact absurd ⟨hi.1, by omega⟩ g.1)
          have hpi := hps i hi.1 (by omega)
          rw [hp_62]
          refine m_V hB msX0_markPrinted q569 (tX0_markPrinted _ G b (mkP C_35 i) S 1 (C_35 577 i) (4 * C_35 577 i + 5) desk_1 (by omega) (by omega) (by omega)) (t := 1) (desk_1).1 (by decide) rfl rfl rfl rfl rfl ⟨Nat.le_of_ble_eq_true rfl, Nat.le_of_ble_eq_true rfl⟩ (Nat.le_of_ble_eq_true rfl) ⟨rfl, rfl⟩ ⟨Nat.le_of_ble_eq_true rfl, Nat.le_of_ble_eq_true rfl⟩ dX6_print_65 (k_WV (fun C_65 h_65 => ?_))
          obtain rfl := h_65
          refine y_iinc (v := i + 1) (lv' := [(2, .int (iI (i + 1))), (0, .ref (ad b (0))), (1, .int (iI (v_42)))]) hB 2 dX6_print_68 rfl (by omega) (by decide) rfl ?_
          refine y_goto hB 48 dX6_print_71 (by decide) ?_
          refine y_sub (lv' := [(0, .ref (ad b (0))), (1, .int (iI (v_42))), (2, .int (iI (i + 1)))]) [1, 2, 0] rfl ?_
          rw [e14, mkP_s hi.1]
          exact ih_48 (i + 1) (by omega) (by omega)
    refine y_sub (lv' := [(0, .ref (ad b (0))), (1, .int (iI (v_42))), (2, .int (iI (0)))]) [2, 1, 0] rfl ?_
    rw [← mkP_0 C_35]
    exact LOOP_48 ((v_42).toNat + 1) 0 (by omega) (by omega)
  · exfalso
    omega
