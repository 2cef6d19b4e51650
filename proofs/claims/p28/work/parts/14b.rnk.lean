/-! the sorted row of those of a kind; it is one; its part of a kind; what a page takes of it -/
noncomputable def ci (p : Prop) : Int := @ite Int p (Classical.propDecidable p) 1 0
theorem ci_t {p : Prop} (h : p) : ci p = 1 := by unfold ci; exact if_pos h
theorem ci_f {p : Prop} (h : ¬ p) : ci p = 0 := by unfold ci; exact if_neg h
theorem ci_b (p : Prop) : 0 ≤ ci p ∧ ci p ≤ 1 := by
  by_cases h : p
  · rw [ci_t h]; omega
  · rw [ci_f h]; omega
theorem ci_c {p q : Prop} (h : p ↔ q) : ci p = ci q := by
  by_cases hp : p
  · rw [ci_t hp, ci_t (h.mp hp)]
  · rw [ci_f hp, ci_f (fun z => hp (h.mpr z))]
def Rnk (e : Int → Int) (m : Int) (P : Int → Prop) (f : Int → Int) (n : Int) : Prop := (0 ≤ m ∧ m ≤ n) ∧ (∀ t : Int, 0 ≤ t → t < m → 0 ≤ e t ∧ e t < n ∧ P (e t)) ∧ (∀ s t : Int, 0 ≤ s → s < t → t < m → ahd f (e s) (e t)) ∧ ∀ g : Int → Int, (∀ x : Int, 0 ≤ x → x < n → ¬ P x → g x = 0) → smI g n = smI (fun t => g (e t)) m
theorem Rkd_rnk {C : gM} {r n : Int} {P : Int → Prop} {f : Int → Int} (h : Rkd C r P f n) : Rnk (C (r + 1)) (C r 2) P f n := ⟨h.1, fun t a1 a2 => (fun z => ⟨z.1, z.2.1, z.2.2.1⟩) (h.2.1 t a1 a2), h.2.2.1, h.2.2.2⟩
theorem ahd_irr {f : Int → Int} {a : Int} : ¬ ahd f a a := by unfold ahd; omega
theorem ahd_asym {f : Int → Int} {a c : Int} (h : ahd f a c) : ¬ ahd f c a := by unfold ahd at *; omega
theorem smI_0f {f : Int → Int} {n : Int} (h : ∀ j, 0 ≤ j → j < n → f j = 0) : smI f n = 0 := by
  have h1 : smI f n = smI (fun _ => 0) n := smI_congr h
  rw [h1]
  unfold smI
  generalize n.toNat = k
  induction k with
  | zero => rfl
  | succ k ih => show sm (fun _ => 0) k + 0 = 0; rw [ih]; rfl
/-- how many below n are of the kind and ahead of x -/
noncomputable def ahN (P : Int → Prop) (f : Int → Int) (n x : Int) : Int := smI (fun y => ci (P y ∧ ahd f y x)) n
theorem smI_lt (f : Int → Int) (t : Int) : ∀ m : Int, 0 ≤ t → t ≤ m → (∀ s, 0 ≤ s → s < t → f s = 1) → (∀ s, t ≤ s → s < m → f s = 0) → smI f m = t := by
  intro m h0 h1 h2 h3
  have key : ∀ k : Nat, t + k ≤ m → smI f (t + k) = t := by
    intro k
    induction k with
    | zero =>
      intro _
      have e : ∀ j : Nat, (j : Int) ≤ t → smI f j = j := by
        intro j
        induction j with
        | zero => intro _; rfl
        | succ j ih =>
          intro hj
          rw [show ((j + 1 : Nat) : Int) = (j : Int) + 1 by omega, smI_s _ (by omega), ih (by omega), h2 j (by omega) (by omega)]
      have := e t.toNat (by omega)
      rw [Int.toNat_of_nonneg h0] at this
      simpa using this
    | succ k ih =>
      intro hk
      rw [show t + ((k + 1 : Nat) : Int) = t + (k : Int) + 1 by omega, smI_s _ (by omega), ih (by omega), h3 _ (by omega) (by omega)]
      omega
  have := key (m - t).toNat (by omega)
  rwa [show t + ((m - t).toNat : Int) = m by omega] at this
theorem Rnk_ahN {e : Int → Int} {m n : Int} {P : Int → Prop} {f : Int → Int} (h : Rnk e m P f n) {t : Int} (ht : 0 ≤ t ∧ t < m) : ahN P f n (e t) = t := by
  obtain ⟨h1, h2, h3, h4⟩ := h
  unfold ahN
  rw [h4 _ (fun x _ _ hx => ci_f (fun z => hx z.1))]
  refine smI_lt _ t m ht.1 (by omega) (fun s a1 a2 => ?_) (fun s a1 a2 => ?_)
  · exact ci_t ⟨(h2 s a1 (by omega)).2.2, h3 s t a1 a2 ht.2⟩
  · refine ci_f (fun z => ?_)
    rcases (show s = t ∨ t < s by omega) with b | b
    · rw [b] at z; exact ahd_irr z.2
    · exact ahd_asym (h3 t s ht.1 b a2) z.2
theorem Rnk_has {e : Int → Int} {m n : Int} {P : Int → Prop} {f : Int → Int} (h : Rnk e m P f n) {x : Int} (hx : 0 ≤ x ∧ x < n) (hp : P x) : ∃ t : Int, 0 ≤ t ∧ t < m ∧ e t = x := by
  obtain ⟨h1, h2, h3, h4⟩ := h
  refine Classical.byContradiction fun hno => ?_
  have e1 := h4 (fun y => ci (y = x)) (fun y _ _ hy => ci_f (fun z => hy (by rw [z]; exact hp)))
  have e2 : smI (fun t => ci (e t = x)) m = 0 := smI_0f (fun j a1 a2 => ci_f (fun z => hno ⟨j, a1, a2, z⟩))
  rw [e2] at e1
  have e3 : smI (fun y => ci (y = x)) (x + 1) = 1 := by
    rw [smI_s _ hx.1, smI_0f (fun j a1 a2 => ci_f (by omega)), ci_t rfl]
    rfl
  have e4 : ∀ k : Nat, x + 1 + k ≤ n → 1 ≤ smI (fun y => ci (y = x)) (x + 1 + k) := by
    intro k
    induction k with
    | zero => intro _; simpa using (show (1 : Int) ≤ smI (fun y => ci (y = x)) (x + 1) by omega)
    | succ k ih =>
      intro hk
      rw [show x + 1 + ((k + 1 : Nat) : Int) = x + 1 + (k : Int) + 1 by omega, smI_s _ (by omega)]
      have := ih (by omega)
      have := ci_b (x + 1 + (k : Int) = x)
      omega
  have e5 := e4 (n - x - 1).toNat (by omega)
  rw [show x + 1 + ((n - x - 1).toNat : Int) = n by omega] at e5
  omega
theorem Rnk_uniq {e e' : Int → Int} {m m' n : Int} {P P' : Int → Prop} {f f' : Int → Int} (hP : ∀ x, 0 ≤ x → x < n → (P x ↔ P' x)) (hf : ∀ x, 0 ≤ x → x < n → P x → f x = f' x) (h : Rnk e m P f n) (h' : Rnk e' m' P' f' n) : m = m' ∧ ∀ t, 0 ≤ t → t < m → e t = e' t := by
  have A : ∀ x, 0 ≤ x → x < n → P x → ahN P f n x = ahN P' f' n x := by
    intro x a1 a2 a3
    unfold ahN
    refine smI_congr (fun y b1 b2 => ci_c ?_)
    constructor
    · rintro ⟨c1, c2⟩
      refine ⟨(hP y b1 b2).mp c1, ?_⟩
      unfold ahd at *
      rw [← hf y b1 b2 c1, ← hf x a1 a2 a3]
      exact c2
    · rintro ⟨c1, c2⟩
      have c3 := (hP y b1 b2).mpr c1
      refine ⟨c3, ?_⟩
      unfold ahd at *
      rw [hf y b1 b2 c3, hf x a1 a2 a3]
      exact c2
  have B : ∀ t, 0 ≤ t → t < m' → t < m ∧ e t = e' t := by
    intro t a1 a2
    have c := h'.2.1 t a1 a2
    have cp := (hP _ c.1 c.2.1).mpr c.2.2
    obtain ⟨s, d1, d2, d3⟩ := Rnk_has h ⟨c.1, c.2.1⟩ cp
    have e1 := Rnk_ahN h ⟨d1, d2⟩
    have e2 := Rnk_ahN h' ⟨a1, a2⟩
    rw [d3, A _ c.1 c.2.1 cp, e2] at e1
    subst e1
    exact ⟨d2, d3⟩
  have B' : ∀ t, 0 ≤ t → t < m → t < m' := by
    intro t a1 a2
    have c := h.2.1 t a1 a2
    have cp := (hP _ c.1 c.2.1).mp c.2.2
    obtain ⟨s, d1, d2, d3⟩ := Rnk_has h' ⟨c.1, c.2.1⟩ cp
    have e1 := Rnk_ahN h' ⟨d1, d2⟩
    have e2 := Rnk_ahN h ⟨a1, a2⟩
    rw [d3, ← A _ c.1 c.2.1 c.2.2, e2] at e1
    subst e1
    exact d2
  have hm := h.1
  have hm' := h'.1
  have hmm : m = m' := by
    rcases Int.lt_trichotomy m m' with g | g | g
    · have := (B m hm.1 g).1; omega
    · exact g
    · have := B' m' hm'.1 g; omega
  exact ⟨hmm, fun t a1 a2 => (B t a1 (by omega)).2⟩
/-- how many of the first i are of the kind R -/
noncomputable def cnR (R : Int → Prop) (e : Int → Int) (i : Int) : Int := smI (fun s => ci (R (e s))) i
theorem cnR_b (R : Int → Prop) (e : Int → Int) {i : Int} (h : 0 ≤ i) : 0 ≤ cnR R e i ∧ cnR R e i ≤ i := by
  have := smI_le (f := fun s => ci (R (e s))) (n := i) (a := 0) (c := 1) h (fun j _ _ => ci_b _)
  unfold cnR
  omega
theorem cnR_mono (R : Int → Prop) (e : Int → Int) {i : Int} (h : 0 ≤ i) : ∀ k : Nat, cnR R e i ≤ cnR R e (i + k) := by
  intro k
  induction k with
  | zero => simp
  | succ k ih =>
    have e1 : cnR R e (i + ((k + 1 : Nat) : Int)) = cnR R e (i + (k : Int)) + ci (R (e (i + (k : Int)))) := by
      unfold cnR
      rw [show i + ((k + 1 : Nat) : Int) = i + (k : Int) + 1 by omega, smI_s _ (by omega)]
    have := ci_b (R (e (i + (k : Int))))
    omega
theorem Rnk_part {e : Int → Int} {m n : Int} {P : Int → Prop} {f : Int → Int} (h : Rnk e m P f n) (R : Int → Prop) : ∃ b : Int → Int, Rnk b (cnR R e m) (fun x => P x ∧ R x) f n ∧ ∀ s, 0 ≤ s → s < m → R (e s) → b (cnR R e s) = e s := by
  have cs : ∀ s, 0 ≤ s → cnR R e (s + 1) = cnR R e s + ci (R (e s)) := fun s hs => by unfold cnR; rw [smI_s _ hs]
  have key : ∀ i : Nat, ∃ b : Int → Int, (∀ s, 0 ≤ s → s < (i : Int) → R (e s) → b (cnR R e s) = e s) ∧ (∀ t, 0 ≤ t → t < cnR R e i → ∃ s, 0 ≤ s ∧ s < (i : Int) ∧ R (e s) ∧ cnR R e s = t ∧ b t = e s) ∧ ∀ g : Int → Int, smI (fun s => ci (R (e s)) * g (e s)) i = smI (fun t => g (b t)) (cnR R e i) := by
    intro i
    induction i with
    | zero => exact ⟨fun _ => 0, fun s a1 a2 => by omega, fun t a1 a2 => (by have : cnR R e ((0 : Nat) : Int) = 0 := rfl; omega), fun g => rfl⟩
    | succ i ih =>
      obtain ⟨b, b1, b2, b3⟩ := ih
      have c0 := cnR_b R e (i := i) (by omega)
      have c1 := cs i (by omega)
      rw [show ((i + 1 : Nat) : Int) = (i : Int) + 1 by omega]
      by_cases hR : R (e i)
      · rw [ci_t hR] at c1
        obtain ⟨b', hb'⟩ : ∃ b' : Int → Int, ∀ t, b' t = if t = cnR R e i then e i else b t := ⟨_, fun _ => rfl⟩
        refine ⟨b', fun s a1 a2 a3 => ?_, fun t a1 a2 => ?_, fun g => ?_⟩
        · rcases (show s < i ∨ s = i by omega) with d | d
          · have lt : cnR R e s < cnR R e i := by
              have m1 := cnR_mono R e (i := s + 1) (by omega) (i - s - 1).toNat
              rw [show s + 1 + (((i : Int) - s - 1).toNat : Int) = i by omega] at m1
              have m2 := cs s a1
              rw [ci_t a3] at m2
              omega
            rw [hb', if_neg (by omega)]
            exact b1 s a1 d a3
          · rw [d, hb', if_pos rfl]
        · rcases (show t < cnR R e i ∨ t = cnR R e i by omega) with d | d
          · obtain ⟨s, d1, d2, d3, d4, d5⟩ := b2 t a1 d
            exact ⟨s, d1, by omega, d3, d4, by rw [hb', if_neg (by omega)]; exact d5⟩
          · exact ⟨i, by omega, by omega, hR, d.symm, by rw [hb', if_pos d]⟩
        · rw [smI_s _ (by omega), c1, smI_s _ c0.1, ci_t hR, b3 g]
          have : smI (fun t => g (b t)) (cnR R e i) = smI (fun t => g (b' t)) (cnR R e i) := smI_congr (fun j d1 d2 => by rw [hb', if_neg (by omega)])
          have e9 : b' (cnR R e i) = e i := by rw [hb', if_pos rfl]
          rw [e9]
          rw [this]
          omega
      · rw [ci_f hR] at c1
        have c2 : cnR R e ((i : Int) + 1) = cnR R e i := by omega
        refine ⟨b, fun s a1 a2 a3 => ?_, fun t a1 a2 => ?_, fun g => ?_⟩
        · rcases (show s < i ∨ s = i by omega) with d | d
          · exact b1 s a1 d a3
          · rw [d] at a3; exact absurd a3 hR
        · obtain ⟨s, d1, d2, d3, d4, d5⟩ := b2 t a1 (by omega)
          exact ⟨s, d1, by omega, d3, d4, d5⟩
        · rw [smI_s _ (by omega), c2, ci_f hR, b3 g]
          omega
  obtain ⟨h1, h2, h3, h4⟩ := h
  obtain ⟨b, b1, b2, b3⟩ := key m.toNat
  rw [Int.toNat_of_nonneg h1.1] at b1 b2 b3
  have cb := cnR_b R e h1.1
  refine ⟨b, ⟨by omega, fun t a1 a2 => ?_, fun s t a1 a2 a3 => ?_, fun g hg => ?_⟩, b1⟩
  · obtain ⟨s, d1, d2, d3, d4, d5⟩ := b2 t a1 a2
    have := h2 s d1 d2
    rw [d5]
    exact ⟨this.1, this.2.1, this.2.2, d3⟩
  · obtain ⟨s1, d1, d2, d3, d4, d5⟩ := b2 s a1 (by omega)
    obtain ⟨s2, g1, g2, g3, g4, g5⟩ := b2 t (by omega) a3
    rw [d5, g5]
    refine h3 s1 s2 d1 ?_ g2
    rcases Int.lt_or_le s1 s2 with q | q
    · exact q
    · have m1 := cnR_mono R e (i := s2) g1 (s1 - s2).toNat
      rw [show s2 + ((s1 - s2).toNat : Int) = s1 by omega] at m1
      omega
  · rw [h4 g (fun x q1 q2 q3 => hg x q1 q2 (fun z => q3 z.1)), ← b3 g]
    refine smI_congr (fun j q1 q2 => ?_)
    by_cases hR : R (e j)
    · rw [ci_t hR]; omega
    · have := h2 j q1 q2
      rw [ci_f hR, hg _ this.1 this.2.1 (fun z => hR z.2)]
      omega
/-- what is free behind the first of the row, what was taken -/
def pgF (e ln : Int → Int) (f0 : Int) : Nat → Int
  | 0 => f0
  | n + 1 => if ln (e n) ≤ pgF e ln f0 n then pgF e ln f0 n - ln (e n) else pgF e ln f0 n
def pgC (e ln : Int → Int) (f0 : Int) : Nat → Int
  | 0 => 0
  | n + 1 => if ln (e n) ≤ pgF e ln f0 n then pgC e ln f0 n + 1 else pgC e ln f0 n
def pgf (e ln : Int → Int) (f0 n : Int) : Int := pgF e ln f0 n.toNat
def pgc (e ln : Int → Int) (f0 n : Int) : Int := pgC e ln f0 n.toNat
def tkn (e ln : Int → Int) (f0 t : Int) : Prop := ln (e t) ≤ pgf e ln f0 t
theorem pg_s {e ln : Int → Int} {f0 t : Int} (h : 0 ≤ t) (hk : tkn e ln f0 t) : pgf e ln f0 (t + 1) = pgf e ln f0 t - ln (e t) ∧ pgc e ln f0 (t + 1) = pgc e ln f0 t + 1 := by
  unfold tkn pgf at hk
  unfold pgf pgc
  rw [show (t + 1).toNat = t.toNat + 1 by omega]
  have e1 : ((t.toNat : Nat) : Int) = t := Int.toNat_of_nonneg h
  constructor
  · show (if ln (e (t.toNat : Int)) ≤ pgF e ln f0 t.toNat then _ else _) = _
    rw [e1, if_pos hk]
  · show (if ln (e (t.toNat : Int)) ≤ pgF e ln f0 t.toNat then _ else _) = _
    rw [e1, if_pos hk]
theorem pg_n {e ln : Int → Int} {f0 t : Int} (h : 0 ≤ t) (hk : ¬ tkn e ln f0 t) : pgf e ln f0 (t + 1) = pgf e ln f0 t ∧ pgc e ln f0 (t + 1) = pgc e ln f0 t := by
  unfold tkn pgf at hk
  unfold pgf pgc
  rw [show (t + 1).toNat = t.toNat + 1 by omega]
  have e1 : ((t.toNat : Nat) : Int) = t := Int.toNat_of_nonneg h
  constructor
  · show (if ln (e (t.toNat : Int)) ≤ pgF e ln f0 t.toNat then _ else _) = _
    rw [e1, if_neg hk]
  · show (if ln (e (t.toNat : Int)) ≤ pgF e ln f0 t.toNat then _ else _) = _
    rw [e1, if_neg hk]
theorem pgc_b (e ln : Int → Int) (f0 : Int) : ∀ k : Nat, 0 ≤ pgC e ln f0 k ∧ pgC e ln f0 k ≤ k := by
  intro k
  induction k with
  | zero => exact ⟨Int.le_refl 0, Int.le_refl 0⟩
  | succ k ih =>
    show 0 ≤ (if ln (e k) ≤ pgF e ln f0 k then pgC e ln f0 k + 1 else pgC e ln f0 k) ∧ (if ln (e k) ≤ pgF e ln f0 k then pgC e ln f0 k + 1 else pgC e ln f0 k) ≤ ((k + 1 : Nat) : Int)
    split <;> omega
theorem pgf_b (e ln : Int → Int) (f0 : Int) (h0 : 0 ≤ f0) : ∀ k : Nat, (∀ j : Nat, j < k → 0 ≤ ln (e j)) → 0 ≤ pgF e ln f0 k ∧ pgF e ln f0 k ≤ f0 := by
  intro k
  induction k with
  | zero => intro _; exact ⟨h0, Int.le_refl _⟩
  | succ k ih =>
    intro hl
    have := ih (fun j hj => hl j (by omega))
    have := hl k (by omega)
    show 0 ≤ (if ln (e k) ≤ pgF e ln f0 k then pgF e ln f0 k - ln (e k) else pgF e ln f0 k) ∧ (if ln (e k) ≤ pgF e ln f0 k then pgF e ln f0 k - ln (e k) else pgF e ln f0 k) ≤ f0
    split <;> omega
theorem pg_congr {e e' ln ln' : Int → Int} {f0 m : Int} (h : ∀ t, 0 ≤ t → t < m → e t = e' t ∧ ln (e t) = ln' (e' t)) : ∀ t, 0 ≤ t → t ≤ m → pgf e ln f0 t = pgf e' ln' f0 t ∧ pgc e ln f0 t = pgc e' ln' f0 t := by
  have key : ∀ k : Nat, (k : Int) ≤ m → pgF e ln f0 k = pgF e' ln' f0 k ∧ pgC e ln f0 k = pgC e' ln' f0 k := by
    intro k
    induction k with
    | zero => intro _; exact ⟨rfl, rfl⟩
    | succ k ih =>
      intro hk
      have i := ih (by omega)
      have j := h k (by omega) (by omega)
      show (if ln (e k) ≤ pgF e ln f0 k then pgF e ln f0 k - ln (e k) else pgF e ln f0 k) = (if ln' (e' k) ≤ pgF e' ln' f0 k then pgF e' ln' f0 k - ln' (e' k) else pgF e' ln' f0 k) ∧ (if ln (e k) ≤ pgF e ln f0 k then pgC e ln f0 k + 1 else pgC e ln f0 k) = (if ln' (e' k) ≤ pgF e' ln' f0 k then pgC e' ln' f0 k + 1 else pgC e' ln' f0 k)
      rw [i.1, i.2, j.2]
      exact ⟨rfl, rfl⟩
  exact fun t a1 a2 => key t.toNat (by omega)
theorem tkn_congr {e e' ln ln' : Int → Int} {f0 m t : Int} (h : ∀ t, 0 ≤ t → t < m → e t = e' t ∧ ln (e t) = ln' (e' t)) (ht : 0 ≤ t ∧ t < m) : tkn e ln f0 t ↔ tkn e' ln' f0 t := by
  unfold tkn
  rw [(pg_congr (f0 := f0) h t ht.1 (by omega)).1, (h t ht.1 ht.2).2]
theorem pgc_mono (e ln : Int → Int) (f0 : Int) {t : Int} (h : 0 ≤ t) : ∀ k : Nat, pgc e ln f0 t ≤ pgc e ln f0 (t + k) := by
  intro k
  induction k with
  | zero => simp
  | succ k ih =>
    rw [show t + ((k + 1 : Nat) : Int) = t + (k : Int) + 1 by omega]
    by_cases hk : tkn e ln f0 (t + k)
    · have := (pg_s (by omega) hk).2; omega
    · have := (pg_n (by omega) hk).2; omega
/-- each place of the page is of one that was taken -/
theorem pg_at {e ln : Int → Int} {f0 m r : Int} (hm : 0 ≤ m) (hr : 0 ≤ r ∧ r < pgc e ln f0 m) : ∃ t : Int, 0 ≤ t ∧ t < m ∧ tkn e ln f0 t ∧ pgc e ln f0 t = r := by
  have key : ∀ k : Nat, r < pgc e ln f0 k → ∃ t : Int, 0 ≤ t ∧ t < (k : Int) ∧ tkn e ln f0 t ∧ pgc e ln f0 t = r := by
    intro k
    induction k with
    | zero => intro h; have : pgc e ln f0 ((0 : Nat) : Int) = 0 := rfl; omega
    | succ k ih =>
      intro h
      rw [show ((k + 1 : Nat) : Int) = (k : Int) + 1 by omega] at h ⊢
      by_cases hk : tkn e ln f0 k
      · have h2 := (pg_s (by omega) hk).2
        rcases (show r < pgc e ln f0 k ∨ r = pgc e ln f0 k by omega) with d | d
        · obtain ⟨t, a1, a2, a3, a4⟩ := ih d
          exact ⟨t, a1, by omega, a3, a4⟩
        · exact ⟨k, by omega, by omega, hk, d.symm⟩
      · have h2 := (pg_n (by omega) hk).2
        obtain ⟨t, a1, a2, a3, a4⟩ := ih (by omega)
        exact ⟨t, a1, by omega, a3, a4⟩
  have := key m.toNat (by rw [Int.toNat_of_nonneg hm]; exact hr.2)
  rwa [Int.toNat_of_nonneg hm] at this
theorem pg_lt {e ln : Int → Int} {f0 m t : Int} (ht : 0 ≤ t ∧ t < m) (hk : tkn e ln f0 t) : pgc e ln f0 t < pgc e ln f0 m := by
  have h1 := (pg_s ht.1 hk).2
  have h2 := pgc_mono e ln f0 (t := t + 1) (by omega) (m - t - 1).toNat
  rw [show t + 1 + ((m - t - 1).toNat : Int) = m by omega] at h2
  omega
