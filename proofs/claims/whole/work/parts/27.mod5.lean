/-! the other class: how its page is laid -/
def mky (f : Int → Int) (i : Int) : Int := 10000 * f (32 * i + 17) + (9999 - f (32 * i + 20))
def mP (f : Int → Int) (i : Int) : Prop := i < f 1 ∧ f (32 * i + 18) = 2 ∧ mRdy f i
theorem mAh_ahd {f : Int → Int} {N u t : Int} (hM : MO f N) (hN : N ≤ 512) (hu : 0 ≤ u ∧ u < 20) (ht : 0 ≤ t ∧ t < 20) : mAh f u t ↔ ahd (mky f) u t := by
  have h0 := hM.2.1
  have h1 := hM.2.2.2.2.2.2.2.2.2.2.1 u hu.1 hu.2
  have h2 := hM.2.2.2.2.2.2.2.2.2.2.1 t ht.1 ht.2
  have a1 := h1.2.1
  have a2 := h1.2.2.2.2.1
  have b1 := h2.2.1
  have b2 := h2.2.2.2.2.1
  unfold mAh ahd mky
  omega
theorem smI_del (h : Int → Int) {b : Int} (hb : 0 ≤ b) : ∀ k : Nat, b < (k : Int) → smI h k = h b + smI (fun x => if x = b then 0 else h x) k := by
  intro k
  induction k with
  | zero => intro z; omega
  | succ k ih =>
    intro hk
    rw [show ((k + 1 : Nat) : Int) = (k : Int) + 1 by omega, smI_s _ (by omega), smI_s _ (by omega)]
    by_cases hkb : b = (k : Int)
    · have e : smI (fun x => if x = b then 0 else h x) k = smI h k := smI_congr (fun j a1 a2 => if_neg (by omega))
      rw [e, if_pos hkb.symm, hkb]
      omega
    · rw [ih (by omega), if_neg (show ¬ (k : Int) = b by omega)]
      omega
/-- while the page is laid: e, the first m of those who are ready, in their order -/
def LyI (S SM : gM) (e : Int → Int) (m : Int) : Prop :=
  ((∀ a : Int, a ≠ 578 → a ≠ 582 → a ≠ 583 → SM a = S a) ∧ ∀ j : Int, j ≠ 5 → j ≠ 6 → SM 578 j = S 578 j) ∧
  (∀ t : Int, 0 ≤ t → t < m → (0 ≤ e t ∧ e t < 20) ∧ mP (S 579) (e t)) ∧
  (∀ s t : Int, 0 ≤ s → s < t → t < m → ahd (mky (S 579)) (e s) (e t)) ∧
  (∀ x : Int, 0 ≤ x → x < 20 → (SM 583 x = 0 ∨ SM 583 x = 1) ∧ (SM 583 x = 0 → mP (S 579) x ∧ ∀ t : Int, 0 ≤ t → t < m → ahd (mky (S 579)) (e t) x)) ∧
  (∀ g : Int → Int, (∀ x : Int, 0 ≤ x → x < 20 → ¬ mP (S 579) x → g x = 0) → smI g 20 = smI (fun t => g (e t)) m + smI (fun x => if SM 583 x = 0 then g x else 0) 20) ∧
  SM 578 6 = pgf e (mLn (S 579)) (S 579 5) m ∧ SM 578 5 = pgc e (mLn (S 579)) (S 579 5) m ∧ ∀ t : Int, 0 ≤ t → t < m → tkn e (mLn (S 579)) (S 579 5) t → SM 582 (pgc e (mLn (S 579)) (S 579 5) t) = e t
section
variable {S SM SM' : gM} {e : Int → Int} {m b : Int}
theorem LyI_0 {e : Int → Int} (hf : ∀ a : Int, a ≠ 578 → a ≠ 583 → SM a = S a) (hj : ∀ j : Int, j ≠ 5 → j ≠ 6 → SM 578 j = S 578 j) (h5 : SM 578 5 = 0) (h6 : SM 578 6 = S 579 5) (hs : ∀ x : Int, 0 ≤ x → x < 20 → (SM 583 x = 0 ∧ mP (S 579) x) ∨ (SM 583 x = 1 ∧ ¬ mP (S 579) x)) : LyI S SM e 0 := by
  refine ⟨⟨fun a h1 _ h3 => hf a h1 h3, hj⟩, fun t a1 a2 => by omega, fun s t a1 a2 a3 => by omega, fun x a1 a2 => ?_, fun g hg => ?_, h6, h5, fun t a1 a2 => by omega⟩
  · rcases hs x a1 a2 with ⟨g1, g2⟩ | ⟨g1, g2⟩
    · exact ⟨Or.inl g1, fun _ => ⟨g2, fun t b1 b2 => by omega⟩⟩
    · exact ⟨Or.inr g1, fun z => by omega⟩
  · rw [smI_0, Int.zero_add]
    refine smI_congr (fun x a1 a2 => ?_)
    rcases hs x a1 a2 with ⟨g1, g2⟩ | ⟨g1, g2⟩
    · rw [if_pos g1]
    · rw [if_neg (by omega)]; exact hg x a1 a2 g2
theorem LyI_m (h : LyI S SM e m) (hm : 0 ≤ m) : m + smI (fun x => if SM 583 x = 0 then 1 else 0) 20 ≤ 20 := by
  obtain ⟨-, h2, -, h4, h5, -⟩ := h
  have h := h5 (fun x => ci (mP (S 579) x)) (fun x _ _ hx => ci_f hx)
  have e1 : smI (fun t => ci (mP (S 579) (e t))) m = smI (fun _ => 1) m := smI_congr (fun t a1 a2 => ci_t (h2 t a1 a2).2)
  have e2 := smI_le (f := fun _ => 1) (n := m) (a := 1) (c := 1) hm (fun _ _ _ => by omega)
  have e3 := smI_le (f := fun x => ci (mP (S 579) x)) (n := 20) (a := 0) (c := 1) (by omega) (fun j _ _ => ci_b _)
  have e4 : smI (fun x => if SM 583 x = 0 then ci (mP (S 579) x) else 0) 20 = smI (fun x => if SM 583 x = 0 then 1 else 0) 20 := smI_congr (fun x a1 a2 => by
    by_cases c : SM 583 x = 0
    · rw [if_pos c, if_pos c]; exact ci_t ((h4 x a1 a2).2 c).1
    · rw [if_neg c, if_neg c])
  rw [e1, e4] at h
  omega
theorem LyI_lt (h : LyI S SM e m) (hm : 0 ≤ m) : m ≤ 20 ∧ ((0 ≤ b ∧ b < 20 ∧ SM 583 b = 0) → m < 20) := by
  have h1 := LyI_m h hm
  have h2 := smI_le (f := fun x => if SM 583 x = 0 then 1 else 0) (n := 20) (a := 0) (c := 1) (by omega) (fun j _ _ => by split <;> omega)
  refine ⟨by omega, fun ⟨b0, b1, b2⟩ => ?_⟩
  have h3 := smI_del (fun x => if SM 583 x = 0 then 1 else 0) b0 20 (by omega)
  have h4 := smI_le (f := fun x => if x = b then 0 else if SM 583 x = 0 then 1 else 0) (n := 20) (a := 0) (c := 1) (by omega) (fun j _ _ => by split <;> (try split) <;> omega)
  rw [if_pos b2] at h3
  rw [show ((20 : Nat) : Int) = 20 from rfl] at h3
  omega
/-- one more is taken from those who are left, the first of them -/
theorem LyI_s (h : LyI S SM e m) (hm : 0 ≤ m) (hb : isBest (fun x => SM 583 x = 0) (mky (S 579)) 20 b) (hb0 : 0 ≤ b) (hf : ∀ a : Int, a ≠ 578 → a ≠ 582 → a ≠ 583 → SM' a = SM a) (hj : ∀ j : Int, j ≠ 5 → j ≠ 6 → SM' 578 j = SM 578 j) (hs : ∀ x : Int, SM' 583 x = if x = b then 1 else SM 583 x)
    (hl : (mLn (S 579) b ≤ SM 578 6 ∧ SM' 578 6 = SM 578 6 - mLn (S 579) b ∧ SM' 578 5 = SM 578 5 + 1 ∧ ∀ x : Int, SM' 582 x = if x = SM 578 5 then b else SM 582 x) ∨ (¬ mLn (S 579) b ≤ SM 578 6 ∧ SM' 578 6 = SM 578 6 ∧ SM' 578 5 = SM 578 5 ∧ SM' 582 = SM 582)) : LyI S SM' (fun t => if t = m then b else e t) (m + 1) := by
  obtain ⟨h1, h2, h3, h4, h5, h6, h7, h8⟩ := h
  have hbk := isBest_k hb hb0
  have hbu : SM 583 b = 0 := hbk.2
  have hb4 := (h4 b hb0 hbk.1).2 hbu
  have hbest : ∀ x : Int, 0 ≤ x → x < 20 → SM 583 x = 0 → x ≠ b → ahd (mky (S 579)) b x := by
    intro x a1 a2 a3 a4
    rcases hb with ⟨g1, g2⟩ | ⟨g1, g2, g3, g4⟩
    · omega
    · have := g4 x a1 a2 a3
      unfold ahd
      omega
  have E : ∀ t : Int, t < m → (fun t => if t = m then b else e t) t = e t := fun t a => if_neg (by omega)
  have Em : (fun t => if t = m then b else e t) m = b := if_pos rfl
  have pc := pg_congr (e := fun t => if t = m then b else e t) (e' := e) (ln := mLn (S 579)) (ln' := mLn (S 579)) (f0 := S 579 5) (m := m) (fun t a1 a2 => by rw [if_neg (show ¬ t = m by omega)]; exact ⟨rfl, rfl⟩)
  have pm := pc m hm (Int.le_refl m)
  refine ⟨⟨fun a a1 a2 a3 => (hf a a1 a2 a3).trans (h1.1 a a1 a2 a3), fun j a1 a2 => (hj j a1 a2).trans (h1.2 j a1 a2)⟩, fun t a1 a2 => ?_, fun s t a1 a2 a3 => ?_, fun x a1 a2 => ?_, fun g hg => ?_, ?_⟩
  · by_cases ht : t = m
    · dsimp only
      rw [if_pos ht]
      exact ⟨⟨hb0, hbk.1⟩, hb4.1⟩
    · dsimp only
      rw [if_neg ht]
      exact h2 t a1 (by omega)
  · dsimp only
    rw [if_neg (show ¬ s = m by omega)]
    by_cases ht : t = m
    · rw [if_pos ht]
      exact hb4.2 s a1 (by omega)
    · rw [if_neg ht]
      exact h3 s t a1 a2 (by omega)
  · rw [hs x]
    by_cases hx : x = b
    · rw [if_pos hx]
      exact ⟨Or.inr rfl, fun z => by omega⟩
    · rw [if_neg hx]
      have := h4 x a1 a2
      refine ⟨this.1, fun z => ⟨(this.2 z).1, fun t b1 b2 => ?_⟩⟩
      by_cases ht : t = m
      · dsimp only
        rw [if_pos ht]
        exact hbest x a1 a2 z hx
      · dsimp only
        rw [if_neg ht]
        exact (this.2 z).2 t b1 (by omega)
  · rw [h5 g hg, smI_s _ hm]
    have e1 : smI (fun t => g ((fun t => if t = m then b else e t) t)) m = smI (fun t => g (e t)) m := smI_congr (fun t a1 a2 => by rw [E t a2])
    have e2 := smI_del (fun x => if SM 583 x = 0 then g x else 0) hb0 20 (by have := hbk.1; omega)
    have e3 : smI (fun x => if SM' 583 x = 0 then g x else 0) 20 = smI (fun x => if x = b then 0 else if SM 583 x = 0 then g x else 0) 20 := smI_congr (fun x a1 a2 => by
      rw [hs x]
      by_cases hx : x = b
      · rw [if_pos hx, if_pos hx]; exact if_neg (by omega)
      · rw [if_neg hx, if_neg hx])
    rw [show ((20 : Nat) : Int) = 20 from rfl, if_pos hbu] at e2
    have e4 : g ((fun t => if t = m then b else e t) m) = g b := by rw [Em]
    dsimp only at e1 e4 ⊢
    rw [e1, e4, e3, e2]
    omega
  · rcases hl with ⟨l1, l2, l3, l4⟩ | ⟨l1, l2, l3, l4⟩
    · have hk : tkn (fun t => if t = m then b else e t) (mLn (S 579)) (S 579 5) m := by
        unfold tkn
        rw [pm.1, ← h6]
        show mLn (S 579) (if m = m then b else e m) ≤ SM 578 6
        rw [if_pos rfl]
        exact l1
      have hs := pg_s hm hk
      have eb : (if m = m then b else e m) = b := if_pos rfl
      rw [pm.1, pm.2, eb] at hs
      rw [hs.1, hs.2, l2, l3, ← h6, ← h7]
      refine ⟨rfl, rfl, fun t a1 a2 a3 => ?_⟩
      rw [l4]
      by_cases ht : t = m
      · rw [ht, pm.2, ← h7, if_pos rfl]; exact eb.symm
      · have pt := pc t a1 (by omega)
        have a4 : tkn e (mLn (S 579)) (S 579 5) t := by
          unfold tkn at a3 ⊢
          rw [pt.1] at a3
          dsimp only at a3
          rwa [if_neg ht] at a3
        have := pg_lt (m := m) ⟨a1, by omega⟩ a4
        rw [pt.2, if_neg (by omega)]
        exact (h8 t a1 (by omega) a4).trans (E t (by omega)).symm
    · have hk : ¬ tkn (fun t => if t = m then b else e t) (mLn (S 579)) (S 579 5) m := by
        unfold tkn
        rw [pm.1, ← h6]
        show ¬ mLn (S 579) (if m = m then b else e m) ≤ SM 578 6
        rw [if_pos rfl]
        exact l1
      have hs := pg_n hm hk
      rw [pm.1, pm.2] at hs
      rw [hs.1, hs.2, l2, l3, l4]
      refine ⟨h6, h7, fun t a1 a2 a3 => ?_⟩
      have ht : t ≠ m := fun z => hk (z ▸ a3)
      have pt := pc t a1 (by omega)
      have a4 : tkn e (mLn (S 579)) (S 579 5) t := by
        unfold tkn at a3 ⊢
        rw [pt.1] at a3
        dsimp only at a3
        rwa [if_neg ht] at a3
      dsimp only
      rw [pt.2, if_neg ht]
      exact h8 t a1 (by omega) a4
end
/-- the page, laid -/
def LyD (S S' : gM) : Prop := ∃ (e : Int → Int) (m : Int), Rnk e m (mP (S 579)) (mky (S 579)) 20 ∧ S' 578 6 = pgf e (mLn (S 579)) (S 579 5) m ∧ S' 578 5 = pgc e (mLn (S 579)) (S 579 5) m ∧ (∀ t : Int, 0 ≤ t → t < m → tkn e (mLn (S 579)) (S 579 5) t → S' 582 (pgc e (mLn (S 579)) (S 579 5) t) = e t) ∧ (∀ a : Int, a ≠ 578 → a ≠ 582 → a ≠ 583 → S' a = S a) ∧ ∀ j : Int, j ≠ 5 → j ≠ 6 → S' 578 j = S 578 j
theorem LyD_of {S S' : gM} {e : Int → Int} {m : Int} (h : LyI S S' e m) (hm : 0 ≤ m) (hn : ∀ x : Int, 0 ≤ x → x < 20 → S' 583 x ≠ 0) : LyD S S' := by
  have hm2 := (LyI_lt (b := 0) h hm).1
  obtain ⟨h1, h2, h3, h4, h5, h6, h7, h8⟩ := h
  refine ⟨e, m, ⟨⟨hm, hm2⟩, fun t a1 a2 => ⟨(h2 t a1 a2).1.1, (h2 t a1 a2).1.2, (h2 t a1 a2).2⟩, h3, fun g hg => ?_⟩, h6, h7, h8, h1.1, h1.2⟩
  rw [h5 g hg, smI_0f (f := fun x => if S' 583 x = 0 then g x else 0) (fun j a1 a2 => if_neg (hn j a1 a2))]
  exact Int.add_zero _
