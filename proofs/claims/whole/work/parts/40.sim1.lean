/-! what the two sides have in common: a desk of the one (cells from o on), a row f of the other -/
def HdR (C : gM) (o : Int) (f : Int → Int) (N : Int) : Prop := (f 0 = C o 4 ∧ f 1 = C o 3 ∧ f 2 = C o 5 ∧ f 3 = C o 6) ∧ ((0 ≤ C o 3 ∧ C o 3 ≤ 20) ∧ (0 ≤ C o 4 ∧ C o 4 ≤ N) ∧ (0 ≤ C o 5 ∧ C o 5 ≤ 24) ∧ (0 ≤ C o 6 ∧ C o 6 ≤ N)) ∧ (f 4 = C (o + 1) 0 ∧ f 5 = C (o + 1) 1 ∧ f 6 = C (o + 1) 2 ∧ f 7 = C (o + 1) 3 ∧ f 8 = C (o + 1) 4) ∧ ((1 ≤ C (o + 1) 0 ∧ C (o + 1) 0 ≤ 24) ∧ (10 ≤ C (o + 1) 1 ∧ C (o + 1) 1 ≤ 200) ∧ (0 ≤ C (o + 1) 2 ∧ C (o + 1) 2 ≤ 100) ∧ (1 ≤ C (o + 1) 3 ∧ C (o + 1) 3 ≤ 3) ∧ (1 ≤ C (o + 1) 4 ∧ C (o + 1) 4 ≤ 9)) ∧ ∀ s : Int, 0 ≤ s ∧ s ≤ 5 → f (s + 9) = C (o + 2) s ∧ 0 ≤ C (o + 2) s ∧ C (o + 2) s ≤ 100
def LfR (C : gM) (q : Int) (f : Int → Int) (p T : Int) : Prop := LfOk C q T ∧ (f (p + 16) = C q 0 ∧ f (p + 17) = C q 1 ∧ f (p + 18) = C q 2 ∧ f (p + 19) = C q 6 ∧ f (p + 22) = C q 5) ∧ (C q 2 ≠ 0 → f (p + 20) = C q 4) ∧ (C q 2 = 0 → C q 4 = -5) ∧ (C q 2 = 1 → f (p + 21) = C q 3) ∧ (0 ≤ f (p + 20) ∧ f (p + 20) ≤ T) ∧ (0 ≤ f (p + 21) ∧ f (p + 21) ≤ 5) ∧ ∀ j : Int, 0 ≤ j → j < C q 6 → f (p + 3 * j + 24) = C (q + 1) j ∧ f (p + 3 * j + 25) = C (q + 2) j ∧ f (p + 3 * j + 26) = C (q + 3) j
def Cur (C : gM) (o : Int) (f : Int → Int) (N : Int) : Prop := HdR C o f N ∧ (∀ i : Int, 0 ≤ i → i < C o 3 → LfR C (4 * i + o + 4) f (32 * i) (C o 4)) ∧ ∀ i : Int, C o 3 ≤ i → i < 20 → ∀ r : Int, 16 ≤ r → r ≤ 22 → f (32 * i + r) = 0
section
variable {C C' : gM} {o N N' : Int} {f f' : Int → Int}
theorem Cur.dk (h : Cur C o f N) : DkOk C o N := by
  obtain ⟨⟨_, ⟨a3, a4, a5, a6⟩, _, ⟨s0, s1, s2, s3, s4⟩, ht⟩, hl, _⟩ := h
  exact ⟨a3, a4, a5, a6, s0, s1, s2, s3, s4, fun s hs => (ht s hs).2, fun i h0 h1 => (hl i h0 h1).1⟩
theorem Cur.mo (h : Cur C o f N) : MO f N := by
  obtain ⟨⟨⟨e0, e1, e2, e3⟩, ⟨a3, a4, a5, a6⟩, ⟨t0, t1, t2, t3, t4⟩, ⟨s0, s1, s2, s3, s4⟩, ht⟩, hl, hz⟩ := h
  refine ⟨by omega, by omega, by omega, by omega, by omega, by omega, by omega, by omega, by omega, fun s hs => by have := ht s hs; omega, fun i h0 h1 => ?_, fun i h0 h1 => ?_⟩
  · by_cases hi : i < C o 3
    · obtain ⟨⟨b0, b1, b2, b3, b4, b5, b6, b7, b8⟩, ⟨g0, g1, g2, g3, g4⟩, g5, g6, g7, g8, g9, g10⟩ := hl i h0 hi
      refine ⟨by omega, by omega, by omega, by omega, by omega, by omega, by omega, fun j a1 a2 => ?_⟩
      obtain ⟨k1, k2, k3⟩ := g10 j a1 (by omega)
      have := b8 j a1 (by omega)
      omega
    · have z0 := hz i (by omega) h1 16 (by omega) (by omega)
      have z1 := hz i (by omega) h1 17 (by omega) (by omega)
      have z2 := hz i (by omega) h1 18 (by omega) (by omega)
      have z3 := hz i (by omega) h1 19 (by omega) (by omega)
      have z4 := hz i (by omega) h1 20 (by omega) (by omega)
      have z5 := hz i (by omega) h1 21 (by omega) (by omega)
      have z6 := hz i (by omega) h1 22 (by omega) (by omega)
      exact ⟨by omega, by omega, by omega, by omega, by omega, by omega, by omega, fun j a1 a2 => by omega⟩
  · exact ⟨hz i (by omega) h1 18 (by omega) (by omega), hz i (by omega) h1 19 (by omega) (by omega)⟩
theorem LfR_p {q q' p p' T : Int} (e0 : ∀ j : Int, 0 ≤ j → j ≤ 6 → C' q' j = C q j) (e1 : ∀ j : Int, 0 ≤ j → j < 8 → C' (q' + 1) j = C (q + 1) j) (e2 : ∀ j : Int, 0 ≤ j → j < 8 → C' (q' + 2) j = C (q + 2) j) (e3 : ∀ j : Int, 0 ≤ j → j < 8 → C' (q' + 3) j = C (q + 3) j) (ef : ∀ r : Int, 16 ≤ r → r < 48 → f' (p' + r) = f (p + r)) (h : LfR C q f p T) : LfR C' q' f' p' T := by
  obtain ⟨⟨b0, b1, b2, b3, b4, b5, b6, b7, b8⟩, ⟨g0, g1, g2, g3, g4⟩, g5, g6, g7, g8, g9, g10⟩ := h
  have c0 := e0 0 (by omega) (by omega)
  have c1 := e0 1 (by omega) (by omega)
  have c2 := e0 2 (by omega) (by omega)
  have c3 := e0 3 (by omega) (by omega)
  have c4 := e0 4 (by omega) (by omega)
  have c5 := e0 5 (by omega) (by omega)
  have c6 := e0 6 (by omega) (by omega)
  have d0 := ef 16 (by omega) (by omega)
  have d1 := ef 17 (by omega) (by omega)
  have d2 := ef 18 (by omega) (by omega)
  have d3 := ef 19 (by omega) (by omega)
  have d4 := ef 20 (by omega) (by omega)
  have d5 := ef 21 (by omega) (by omega)
  have d6 := ef 22 (by omega) (by omega)
  refine ⟨⟨by omega, by omega, by omega, by omega, by omega, by omega, by omega, fun z => ?_, fun j a1 a2 => ?_⟩, ⟨by omega, by omega, by omega, by omega, by omega⟩, fun z => ?_, fun z => ?_, fun z => ?_, by omega, by omega, fun j a1 a2 => ?_⟩
  · have := b7 (by omega)
    omega
  · have := b8 j a1 (by omega)
    have x1 := e1 j a1 (by omega)
    have x2 := e2 j a1 (by omega)
    have x3 := e3 j a1 (by omega)
    omega
  · have := g5 (by omega)
    omega
  · have := g6 (by omega)
    omega
  · have := g7 (by omega)
    omega
  · obtain ⟨k1, k2, k3⟩ := g10 j a1 (by omega)
    have x1 := e1 j a1 (by omega)
    have x2 := e2 j a1 (by omega)
    have x3 := e3 j a1 (by omega)
    have y1 := ef (3 * j + 24) (by omega) (by omega)
    have y2 := ef (3 * j + 25) (by omega) (by omega)
    have y3 := ef (3 * j + 26) (by omega) (by omega)
    rw [show p' + (3 * j + 24) = p' + 3 * j + 24 by omega, show p + (3 * j + 24) = p + 3 * j + 24 by omega] at y1
    rw [show p' + (3 * j + 25) = p' + 3 * j + 25 by omega, show p + (3 * j + 25) = p + 3 * j + 25 by omega] at y2
    rw [show p' + (3 * j + 26) = p' + 3 * j + 26 by omega, show p + (3 * j + 26) = p + 3 * j + 26 by omega] at y3
    omega
theorem LfR_T {q p T T' : Int} (hT : T ≤ T') (h : LfR C q f p T) : LfR C q f p T' := by
  obtain ⟨⟨b0, b1, b2, b3, b4, b5, b6, b7, b8⟩, g0, g5, g6, g7, g8, g9, g10⟩ := h
  exact ⟨⟨b0, b1, b2, b3, by omega, by omega, b6, b7, fun j a1 a2 => by have := b8 j a1 a2; omega⟩, g0, g5, g6, g7, by omega, g9, g10⟩
theorem Cur_e (hN : N ≤ N') (e : ∀ a : Int, o ≤ a → a < o + 84 → C' a = C a) (ef : ∀ k : Int, 0 ≤ k → k < 656 → f' k = f k) (h : Cur C o f N) : Cur C' o f' N' := by
  obtain ⟨⟨h1, h2, h3, h4, h5⟩, hl, hz⟩ := h
  have eo := e o (by omega) (by omega)
  have eo1 := e (o + 1) (by omega) (by omega)
  have eo2 := e (o + 2) (by omega) (by omega)
  unfold Cur HdR
  rw [eo, eo1, eo2, ef 0 (by omega) (by omega), ef 1 (by omega) (by omega), ef 2 (by omega) (by omega), ef 3 (by omega) (by omega), ef 4 (by omega) (by omega), ef 5 (by omega) (by omega), ef 6 (by omega) (by omega), ef 7 (by omega) (by omega), ef 8 (by omega) (by omega)]
  refine ⟨⟨h1, by omega, h3, h4, fun s hs => ?_⟩, fun i a1 a2 => ?_, fun i a1 a2 r b1 b2 => ?_⟩
  · rw [ef _ (by omega) (by omega)]
    exact h5 s hs
  · exact LfR_p (fun j _ _ => by rw [e _ (by omega) (by omega)]) (fun j _ _ => by rw [e _ (by omega) (by omega)]) (fun j _ _ => by rw [e _ (by omega) (by omega)]) (fun j _ _ => by rw [e _ (by omega) (by omega)]) (fun r b1 b2 => ef _ (by omega) (by omega)) (hl i a1 a2)
  · rw [ef _ (by omega) (by omega)]
    exact hz i a1 a2 r b1 b2
/-- a desk copied -/
theorem Cur_cp {p : Int} (hd : o + 84 ≤ p ∨ p + 84 ≤ o) (h : Cur C p f N) : Cur (cpN C o p (C p 3)) o f N := by
  obtain ⟨⟨h1, h2, h3, h4, h5⟩, hl, hz⟩ := h
  have x3 : cpN C o p (C p 3) o 3 = C p 3 := cpN_o (by omega)
  have x4 : cpN C o p (C p 3) o 4 = C p 4 := cpN_o (by omega)
  have x5 : cpN C o p (C p 3) o 5 = C p 5 := cpN_o (by omega)
  have x6 : cpN C o p (C p 3) o 6 = C p 6 := cpN_o (by omega)
  have y : ∀ j : Int, 0 ≤ j → j < 5 → cpN C o p (C p 3) (o + 1) j = C (p + 1) j := fun j a1 a2 => by
    unfold cpN
    rw [if_neg (by omega), if_pos rfl]
    exact if_pos ⟨a1, a2⟩
  have z : ∀ j : Int, 0 ≤ j → j < 6 → cpN C o p (C p 3) (o + 2) j = C (p + 2) j := fun j a1 a2 => by
    unfold cpN
    rw [if_neg (by omega), if_neg (by omega), if_pos rfl]
    exact if_pos ⟨a1, a2⟩
  have l : ∀ i : Int, 0 ≤ i → i < C p 3 → ∀ x : Int, 0 ≤ x → x ≤ 3 → ∀ j : Int, 0 ≤ j → (j < 7 ∨ (1 ≤ x ∧ j < 8)) → cpN C o p (C p 3) (4 * i + o + 4 + x) j = C (4 * i + p + 4 + x) j := fun i a1 a2 x b1 b2 j c1 c2 => by
    rw [cpN_life (by omega), show p + (4 * i + o + 4 + x - o) = 4 * i + p + 4 + x by omega]
    refine if_pos ⟨c1, ?_⟩
    by_cases hx : (4 * i + o + 4 + x - o) % 4 = 0
    · rw [if_pos hx]
      omega
    · rw [if_neg hx]
      omega
  have y0 := y 0 (by omega) (by omega)
  have y1 := y 1 (by omega) (by omega)
  have y2 := y 2 (by omega) (by omega)
  have y3 := y 3 (by omega) (by omega)
  have y4 := y 4 (by omega) (by omega)
  unfold Cur HdR
  rw [x3, x4, x5, x6, y0, y1, y2, y3, y4]
  refine ⟨⟨h1, h2, h3, h4, fun s hs => ?_⟩, fun i a1 a2 => ?_, hz⟩
  · rw [z s hs.1 (by omega)]
    exact h5 s hs
  · refine LfR_p (fun j b1 b2 => ?_) (fun j b1 b2 => l i a1 a2 1 (by omega) (by omega) j b1 (by omega)) (fun j b1 b2 => l i a1 a2 2 (by omega) (by omega) j b1 (by omega)) (fun j b1 b2 => l i a1 a2 3 (by omega) (by omega) j b1 (by omega)) (fun r _ _ => rfl) (hl i a1 a2)
    have := l i a1 a2 0 (by omega) (by omega) j b1 (by omega)
    rwa [Int.add_zero, Int.add_zero] at this
end
/-! what both sides reckon -/
section
variable {C : gM} {o N q i d j : Int} {f : Int → Int}
theorem c_fst (h : Cur C o f N) (hi : 0 ≤ i ∧ i < C o 3) (hq : 4 * i + o + 4 = q) (hj : 0 ≤ j ∧ j < C q 6) : mFst f i d j = fst C o q d j := by
  subst hq
  have hL := h.2.1 i hi.1 hi.2
  obtain ⟨g1, g2, g3⟩ := hL.2.2.2.2.2.2.2 j hj.1 hj.2
  have hb := (hL.1.2.2.2.2.2.2.2.2 j hj.1 hj.2).1
  unfold mFst fst
  rw [g1, g3, (h.1.2.2.2.2 _ hb).1, h.1.2.2.1.2.2.1]
theorem c_st (h : Cur C o f N) (hi : 0 ≤ i ∧ i < C o 3) (hq : 4 * i + o + 4 = q) : mSt f i d = staleN C o q d := by
  have hL := h.2.1 i hi.1 hi.2
  rw [hq] at hL
  unfold mSt staleN
  rw [hL.2.1.2.2.2.1]
  exact smI_congr (fun j a1 a2 => c_fst h hi hq ⟨a1, a2⟩)
theorem c_urg (h : Cur C o f N) (hi : 0 ≤ i ∧ i < C o 3) (hq : 4 * i + o + 4 = q) : mUrg f i = urg C o q := by
  have hL := h.2.1 i hi.1 hi.2
  rw [hq] at hL
  unfold mUrg urg
  rw [c_st h hi hq, hL.2.1.1, hL.2.1.2.1, hL.2.1.2.2.2.1, h.1.1.1]
theorem c_ln (h : Cur C o f N) (hi : 0 ≤ i ∧ i < C o 3) (hq : 4 * i + o + 4 = q) : mLn f i = smI (C (q + 2)) (C q 6) := by
  have hL := h.2.1 i hi.1 hi.2
  rw [hq] at hL
  unfold mLn
  rw [hL.2.1.2.2.2.1]
  exact smI_congr (fun j a1 a2 => (hL.2.2.2.2.2.2.2 j a1 a2).2.1)
theorem c_src (h : Cur C o f N) (hi : 0 ≤ i ∧ i < C o 3) (hq : 4 * i + o + 4 = q) : mSrc f i = pcI (mkI (C (q + 1)) (C q 6)) := by
  have hL := h.2.1 i hi.1 hi.2
  rw [hq] at hL
  unfold mSrc
  rw [hL.2.1.2.2.2.1, mkI_congr (fun j a1 a2 => (hL.2.2.2.2.2.2.2 j a1 a2).1)]
theorem c_rdy (h : Cur C o f N) (hi : 0 ≤ i ∧ i < C o 3) : mRdy f i ↔ rdy C o i := by
  unfold mRdy rdy
  rw [c_src h hi rfl, c_st h hi rfl, h.1.2.2.1.2.2.2.1, h.1.1.1]
theorem c_chk (h : Cur C o f N) (hi : 0 ≤ i ∧ i < C o 3) (hq : 4 * i + o + 4 = q) (hj : 0 ≤ j ∧ j < C q 6) : mChk f i j ↔ toChk C o q j := by
  have hL := h.2.1 i hi.1 hi.2
  rw [hq] at hL
  unfold mChk toChk
  rw [c_fst h hi hq hj, (hL.2.2.2.2.2.2.2 j hj.1 hj.2).2.2, h.1.1.1]
theorem c_due (h : Cur C o f N) (hi : 0 ≤ i ∧ i < C o 3) : mDue f i ↔ due C o i := by
  have hL := h.2.1 i hi.1 hi.2
  unfold mDue due
  rw [hL.2.1.2.2.1, hL.2.1.2.2.2.1]
  constructor
  · rintro ⟨h1, j, h2, h3, h4⟩
    exact ⟨h1, j, h2, h3, (c_chk h hi rfl ⟨h2, h3⟩).mp h4⟩
  · rintro ⟨h1, j, h2, h3, h4⟩
    exact ⟨h1, j, h2, h3, (c_chk h hi rfl ⟨h2, h3⟩).mpr h4⟩
end
/-- all but the state of now: the history, the snapshot, the text -/
def Rest (C S : gM) (N : Int) : Prop := ((0 ≤ C 169 1 ∧ C 169 1 < 4) ∧ (0 ≤ C 169 2 ∧ C 169 2 ≤ 4) ∧ S 578 9 = C 169 2) ∧ (∀ h : Int, 0 ≤ h → h < C 169 2 → Cur C (hat (C 169 1) h) (fun k => S 580 (656 * h + k)) N) ∧ ((C 0 2 = 0 ∨ C 0 2 = 1) ∧ S 578 10 = C 0 2 ∧ (C 0 2 = 1 → Cur C 85 (S 581) N) ∧ (0 ≤ C 85 3 ∧ C 85 3 ≤ 20)) ∧ (TxB (C 508) (C 507 1) ∧ S 584 = C 508 ∧ S 578 8 = C 507 1 ∧ (0 ≤ C 507 4 ∧ C 507 4 ≤ 60) ∧ (0 ≤ S 578 12 ∧ S 578 12 ≤ 60))
def JJ (C S : gM) (N : Int) : Prop := Cur C 1 (S 579) N ∧ Rest C S N
section
variable {C C' S S' : gM} {N N' : Int}
theorem Rest_e (hN : N ≤ N') (h : Rest C S N) (e : ∀ a : Int, 85 ≤ a → a < 507 → C' a = C a) (e0 : C' 0 2 = C 0 2) (e508 : C' 508 = C 508) (e1 : C' 507 1 = C 507 1) (e4 : 0 ≤ C' 507 4 ∧ C' 507 4 ≤ 60) (s580 : S' 580 = S 580) (s581 : S' 581 = S 581) (s584 : S' 584 = S 584) (s8 : S' 578 8 = S 578 8) (s9 : S' 578 9 = S 578 9) (s10 : S' 578 10 = S 578 10) (s12 : 0 ≤ S' 578 12 ∧ S' 578 12 ≤ 60) : Rest C' S' N' := by
  obtain ⟨h1, h2, ⟨h3, h4, h5, h6⟩, h7, h8, h9, h10, h11⟩ := h
  have e169 := e 169 (by omega) (by omega)
  have e85 := e 85 (by omega) (by omega)
  unfold Rest
  rw [e169, e85, e0, e508, e1, s580, s581, s584, s8, s9, s10]
  refine ⟨h1, fun h a1 a2 => ?_, ⟨h3, h4, fun z => ?_, h6⟩, h7, h8, h9, e4, s12⟩
  · have hb := hat_b (C 169 1) h
    exact Cur_e hN (fun a b1 b2 => e a (by omega) (by omega)) (fun _ _ _ => rfl) (h2 h a1 a2)
  · exact Cur_e hN (fun a b1 b2 => e a (by omega) (by omega)) (fun _ _ _ => rfl) (h5 z)
theorem hat_ne {f h g : Int} (h1 : 0 ≤ h ∧ h < 4) (h2 : 0 ≤ g ∧ g < 4) (h3 : h ≠ g) : hat f h + 84 ≤ hat f g ∨ hat f g + 84 ≤ hat f h := by
  unfold hat
  omega
/-- a state recorded on both sides -/
theorem rem_J (h : JJ C S N) : JJ (remC C) (recS S) N := by
  obtain ⟨hc, hr⟩ := h
  have h3 : 0 ≤ C 1 3 ∧ C 1 3 ≤ 20 := hc.1.2.1.1
  have ag := remC_ag h3
  have e579 : recS S 579 = S 579 := recS_out (by omega)
  refine ⟨by rw [e579]; exact Cur_e (by omega) ag (fun _ _ _ => rfl) hc, ?_⟩
  obtain ⟨⟨a1, a2, a3⟩, h2, ⟨h3', h4, h5, h6⟩, h7, h8, h9, h10, h11⟩ := hr
  have hf : 0 ≤ hfst C ∧ hfst C < 4 := by unfold hfst; split <;> omega
  have hs : 0 ≤ hsz C ∧ hsz C < 4 := by unfold hsz; split <;> omega
  have hb := hat_b (hfst C) (hsz C)
  have c1 : remC C 169 1 = hfst C := by
    unfold remC
    rw [rd_i (by omega), cpN_out (by omega) h3.1, rd_i (by omega), rd_hit rfl rfl]
  have c2 : remC C 169 2 = hsz C + 1 := by
    unfold remC
    rw [rd_hit rfl rfl]
  have s9 : recS S 578 9 = recH S + 1 := by
    unfold recS
    rw [rd_hit rfl rfl]
  have hH : recH S = hsz C := by
    unfold recH hsz
    rw [a3]
    by_cases c : C 169 2 = 4
    · rw [if_pos c, if_neg (by omega)]
    · rw [if_neg c, if_pos (by omega)]
  have o0 : remC C 0 = C 0 := remC_out (by omega) h3
  have o85 : ∀ a : Int, 85 ≤ a → a < 169 → remC C a = C a := fun a _ _ => remC_out (by omega) h3
  have o507 : remC C 507 = C 507 := remC_out (by omega) h3
  have o508 : remC C 508 = C 508 := remC_out (by omega) h3
  have s581 : recS S 581 = S 581 := recS_out (by omega)
  have s584 : recS S 584 = S 584 := recS_out (by omega)
  have s8 : recS S 578 8 = S 578 8 := recS_578 (by omega)
  have s10 : recS S 578 10 = S 578 10 := recS_578 (by omega)
  have s12 : recS S 578 12 = S 578 12 := recS_578 (by omega)
  have e85 := o85 85 (by omega) (by omega)
  unfold Rest
  rw [c1, c2, s9, hH, o0, e85, o507, o508, s581, s584, s8, s10, s12]
  refine ⟨⟨hf, by omega, rfl⟩, fun h b1 b2 => ?_, ⟨h3', h4, fun z => Cur_e (by omega) (fun a x1 x2 => o85 a x1 (by omega)) (fun _ _ _ => rfl) (h5 z), h6⟩, h7, h8, h9, h10, h11⟩
  have row : ∀ k : Int, 0 ≤ k → k < 656 → recS S 580 (656 * hsz C + k) = S 579 k := fun k x1 x2 => by
    unfold recS
    rw [up2_ne _ _ _ (by omega)]
    unfold cpB
    rw [if_pos rfl, hH, if_pos (by omega)]
    unfold recB
    by_cases c : S 578 9 = 4
    · rw [if_pos c, up2_ne _ _ _ (by omega), shf_ne (by omega), show 656 * hsz C + k - 656 * hsz C = k by omega]
    · rw [if_neg c, show 656 * hsz C + k - 656 * hsz C = k by omega]
  by_cases hh : h = hsz C
  · subst hh
    have key := Cur_cp (C := up2 (up2 C 169 1 (hfst C)) 169 2 (hsz C)) (o := hat (hfst C) (hsz C)) (p := 1) (f := S 579) (N := N) (by omega) (Cur_e (by omega) (fun a x1 x2 => by rw [up2_ne _ _ _ (by omega), up2_ne _ _ _ (by omega)]) (fun _ _ _ => rfl) hc)
    rw [rd_k (by omega), rd_k (by omega)] at key
    refine Cur_e (by omega) (fun a x1 x2 => ?_) (fun k x1 x2 => row k x1 x2) key
    unfold remC
    rw [up2_ne _ _ _ (by omega)]
  · -- an elder state, at its place
    have hg : 0 ≤ h ∧ h < hsz C := by omega
    have place : ∀ a : Int, hat (hfst C) h ≤ a → a < hat (hfst C) h + 84 → remC C a = C a := fun a x1 x2 => by
      have y1 := hat_ne (f := hfst C) (h := h) (g := hsz C) (by omega) hs (by omega)
      have y2 := hat_b (hfst C) h
      unfold remC
      rw [up2_ne _ _ _ (by omega)]
      have : cpN (up2 (up2 C 169 1 (hfst C)) 169 2 (hsz C)) (hat (hfst C) (hsz C)) 1 (C 1 3) a = up2 (up2 C 169 1 (hfst C)) 169 2 (hsz C) a := by
        rcases y1 with y1 | y1
        · exact cpN_out (by omega) h3.1
        · exact cpN_out (by omega) h3.1
      rw [this, up2_ne _ _ _ (by omega), up2_ne _ _ _ (by omega)]
    by_cases c : C 169 2 < 4
    · have f1 : hfst C = C 169 1 := if_pos c
      have f2 : hsz C = C 169 2 := if_pos c
      rw [f1] at place ⊢
      refine Cur_e (by omega) place (fun k x1 x2 => ?_) (h2 h b1 (by omega))
      show recS S 580 (656 * h + k) = S 580 (656 * h + k)
      unfold recS
      rw [up2_ne _ _ _ (by omega)]
      unfold cpB recB
      rw [if_pos rfl, hH, if_neg (by omega), if_neg (by omega)]
    · have f1 : hfst C = (C 169 1 + 1) % 4 := if_neg c
      have f2 : hsz C = 3 := if_neg c
      have f3 : hat (hfst C) h = hat (C 169 1) (h + 1) := by
        rw [f1]
        unfold hat
        omega
      rw [f3] at place ⊢
      refine Cur_e (by omega) place (fun k x1 x2 => ?_) (h2 (h + 1) (by omega) (by omega))
      show recS S 580 (656 * h + k) = S 580 (656 * (h + 1) + k)
      unfold recS
      rw [up2_ne _ _ _ (by omega)]
      unfold cpB recB
      rw [if_pos rfl, hH, if_neg (by omega), if_pos (by omega), up2_ne _ _ _ (by omega)]
      unfold shf
      rw [if_pos rfl, if_pos (by omega), show 656 * h + k + 656 = 656 * (h + 1) + k by omega]
end
