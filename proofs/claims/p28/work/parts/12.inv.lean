theorem nw0 : (.methodLinkNest RX0 24 yX2_init RX6 : Cond) ∈ nestW := List.mem_of_getElem? (i := 0) rfl
theorem nw1 : (.methodLinkNest RX4 21 yX2_init RX6 : Cond) ∈ nestW := List.mem_of_getElem? (i := 1) rfl
theorem nw2 : (.methodLinkNest RX6 35 yX5_init RX6 : Cond) ∈ nestW := List.mem_of_getElem? (i := 2) rfl
theorem nw3 : (.methodLinkNest RX6 42 yX3_init RX6 : Cond) ∈ nestW := List.mem_of_getElem? (i := 3) rfl
theorem nw4 : (.methodLinkNest RX3 11 yX5_init RX6 : Cond) ∈ nestW := List.mem_of_getElem? (i := 4) rfl
theorem nw5 : (.methodLinkNest RX0 74 yX6_isSource RX6 : Cond) ∈ nestW := List.mem_of_getElem? (i := 5) rfl
theorem nw6 : (.methodLinkNest RX0 70 yX6_isSetting RX6 : Cond) ∈ nestW := List.mem_of_getElem? (i := 6) rfl
/-! what holds of a life and of a desk; what is reckoned from them -/
def LfOk (C : gM) (q T : Int) : Prop := (0 ≤ C q 0 ∧ C q 0 ≤ 110) ∧ (1 ≤ C q 1 ∧ C q 1 ≤ 9) ∧ (0 ≤ C q 2 ∧ C q 2 ≤ 3) ∧ (-5 ≤ C q 3 ∧ C q 3 ≤ 5) ∧ (-5 ≤ C q 4 ∧ C q 4 ≤ T) ∧ (-5 ≤ C q 5 ∧ C q 5 ≤ T) ∧ (0 ≤ C q 6 ∧ C q 6 ≤ 8) ∧ (C q 2 ≠ 0 → 0 ≤ C q 4) ∧ ∀ j : Int, 0 ≤ j → j < C q 6 → (0 ≤ C (q + 1) j ∧ C (q + 1) j ≤ 5) ∧ (1 ≤ C (q + 2) j ∧ C (q + 2) j ≤ 9) ∧ (0 ≤ C (q + 3) j ∧ C (q + 3) j ≤ T)
def DkOk (C : gM) (o N : Int) : Prop := (0 ≤ C o 3 ∧ C o 3 ≤ 20) ∧ (0 ≤ C o 4 ∧ C o 4 ≤ N) ∧ (0 ≤ C o 5 ∧ C o 5 ≤ 24) ∧ (0 ≤ C o 6 ∧ C o 6 ≤ N) ∧ (1 ≤ C (o + 1) 0 ∧ C (o + 1) 0 ≤ 24) ∧ (10 ≤ C (o + 1) 1 ∧ C (o + 1) 1 ≤ 200) ∧ (0 ≤ C (o + 1) 2 ∧ C (o + 1) 2 ≤ 100) ∧ (1 ≤ C (o + 1) 3 ∧ C (o + 1) 3 ≤ 3) ∧ (1 ≤ C (o + 1) 4 ∧ C (o + 1) 4 ≤ 9) ∧ (∀ s : Int, 0 ≤ s ∧ s ≤ 5 → 0 ≤ C (o + 2) s ∧ C (o + 2) s ≤ 100) ∧ ∀ i : Int, 0 ≤ i → i < C o 3 → LfOk C (4 * i + o + 4) (C o 4)
/-- 1 if the fact j is stale on the day d -/
def fst (C : gM) (o q d j : Int) : Int := stI (WF (C (o + 2) (C (q + 1) j)) (d - C (q + 3) j)) (wf (C (o + 1) 2) 0)
def staleN (C : gM) (o q d : Int) : Int := smI (fst C o q d) (C q 6)
theorem fst_b (C : gM) (o q d j : Int) : 0 ≤ fst C o q d j ∧ fst C o q d j ≤ 1 := stI_b _ _
theorem staleN_b (C : gM) (o q d : Int) (h : 0 ≤ C q 6 ∧ C q 6 ≤ 8) : 0 ≤ staleN C o q d ∧ staleN C o q d ≤ 8 := by
  have := smI_le (f := fst C o q d) (n := C q 6) (a := 0) (c := 1) h.1 (fun j _ _ => fst_b C o q d j)
  unfold staleN
  omega
def urg (C : gM) (o q : Int) : Int := C q 0 + 10 * C q 1 + 5 * staleN C o q (C o 4) + (if C q 6 = 0 then 40 else 0)
def toChk (C : gM) (o q j : Int) : Prop := C (q + 3) j ≠ C o 4 ∧ fst C o q (C o 4) j = 1
/-- the first place below n of a kind, or -5 -/
def isFirst (P : Int → Prop) (n v : Int) : Prop := (v = -5 ∧ ∀ j, 0 ≤ j → j < n → ¬ P j) ∨ (0 ≤ v ∧ v < n ∧ P v ∧ ∀ j, 0 ≤ j → j < v → ¬ P j)
theorem isFirst_uniq {P P' : Int → Prop} {n v v' : Int} (hP : ∀ j, 0 ≤ j → j < n → (P j ↔ P' j)) (h : isFirst P n v) (h' : isFirst P' n v') : v = v' := by
  rcases h with ⟨h1, h2⟩ | ⟨h1, h2, h3, h4⟩ <;> rcases h' with ⟨g1, g2⟩ | ⟨g1, g2, g3, g4⟩
  · omega
  · exact absurd ((hP v' g1 g2).mpr g3) (h2 v' g1 g2)
  · exact absurd ((hP v h1 h2).mp h3) (g2 v h1 h2)
  · rcases Int.lt_trichotomy v v' with h | h | h
    · exact absurd ((hP v h1 h2).mp h3) (g4 v h1 h)
    · exact h
    · exact absurd ((hP v' g1 g2).mpr g3) (h4 v' g1 h)
/-- the greatest key among those of a kind, of several the lowest place; -5 if there is none -/
def isBest (P : Int → Prop) (f : Int → Int) (n v : Int) : Prop := (v = -5 ∧ ∀ j, 0 ≤ j → j < n → ¬ P j) ∨ (0 ≤ v ∧ v < n ∧ P v ∧ ∀ j, 0 ≤ j → j < n → P j → f j < f v ∨ (f j = f v ∧ v ≤ j))
theorem isBest_uniq {P P' : Int → Prop} {f f' : Int → Int} {n v v' : Int} (hP : ∀ j, 0 ≤ j → j < n → (P j ↔ P' j)) (hf : ∀ j, 0 ≤ j → j < n → P j → f j = f' j) (h : isBest P f n v) (h' : isBest P' f' n v') : v = v' := by
  rcases h with ⟨h1, h2⟩ | ⟨h1, h2, h3, h4⟩ <;> rcases h' with ⟨g1, g2⟩ | ⟨g1, g2, g3, g4⟩
  · omega
  · exact absurd ((hP v' g1 g2).mpr g3) (h2 v' g1 g2)
  · exact absurd ((hP v h1 h2).mp h3) (g2 v h1 h2)
  · have a1 := h4 v' g1 g2 ((hP v' g1 g2).mpr g3)
    have a2 := g4 v h1 h2 ((hP v h1 h2).mp h3)
    have e1 := hf v h1 h2 h3
    have e2 := hf v' g1 g2 ((hP v' g1 g2).mpr g3)
    omega
/-- the order of the desk's own: old deaths taken back, of the first n -/
def tbk (C : gM) (o n : Int) : gM := fun a j => if (o + 4 ≤ a ∧ a < o + 4 + 4 * n ∧ (a - o) % 4 = 0 ∧ C a 2 = 1 ∧ C a 4 + C (o + 1) 4 ≤ C o 4 + 1) ∧ (j = 2 ∨ j = 3 ∨ j = 4) then (if j = 2 then 0 else -5) else C a j
theorem ite_c {c d : Prop} [Decidable c] [Decidable d] {u v : Int} (h : c ↔ d) : (if c then u else v) = (if d then u else v) := by
  by_cases hc : c
  · rw [if_pos hc, if_pos (h.mp hc)]
  · rw [if_neg hc, if_neg (fun z => hc (h.mpr z))]
theorem tbk_out {C : gM} {o n a j : Int} (h : a < o + 4 ∨ o + 4 + 4 * n ≤ a) : tbk C o n a j = C a j := by
  unfold tbk
  rw [if_neg (by omega)]
theorem tbk_0 (C : gM) (o : Int) : tbk C o 0 = C := by
  funext a j
  exact tbk_out (by omega)
theorem tbk_s0 {C : gM} {o i : Int} (h : ¬ (C (4 * i + o + 4) 2 = 1 ∧ C (4 * i + o + 4) 4 + C (o + 1) 4 ≤ C o 4 + 1)) : tbk C o i = tbk C o (i + 1) := by
  funext a j
  unfold tbk
  by_cases ha : a = 4 * i + o + 4
  · subst ha
    rw [if_neg (by omega), if_neg (by omega)]
  · exact ite_c (by omega)
theorem tbk_s1 {C : gM} {o i : Int} (hi : 0 ≤ i) (h : C (4 * i + o + 4) 2 = 1) (h' : C (4 * i + o + 4) 4 + C (o + 1) 4 ≤ C o 4 + 1) : up2 (up2 (up2 (tbk C o i) (4 * i + o + 4) 2 0) (4 * i + o + 4) 3 (-5)) (4 * i + o + 4) 4 (-5) = tbk C o (i + 1) := by
  funext a j
  by_cases ha : a = 4 * i + o + 4
  · subst ha
    rw [rd_at, rd_at, rd_at, tbk_out (by omega)]
    unfold tbk
    by_cases h4 : j = 4
    · rw [if_pos h4, if_pos (by omega), if_neg (by omega)]
    · rw [if_neg h4]
      by_cases h3 : j = 3
      · rw [if_pos h3, if_pos (by omega), if_neg (by omega)]
      · rw [if_neg h3]
        by_cases h2 : j = 2
        · rw [if_pos h2, if_pos (by omega), if_pos h2]
        · rw [if_neg h2, if_neg (by omega)]
  · rw [rd_k ha, rd_k ha, rd_k ha]
    exact ite_c (by omega)
def bgn (C : gM) (q u t : Int) : gM := up2 (up2 (up2 (up2 (up2 (up2 (up2 C q 0 u) q 1 t) q 5 (-5)) q 6 0) q 2 0) q 3 (-5)) q 4 (-5)
section
variable {x : gX} {G : gG} {b cl sl nL : Nat} {own nm Cn : String} {cc : ByteArray} {rm : Room} {pc : Nat} {lv : List (Nat × Value)} {st : List Value} {C S : gM}
def RV (G : gG) (b : Nat) (C S : gM) (Q : Value → Prop) : gP := fun r n w => ∃ v : Value, r = some v ∧ n = 578 ∧ w = wM G b C S ∧ Q v
theorem m_rv (hB : Bx x G b own cc nL (some (.object Cn)) rm nm) {Q : Value → Prop} {v : Value} (hE : Ex x G b (RV G b C S Q) cl sl) (d : decode cc pc = .ok (.areturn, 1)) (hv : v = .null ∨ ∃ a, v = .ref a) (hq : Q v) : YM x G b cl sl C S pc lv [v] := y_aret hB hE d hv ⟨v, rfl, rfl, rfl, hq⟩
theorem k_RV {Q : Value → Prop} (kk : ∀ v : Value, Q v → YM x G b cl sl C S pc lv (v :: st)) : ∀ (r : Option Value) (n' : Int) (w' : Int → va_E), RV G b C S Q r n' w' → Y x G b cl sl n' w' pc lv (r.toList ++ st) := by
  rintro r n' w' ⟨v, rfl, rfl, rfl, hq⟩
  exact kk v hq
end
theorem isBest_no {P : Int → Prop} {f : Int → Int} {i v : Int} (h : isBest P f i v) (hi : 0 ≤ i) (hp : ¬ P i) : isBest P f (i + 1) v := by
  rcases h with ⟨h1, h2⟩ | ⟨h1, h2, h3, h4⟩
  · refine Or.inl ⟨h1, fun j a1 a2 => ?_⟩
    rcases (show j < i ∨ j = i by omega) with a3 | a3
    · exact h2 j a1 a3
    · rw [a3]; exact hp
  · refine Or.inr ⟨h1, by omega, h3, fun j a1 a2 a4 => ?_⟩
    rcases (show j < i ∨ j = i by omega) with a3 | a3
    · exact h4 j a1 a3 a4
    · rw [a3] at a4; exact absurd a4 hp
theorem isBest_old {P : Int → Prop} {f : Int → Int} {i v : Int} (h : isBest P f i v) (hi : 0 ≤ i) (hv : 0 ≤ v) (hf : f i ≤ f v) : isBest P f (i + 1) v := by
  rcases h with ⟨h1, h2⟩ | ⟨h1, h2, h3, h4⟩
  · omega
  · refine Or.inr ⟨h1, by omega, h3, fun j a1 a2 a4 => ?_⟩
    rcases (show j < i ∨ j = i by omega) with a3 | a3
    · exact h4 j a1 a3 a4
    · subst a3; omega
theorem isBest_new {P : Int → Prop} {f : Int → Int} {i v : Int} (h : isBest P f i v) (hi : 0 ≤ i) (hp : P i) (hf : v = -5 ∨ f v < f i) : isBest P f (i + 1) i := by
  refine Or.inr ⟨hi, by omega, hp, fun j a1 a2 a4 => ?_⟩
  rcases (show j < i ∨ j = i by omega) with a3 | a3
  · rcases h with ⟨h1, h2⟩ | ⟨h1, h2, h3, h4⟩
    · exact absurd a4 (h2 j a1 a3)
    · have := h4 j a1 a3 a4
      omega
  · subst a3; omega
theorem isBest_0 (P : Int → Prop) (f : Int → Int) : isBest P f 0 (-5) := Or.inl ⟨rfl, fun j a1 a2 => by omega⟩
/-- a person who is alive and has a fact to check -/
def due (C : gM) (o i : Int) : Prop := C (4 * i + o + 4) 2 = 0 ∧ ∃ j : Int, 0 ≤ j ∧ j < C (4 * i + o + 4) 6 ∧ toChk C o (4 * i + o + 4) j
def urgP (C : gM) (o i : Int) : Int := urg C o (4 * i + o + 4)
theorem due_iff {C : gM} {o i v : Int} (h : isFirst (toChk C o (4 * i + o + 4)) (C (4 * i + o + 4) 6) v) (hs : C (4 * i + o + 4) 2 = 0) : due C o i ↔ v ≠ -5 := by
  rcases h with ⟨h1, h2⟩ | ⟨h1, h2, h3, h4⟩
  · exact ⟨fun ⟨_, j, a1, a2, a3⟩ => absurd a3 (h2 j a1 a2), fun z => absurd h1 z⟩
  · exact ⟨fun _ => by omega, fun _ => ⟨hs, v, h1, h2, h3⟩⟩
theorem urg_b {C : gM} {o q T : Int} (h : LfOk C q T) : 0 ≤ urg C o q ∧ urg C o q ≤ 1000 := by
  obtain ⟨h0, h1, h2, h3, h4, h5, h6, -⟩ := h
  have := staleN_b C o q (C o 4) h6
  unfold urg
  split <;> omega
/-- a desk like another one, in its lives the first n -/
def cpN (C : gM) (o p n : Int) : gM := fun a => if a = o then (fun j => if 3 ≤ j ∧ j ≤ 6 then C p j else C o j) else if a = o + 1 then cpI (C (p + 1)) (C (o + 1)) 5 else if a = o + 2 then cpI (C (p + 2)) (C (o + 2)) 6 else if o + 4 ≤ a ∧ a < o + 4 + 4 * n then cpI (C (p + (a - o))) (C a) (if (a - o) % 4 = 0 then 7 else 8) else C a
theorem cpN_o {C : gM} {o p n j : Int} (h : 3 ≤ j ∧ j ≤ 6) : cpN C o p n o j = C p j := by
  unfold cpN
  rw [if_pos rfl, if_pos h]
theorem cpN_out {C : gM} {o p n a : Int} (h : a < o ∨ a = o + 3 ∨ o + 4 + 4 * n ≤ a) (hn : 0 ≤ n) : cpN C o p n a = C a := by
  unfold cpN
  rw [if_neg (by omega), if_neg (by omega), if_neg (by omega), if_neg (by omega)]
theorem cpN_life {C : gM} {o p n a : Int} (h : o + 4 ≤ a ∧ a < o + 4 + 4 * n) : cpN C o p n a = cpI (C (p + (a - o))) (C a) (if (a - o) % 4 = 0 then 7 else 8) := by
  unfold cpN
  rw [if_neg (by omega), if_neg (by omega), if_neg (by omega), if_pos h]
theorem cpN_s {C : gM} {o p i : Int} (hi : 0 ≤ i ∧ i < 20) (hd : o + 84 ≤ p ∨ p + 84 ≤ o) : cpL (cpN C o p i) (4 * i + o + 4) (4 * i + p + 4) = cpN C o p (i + 1) := by
  funext a
  unfold cpL
  have A : cpN C o p i (4 * i + p + 4) = C (4 * i + p + 4) := cpN_out (by omega) (by omega)
  have A1 : cpN C o p i (4 * i + p + 4 + 1) = C (4 * i + p + 4 + 1) := cpN_out (by omega) (by omega)
  have A2 : cpN C o p i (4 * i + p + 4 + 2) = C (4 * i + p + 4 + 2) := cpN_out (by omega) (by omega)
  have A3 : cpN C o p i (4 * i + p + 4 + 3) = C (4 * i + p + 4 + 3) := cpN_out (by omega) (by omega)
  have B : cpN C o p i (4 * i + o + 4) = C (4 * i + o + 4) := cpN_out (by omega) (by omega)
  have B1 : cpN C o p i (4 * i + o + 4 + 1) = C (4 * i + o + 4 + 1) := cpN_out (by omega) (by omega)
  have B2 : cpN C o p i (4 * i + o + 4 + 2) = C (4 * i + o + 4 + 2) := cpN_out (by omega) (by omega)
  have B3 : cpN C o p i (4 * i + o + 4 + 3) = C (4 * i + o + 4 + 3) := cpN_out (by omega) (by omega)
  by_cases h0 : a = 4 * i + o + 4
  · subst h0
    rw [if_pos rfl, A, B, cpN_life (n := i + 1) (by omega), if_pos (by omega), show p + (4 * i + o + 4 - o) = 4 * i + p + 4 by omega]
  · rw [if_neg h0]
    by_cases h1 : a = 4 * i + o + 4 + 1
    · subst h1
      rw [if_pos rfl, A1, B1, cpN_life (n := i + 1) (by omega), if_neg (by omega), show p + (4 * i + o + 4 + 1 - o) = 4 * i + p + 4 + 1 by omega]
    · rw [if_neg h1]
      by_cases h2 : a = 4 * i + o + 4 + 2
      · subst h2
        rw [if_pos rfl, A2, B2, cpN_life (n := i + 1) (by omega), if_neg (by omega), show p + (4 * i + o + 4 + 2 - o) = 4 * i + p + 4 + 2 by omega]
      · rw [if_neg h2]
        by_cases h3 : a = 4 * i + o + 4 + 3
        · subst h3
          rw [if_pos rfl, A3, B3, cpN_life (n := i + 1) (by omega), if_neg (by omega), show p + (4 * i + o + 4 + 3 - o) = 4 * i + p + 4 + 3 by omega]
        · rw [if_neg h3]
          unfold cpN
          by_cases g0 : a = o
          · rw [if_pos g0, if_pos g0]
          · rw [if_neg g0, if_neg g0]
            by_cases g1 : a = o + 1
            · rw [if_pos g1, if_pos g1]
            · rw [if_neg g1, if_neg g1]
              by_cases g2 : a = o + 2
              · rw [if_pos g2, if_pos g2]
              · rw [if_neg g2, if_neg g2]
                by_cases g3 : o + 4 ≤ a ∧ a < o + 4 + 4 * i
                · rw [if_pos g3, if_pos (show o + 4 ≤ a ∧ a < o + 4 + 4 * (i + 1) by omega)]
                · rw [if_neg g3, if_neg (show ¬ (o + 4 ≤ a ∧ a < o + 4 + 4 * (i + 1)) by omega)]
def cdA (C : gM) (o p : Int) : gM := upA C (o + 1) (cpI (C (p + 1)) (C (o + 1)) 5)
def cdB (C : gM) (o p : Int) : gM := upA (cdA C o p) (o + 2) (cpI (cdA C o p (p + 2)) (cdA C o p (o + 2)) 6)
def cdC (C : gM) (o p : Int) : gM := up2 (up2 (up2 (up2 (cdB C o p) o 3 (cdB C o p p 3)) o 4 (cdB C o p p 4)) o 5 (cdB C o p p 5)) o 6 (cdB C o p p 6)
theorem cdC_eq (C : gM) {o p : Int} (hd : o + 84 ≤ p ∨ p + 84 ≤ o) : cdC C o p = cpN C o p 0 := by
  have ep : cdB C o p p = C p := by
    unfold cdB cdA
    rw [upA_ne _ _ (by omega), upA_ne _ _ (by omega)]
  funext a
  unfold cpN
  by_cases g0 : a = o
  · subst g0
    rw [if_pos rfl]
    funext j
    unfold cdC
    rw [rd_at, rd_at, rd_at, rd_at, ep]
    unfold cdB cdA
    rw [upA_ne _ _ (by omega), upA_ne _ _ (by omega)]
    by_cases h6 : j = 6
    · rw [if_pos h6, if_pos (by omega), h6]
    · rw [if_neg h6]
      by_cases h5 : j = 5
      · rw [if_pos h5, if_pos (by omega), h5]
      · rw [if_neg h5]
        by_cases h4 : j = 4
        · rw [if_pos h4, if_pos (by omega), h4]
        · rw [if_neg h4]
          by_cases h3 : j = 3
          · rw [if_pos h3, if_pos (by omega), h3]
          · rw [if_neg h3, if_neg (by omega)]
  · rw [if_neg g0]
    have e1 : cdC C o p a = cdB C o p a := by
      unfold cdC
      rw [up2_ne _ _ _ g0, up2_ne _ _ _ g0, up2_ne _ _ _ g0, up2_ne _ _ _ g0]
    rw [e1]
    by_cases g1 : a = o + 1
    · subst g1
      rw [if_pos rfl]
      unfold cdB
      rw [upA_ne _ _ (by omega)]
      unfold cdA
      rw [upA_self]
    · rw [if_neg g1]
      by_cases g2 : a = o + 2
      · subst g2
        rw [if_pos rfl]
        unfold cdB
        rw [upA_self]
        unfold cdA
        rw [upA_ne _ _ (by omega), upA_ne _ _ (by omega)]
      · rw [if_neg g2, if_neg (by omega)]
        unfold cdB cdA
        rw [upA_ne _ _ g2, upA_ne _ _ g1]
theorem isBest_k {P : Int → Prop} {f : Int → Int} {i v : Int} (h : isBest P f i v) (hv : 0 ≤ v) : v < i ∧ P v := by
  rcases h with ⟨h1, h2⟩ | ⟨h1, h2, h3, h4⟩
  · omega
  · exact ⟨h2, h3⟩
