theorem nw0 : (.methodLinkNest RX0 24 yX2_init RX6 : Cond) ∈ nestW := List.mem_of_getElem? (i := 0) rfl
theorem nw1 : (.methodLinkNest RX4 21 yX2_init RX6 : Cond) ∈ nestW := List.mem_of_getElem? (i := 1) rfl
theorem nw2 : (.methodLinkNest RX6 35 yX5_init RX6 : Cond) ∈ nestW := List.mem_of_getElem? (i := 2) rfl
theorem nw3 : (.methodLinkNest RX6 42 yX3_init RX6 : Cond) ∈ nestW := List.mem_of_getElem? (i := 3) rfl
theorem nw4 : (.methodLinkNest RX3 11 yX5_init RX6 : Cond) ∈ nestW := List.mem_of_getElem? (i := 4) rfl
theorem nw5 : (.methodLinkNest RX4 68 yX6_isWithin RX6 : Cond) ∈ nestW := List.mem_of_getElem? (i := 5) rfl
theorem nw6 : (.methodLinkNest RX0 74 yX6_isSource RX6 : Cond) ∈ nestW := List.mem_of_getElem? (i := 6) rfl
theorem nw7 : (.methodLinkNest RX0 70 yX6_isSetting RX6 : Cond) ∈ nestW := List.mem_of_getElem? (i := 7) rfl
/-! what holds of a life and of a desk; what is reckoned from them -/
def LfOk (C : gM) (q T : Int) : Prop := (0 ≤ C q 0 ∧ C q 0 ≤ 110) ∧ (1 ≤ C q 1 ∧ C q 1 ≤ 9) ∧ (0 ≤ C q 2 ∧ C q 2 ≤ 3) ∧ (-5 ≤ C q 3 ∧ C q 3 ≤ 5) ∧ (-5 ≤ C q 4 ∧ C q 4 ≤ T) ∧ (-5 ≤ C q 5 ∧ C q 5 ≤ T) ∧ (0 ≤ C q 6 ∧ C q 6 ≤ 8) ∧ (C q 2 ≠ 0 → 0 ≤ C q 4) ∧ ∀ j : Int, 0 ≤ j → j < C q 6 → (0 ≤ C (q + 1) j ∧ C (q + 1) j ≤ 5) ∧ (1 ≤ C (q + 2) j ∧ C (q + 2) j ≤ 9) ∧ (0 ≤ C (q + 3) j ∧ C (q + 3) j ≤ T)
def DkOk (C : gM) (o N : Int) : Prop := (0 ≤ C o 3 ∧ C o 3 ≤ 20) ∧ (0 ≤ C o 4 ∧ C o 4 ≤ N) ∧ (0 ≤ C o 5 ∧ C o 5 ≤ 24) ∧ (0 ≤ C o 6 ∧ C o 6 ≤ N) ∧ (1 ≤ C (o + 1) 0 ∧ C (o + 1) 0 ≤ 24) ∧ (10 ≤ C (o + 1) 1 ∧ C (o + 1) 1 ≤ 200) ∧ (0 ≤ C (o + 1) 2 ∧ C (o + 1) 2 ≤ 100) ∧ (1 ≤ C (o + 1) 3 ∧ C (o + 1) 3 ≤ 3) ∧ (1 ≤ C (o + 1) 4 ∧ C (o + 1) 4 ≤ 9) ∧ (∀ s : Int, 0 ≤ s ∧ s ≤ 5 → 0 ≤ C (o + 2) s ∧ C (o + 2) s ≤ 100) ∧ ∀ i : Int, 0 ≤ i → i < C o 3 → LfOk C (4 * i + o + 4) (C o 4)
/-- 1 if the fact j is stale on the day d -/
def fst (C : gM) (o q d j : Int) : Int := stI (WF (C (o + 2) (C (q + 1) j)) (d - C (q + 3) j)) (wf (C (o + 1) 2) 0)
def staleN (C : gM) (o q d : Int) : Int := smI (fst C o q d) (C q 6)
theorem fst_b (C : gM) (o q d j : Int) : 0 ≤ fst C o q d j ∧ fst C o q d j ≤ 1 := stI_b _ _
theorem staleN_b (C : gM) (o q d : Int) (h : 0 ≤ C q 6 ∧ C q 6 ≤ 8) : 0 ≤ staleN C o q d ∧ staleN C o q d ≤ 8 := by
  have := smI_le (f := fst C o q d) (n := C q 6) (a := 0) (c := 1) h.1 (fun j _ _ => fst_b C o q d j)
  unfold staleN
  omega
def urg (C : gM) (o q : Int) : Int := C q 0 + 10 * C q 1 + 5 * staleN C o q (C o 4) + (if C q 6 = 0 then 40 else 0)
def toChk (C : gM) (o q j : Int) : Prop := C (q + 3) j ≠ C o 4 ∧ fst C o q (C o 4) j = 1
/-- the first place below n of a kind, or -5 -/
def isFirst (P : Int → Prop) (n v : Int) : Prop := (v = -5 ∧ ∀ j, 0 ≤ j → j < n → ¬ P j) ∨ (0 ≤ v ∧ v < n ∧ P v ∧ ∀ j, 0 ≤ j → j < v → ¬ P j)
theorem isFirst_uniq {P P' : Int → Prop} {n v v' : Int} (hP : ∀ j, 0 ≤ j → j < n → (P j ↔ P' j)) (h : isFirst P n v) (h' : isFirst P' n v') : v = v' := by
  rcases h with ⟨h1, h2⟩ | ⟨h1, h2, h3, h4⟩ <;> rcases h' with ⟨g1, g2⟩ | ⟨g1, g2, g3, g4⟩
  · omega
  · exact absurd ((hP v' g1 g2).mpr g3) (h2 v' g1 g2)
  · exact absurd ((hP v h1 h2).mp h3) (g2 v h1 h2)
  · rcases Int.lt_trichotomy v v' with h | h | h
    · exact absurd ((hP v h1 h2).mp h3) (g4 v h1 h)
    · exact h
    · exact absurd ((hP v' g1 g2).mpr g3) (h4 v' g1 h)
/-- the greatest key among those of a kind, of several the lowest place; -5 if there is none -/
def isBest (P : Int → Prop) (f : Int → Int) (n v : Int) : Prop := (v = -5 ∧ ∀ j, 0 ≤ j → j < n → ¬ P j) ∨ (0 ≤ v ∧ v < n ∧ P v ∧ ∀ j, 0 ≤ j → j < n → P j → f j < f v ∨ (f j = f v ∧ v ≤ j))
theorem isBest_uniq {P P' : Int → Prop} {f f' : Int → Int} {n v v' : Int} (hP : ∀ j, 0 ≤ j → j < n → (P j ↔ P' j)) (hf : ∀ j, 0 ≤ j → j < n → P j → f j = f' j) (h : isBest P f n v) (h' : isBest P' f' n v') : v = v' := by
  rcases h with ⟨h1, h2⟩ | ⟨h1, h2, h3, h4⟩ <;> rcases h' with ⟨g1, g2⟩ | ⟨g1, g2, g3, g4⟩
  · omega
  · exact absurd ((hP v' g1 g2).mpr g3) (h2 v' g1 g2)
  · exact absurd ((hP v h1 h2).mp h3) (g2 v h1 h2)
  · have a1 := h4 v' g1 g2 ((hP v' g1 g2).mpr g3)
    have a2 := g4 v h1 h2 ((hP v h1 h2).mp h3)
    have e1 := hf v h1 h2 h3
    have e2 := hf v' g1 g2 ((hP v' g1 g2).mpr g3)
    omega
/-- the order of the desk's own: old deaths taken back, of the first n -/
def tbk (C : gM) (o n : Int) : gM := fun a j => if (o + 4 ≤ a ∧ a < o + 4 + 4 * n ∧ (a - o) % 4 = 0 ∧ C a 2 = 1 ∧ C a 4 + C (o + 1) 4 ≤ C o 4 + 1) ∧ (j = 2 ∨ j = 3 ∨ j = 4) then (if j = 2 then 0 else -5) else C a j
theorem ite_c {c d : Prop} [Decidable c] [Decidable d] {u v : Int} (h : c ↔ d) : (if c then u else v) = (if d then u else v) := by
  by_cases hc : c
  · rw [if_pos hc, if_pos (h.mp hc)]
  · rw [if_neg hc, if_neg (fun z => hc (h.mpr z))]
theorem tbk_out {C : gM} {o n a j : Int} (h : a < o + 4 ∨ o + 4 + 4 * n ≤ a) : tbk C o n a j = C a j := by
  unfold tbk
  rw [if_neg (by omega)]
theorem tbk_0 (C : gM) (o : Int) : tbk C o 0 = C := by
  funext a j
  exact tbk_out (by omega)
theorem tbk_s0 {C : gM} {o i : Int} (h : ¬ (C (4 * i + o + 4) 2 = 1 ∧ C (4 * i + o + 4) 4 + C (o + 1) 4 ≤ C o 4 + 1)) : tbk C o i = tbk C o (i + 1) := by
  funext a j
  unfold tbk
  by_cases ha : a = 4 * i + o + 4
  · subst ha
    rw [if_neg (by omega), if_neg (by omega)]
  · exact ite_c (by omega)
theorem tbk_s1 {C : gM} {o i : Int} (hi : 0 ≤ i) (h : C (4 * i + o + 4) 2 = 1) (h' : C (4 * i + o + 4) 4 + C (o + 1) 4 ≤ C o 4 + 1) : up2 (up2 (up2 (tbk C o i) (4 * i + o + 4) 2 0) (4 * i + o + 4) 3 (-5)) (4 * i + o + 4) 4 (-5) = tbk C o (i + 1) := by
  funext a j
  by_cases ha : a = 4 * i + o + 4
  · subst ha
    rw [rd_at, rd_at, rd_at, tbk_out (by omega)]
    unfold tbk
    by_cases h4 : j = 4
    · rw [if_pos h4, if_pos (by omega), if_neg (by omega)]
    · rw [if_neg h4]
      by_cases h3 : j = 3
      · rw [if_pos h3, if_pos (by omega), if_neg (by omega)]
      · rw [if_neg h3]
        by_cases h2 : j = 2
        · rw [if_pos h2, if_pos (by omega), if_pos h2]
        · rw [if_neg h2, if_neg (by omega)]
  · rw [rd_k ha, rd_k ha, rd_k ha]
    exact ite_c (by omega)
def bgn (C : gM) (q u t : Int) : gM := up2 (up2 (up2 (up2 (up2 (up2 (up2 C q 0 u) q 1 t) q 5 (-5)) q 6 0) q 2 0) q 3 (-5)) q 4 (-5)
section
variable {x : gX} {G : gG} {b cl sl nL : Nat} {own nm Cn : String} {cc : ByteArray} {rm : Room} {pc : Nat} {lv : List (Nat × Value)} {st : List Value} {C S : gM}
def RV (G : gG) (b : Nat) (C S : gM) (Q : Value → Prop) : gP := fun r n w => ∃ v : Value, r = some v ∧ n = 586 ∧ w = wM G b C S ∧ Q v
theorem m_rv (hB : Bx x G b own cc nL (some (.object Cn)) rm nm) {Q : Value → Prop} {v : Value} (hE : Ex x G b (RV G b C S Q) cl sl) (d : decode cc pc = .ok (.areturn, 1)) (hv : v = .null ∨ ∃ a, v = .ref a) (hq : Q v) : YM x G b cl sl C S pc lv [v] := y_aret hB hE d hv ⟨v, rfl, rfl, rfl, hq⟩
theorem k_RV {Q : Value → Prop} (kk : ∀ v : Value, Q v → YM x G b cl sl C S pc lv (v :: st)) : ∀ (r : Option Value) (n' : Int) (w' : Int → va_E), RV G b C S Q r n' w' → Y x G b cl sl n' w' pc lv (r.toList ++ st) := by
  rintro r n' w' ⟨v, rfl, rfl, rfl, hq⟩
  exact kk v hq
end
