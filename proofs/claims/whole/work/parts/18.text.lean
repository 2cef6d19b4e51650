/-! the text of persons: what is read of it, by numbers -/
def gV (t : Int → Int) (n a lo hi : Int) : Int := if a < n ∧ lo ≤ t a - 48 ∧ t a - 48 ≤ hi then t a - 48 else -5
def gA (t : Int → Int) (n a lo hi : Int) : Int := if a < n ∧ lo ≤ t a - 48 ∧ t a - 48 ≤ hi then a + 1 else a
def hT (t : Int → Int) (n a c : Int) : Int := if a < n ∧ t a = c then 1 else 0
def hA (t : Int → Int) (n a c : Int) : Int := if a < n ∧ t a = c then a + 1 else a
def TxB (t : Int → Int) (n : Int) : Prop := (0 ≤ n ∧ n ≤ 60) ∧ ∀ j : Int, 0 ≤ j → j < 60 → 0 ≤ t j ∧ t j < 65536
def TxS (C : gM) (t : Int → Int) (n a : Int) : Prop := C 508 = t ∧ C 507 1 = n ∧ C 507 4 = a
theorem TxS_at {C : gM} {t : Int → Int} {n a a' : Int} (h : TxS C t n a) : TxS (up2 C 507 4 a') t n a' := ⟨by rw [up2_ne _ _ _ (by omega)]; exact h.1, by rw [rd_i (by omega)]; exact h.2.1, rd_hit rfl rfl⟩
theorem TxS_k {C : gM} {t : Int → Int} {n a k j x : Int} (hk : (k ≠ 507 ∨ (j ≠ 1 ∧ j ≠ 4)) ∧ k ≠ 508) (h : TxS C t n a) : TxS (up2 C k j x) t n a := by
  refine ⟨by rw [up2_ne _ _ _ (by omega)]; exact h.1, ?_, ?_⟩
  · rcases hk.1 with g | g
    · rw [rd_k (by omega)]; exact h.2.1
    · rw [rd_i (by omega)]; exact h.2.1
  · rcases hk.1 with g | g
    · rw [rd_k (by omega)]; exact h.2.2
    · rw [rd_i (by omega)]; exact h.2.2
theorem TxS_id {C : gM} {t : Int → Int} {n a : Int} (h : TxS C t n a) : up2 C 507 4 a = C := by
  rw [← h.2.2]; exact up2_id C 507 4
theorem up2_2 (C : gM) (k j x y : Int) : up2 (up2 C k j x) k j y = up2 C k j y := by
  funext a i
  by_cases h : a = k
  · subst h
    rw [rd_at, rd_at, rd_at]
    by_cases h2 : i = j
    · rw [if_pos h2, if_pos h2]
    · rw [if_neg h2, if_neg h2, if_neg h2]
  · rw [rd_k h, rd_k h, rd_k h]
theorem gV_b (t : Int → Int) (n a lo hi : Int) : (gV t n a lo hi = -5 ∧ ¬ (a < n ∧ lo ≤ t a - 48 ∧ t a - 48 ≤ hi) ∧ gA t n a lo hi = a) ∨ (lo ≤ gV t n a lo hi ∧ gV t n a lo hi ≤ hi ∧ gV t n a lo hi = t a - 48 ∧ a < n ∧ gA t n a lo hi = a + 1) := by
  by_cases h : a < n ∧ lo ≤ t a - 48 ∧ t a - 48 ≤ hi
  · refine Or.inr ?_
    unfold gV gA
    rw [if_pos h, if_pos h]
    omega
  · refine Or.inl ?_
    unfold gV gA
    rw [if_neg h, if_neg h]
    exact ⟨rfl, h, rfl⟩
theorem hT_b (t : Int → Int) (n a c : Int) : (hT t n a c = 0 ∧ ¬ (a < n ∧ t a = c) ∧ hA t n a c = a) ∨ (hT t n a c = 1 ∧ a < n ∧ t a = c ∧ hA t n a c = a + 1) := by
  by_cases h : a < n ∧ t a = c
  · refine Or.inr ?_
    unfold hT hA
    rw [if_pos h, if_pos h]
    exact ⟨rfl, h.1, h.2, rfl⟩
  · refine Or.inl ?_
    unfold hT hA
    rw [if_neg h, if_neg h]
    exact ⟨rfl, h, rfl⟩
/-- one more digit of an age -/
def aC (t : Int → Int) (n v a : Int) : Prop := 0 < v ∧ a < n ∧ 0 ≤ t a - 48 ∧ t a - 48 ≤ 9 ∧ 10 * v + (t a - 48) ≤ 110
def aV (t : Int → Int) (n v a : Int) : Int := if 0 < v ∧ a < n ∧ 0 ≤ t a - 48 ∧ t a - 48 ≤ 9 ∧ 10 * v + (t a - 48) ≤ 110 then 10 * v + (t a - 48) else v
def aA (t : Int → Int) (n v a : Int) : Int := if 0 < v ∧ a < n ∧ 0 ≤ t a - 48 ∧ t a - 48 ≤ 9 ∧ 10 * v + (t a - 48) ≤ 110 then a + 1 else a
def agV (t : Int → Int) (n a : Int) : Int := aV t n (aV t n (gV t n a 0 9) (gA t n a 0 9)) (aA t n (gV t n a 0 9) (gA t n a 0 9))
def agA (t : Int → Int) (n a : Int) : Int := aA t n (aV t n (gV t n a 0 9) (gA t n a 0 9)) (aA t n (gV t n a 0 9) (gA t n a 0 9))
theorem aC_n {t : Int → Int} {n v a : Int} (h : ¬ aC t n v a) : aV t n v a = v ∧ aA t n v a = a := by unfold aC at h; unfold aV aA; rw [if_neg h, if_neg h]; exact ⟨rfl, rfl⟩
theorem aC_y {t : Int → Int} {n v a : Int} (h : aC t n v a) : aV t n v a = 10 * v + (t a - 48) ∧ aA t n v a = a + 1 := by unfold aC at h; unfold aV aA; rw [if_pos h, if_pos h]; exact ⟨rfl, rfl⟩
theorem aC_b {t : Int → Int} {n v a : Int} : (aV t n v a = v ∧ aA t n v a = a) ∨ (0 < v ∧ aV t n v a = 10 * v + (t a - 48) ∧ aA t n v a = a + 1 ∧ 0 ≤ t a - 48 ∧ aV t n v a ≤ 110 ∧ a < n) := by
  by_cases h : aC t n v a
  · have := aC_y h
    unfold aC at h
    omega
  · exact Or.inl (aC_n h)
theorem ag_b {t : Int → Int} {n a : Int} : (agV t n a = -5 ∧ agA t n a = a) ∨ (0 ≤ agV t n a ∧ agV t n a ≤ 110 ∧ a + 1 ≤ agA t n a ∧ agA t n a ≤ n ∧ agA t n a ≤ a + 3) := by
  unfold agV agA
  have h0 := gV_b t n a 0 9
  generalize gV t n a 0 9 = v at *
  generalize gA t n a 0 9 = a1 at *
  have h1 := aC_b (t := t) (n := n) (v := v) (a := a1)
  generalize aV t n v a1 = v1 at *
  generalize aA t n v a1 = a2 at *
  have h2 := aC_b (t := t) (n := n) (v := v1) (a := a2)
  omega
/-- a fact -/
def fA (t : Int → Int) (n a : Int) : Int := if gV t n a 0 5 = -5 then gA t n a 0 5 else if hT t n (gA t n a 0 5) 120 = 0 then hA t n (gA t n a 0 5) 120 else gA t n (hA t n (gA t n a 0 5) 120) 1 9
def fOk (t : Int → Int) (n a : Int) : Int := if gV t n a 0 5 = -5 then 0 else if hT t n (gA t n a 0 5) 120 = 0 then 0 else if gV t n (hA t n (gA t n a 0 5) 120) 1 9 = -5 then 0 else 1
def fS (t : Int → Int) (n a : Int) : Int := gV t n a 0 5
def fL (t : Int → Int) (n a : Int) : Int := gV t n (hA t n (gA t n a 0 5) 120) 1 9
theorem f_b (t : Int → Int) (n a : Int) : (fOk t n a = 0 ∧ a ≤ fA t n a ∧ (fA t n a ≤ a ∨ fA t n a ≤ n)) ∨ (fOk t n a = 1 ∧ fA t n a = a + 3 ∧ a + 3 ≤ n ∧ (0 ≤ fS t n a ∧ fS t n a ≤ 5) ∧ (1 ≤ fL t n a ∧ fL t n a ≤ 9)) := by
  unfold fOk fA fS fL
  have h0 := gV_b t n a 0 5
  have h1 := hT_b t n (gA t n a 0 5) 120
  have h2 := gV_b t n (hA t n (gA t n a 0 5) 120) 1 9
  repeat' split
  all_goals omega
abbrev FR : Type := Int × Int × Int × (Int → Int) × (Int → Int)
abbrev FR.ok (x : FR) : Int := x.1
abbrev FR.a (x : FR) : Int := x.2.1
abbrev FR.m (x : FR) : Int := x.2.2.1
abbrev FR.s (x : FR) : Int → Int := x.2.2.2.1
abbrev FR.l (x : FR) : Int → Int := x.2.2.2.2
def fsP (t : Int → Int) (n : Int) : Nat → Int → Int → (Int → Int) → (Int → Int) → FR
  | 0, a, m, s, l => ⟨1, a, m, s, l⟩
  | k + 1, a, m, s, l => if hT t n a 44 = 1 then (if fOk t n (hA t n a 44) = 1 then fsP t n k (fA t n (hA t n a 44)) (m + 1) (up1 s m (fS t n (hA t n a 44))) (up1 l m (fL t n (hA t n a 44))) else ⟨0, fA t n (hA t n a 44), m, s, l⟩) else ⟨1, hA t n a 44, m, s, l⟩
abbrev PR : Type := Int × Int × Int × Int × Int × (Int → Int) × (Int → Int)
abbrev PR.ok (x : PR) : Int := x.1
abbrev PR.a (x : PR) : Int := x.2.1
abbrev PR.age (x : PR) : Int := x.2.2.1
abbrev PR.rank (x : PR) : Int := x.2.2.2.1
abbrev PR.m (x : PR) : Int := x.2.2.2.2.1
abbrev PR.s (x : PR) : Int → Int := x.2.2.2.2.2.1
abbrev PR.l (x : PR) : Int → Int := x.2.2.2.2.2.2
def pP (t : Int → Int) (n a : Int) : PR :=
  if agV t n a = -5 then ⟨0, agA t n a, 0, 0, 0, fun _ => 0, fun _ => 0⟩
  else if hT t n (agA t n a) 114 = 0 then ⟨0, hA t n (agA t n a) 114, 0, 0, 0, fun _ => 0, fun _ => 0⟩
  else if gV t n (hA t n (agA t n a) 114) 1 9 = -5 then ⟨0, gA t n (hA t n (agA t n a) 114) 1 9, 0, 0, 0, fun _ => 0, fun _ => 0⟩
  else (fun r : FR => ⟨r.ok, r.a, agV t n a, gV t n (hA t n (agA t n a) 114) 1 9, r.m, r.s, r.l⟩) (fsP t n 8 (gA t n (hA t n (agA t n a) 114) 1 9) 0 (fun _ => 0) (fun _ => 0))
abbrev QR : Type := Int × Int × Int × (Int → PR)
abbrev QR.ok (x : QR) : Int := x.1
abbrev QR.a (x : QR) : Int := x.2.1
abbrev QR.k (x : QR) : Int := x.2.2.1
abbrev QR.r (x : QR) : Int → PR := x.2.2.2
def psP (t : Int → Int) (n : Int) : Nat → Int → Int → (Int → PR) → QR
  | 0, a, k, r => ⟨0, a, k, r⟩
  | f + 1, a, k, r => if (pP t n a).ok = 0 then ⟨0, (pP t n a).a, k, r⟩ else if hT t n (pP t n a).a 59 = 1 then psP t n f (hA t n (pP t n a).a 59) (k + 1) (fun i => if i = k then pP t n a else r i) else ⟨if (pP t n a).a = n then 1 else 0, (pP t n a).a, k + 1, fun i => if i = k then pP t n a else r i⟩
def zPR : PR := ⟨0, 0, 0, 0, 0, fun _ => 0, fun _ => 0⟩
def txP (t : Int → Int) (n : Int) : QR := psP t n 15 0 0 (fun _ => zPR)
def fsB (m : Int) (s l : Int → Int) : Prop := ∀ j : Int, 0 ≤ j → j < m → (0 ≤ s j ∧ s j ≤ 5) ∧ (1 ≤ l j ∧ l j ≤ 9)
theorem fsP_b (t : Int → Int) (n : Int) : ∀ (k : Nat) (a m : Int) (s l : Int → Int), 0 ≤ m → a ≤ n → fsB m s l → ((fsP t n k a m s l).ok = 0 ∨ (fsP t n k a m s l).ok = 1) ∧ a ≤ (fsP t n k a m s l).a ∧ (fsP t n k a m s l).a ≤ n ∧ (m ≤ (fsP t n k a m s l).m ∧ (fsP t n k a m s l).m ≤ m + k) ∧ fsB (fsP t n k a m s l).m (fsP t n k a m s l).s (fsP t n k a m s l).l := by
  intro k
  induction k with
  | zero => intro a m s l h0 h1 h2; exact ⟨Or.inr rfl, Int.le_refl _, h1, ⟨Int.le_refl _, by simp [fsP]⟩, h2⟩
  | succ k ih =>
    intro a m s l h0 h1 h2
    have e1 := hT_b t n a 44
    have e2 := f_b t n (hA t n a 44)
    unfold fsP
    by_cases c1 : hT t n a 44 = 1
    · rw [if_pos c1]
      by_cases c2 : fOk t n (hA t n a 44) = 1
      · rw [if_pos c2]
        have := ih (fA t n (hA t n a 44)) (m + 1) (up1 s m (fS t n (hA t n a 44))) (up1 l m (fL t n (hA t n a 44))) (by omega) (by omega) (fun j a1 a2 => by
          unfold up1
          by_cases hj : j = m
          · rw [if_pos hj, if_pos hj]; omega
          · rw [if_neg hj, if_neg hj]; exact h2 j a1 (by omega))
        refine ⟨this.1, by omega, this.2.2.1, by omega, this.2.2.2.2⟩
      · rw [if_neg c2]
        refine ⟨Or.inl rfl, ?_, ?_, ⟨Int.le_refl _, by show m ≤ m + _; omega⟩, h2⟩
        · show a ≤ fA t n (hA t n a 44); omega
        · show fA t n (hA t n a 44) ≤ n; omega
    · rw [if_neg c1]
      refine ⟨Or.inr rfl, ?_, ?_, ⟨Int.le_refl _, by show m ≤ m + _; omega⟩, h2⟩
      · show a ≤ hA t n a 44; omega
      · show hA t n a 44 ≤ n; omega
theorem pP_b (t : Int → Int) (n a : Int) : ((pP t n a).ok = 0 ∨ (pP t n a).ok = 1) ∧ a ≤ (pP t n a).a ∧ ((pP t n a).a ≤ a ∨ (pP t n a).a ≤ n) ∧ ((pP t n a).ok = 1 → a + 3 ≤ (pP t n a).a ∧ (0 ≤ (pP t n a).age ∧ (pP t n a).age ≤ 110) ∧ (1 ≤ (pP t n a).rank ∧ (pP t n a).rank ≤ 9) ∧ (0 ≤ (pP t n a).m ∧ (pP t n a).m ≤ 8) ∧ fsB (pP t n a).m (pP t n a).s (pP t n a).l) := by
  have h0 := ag_b (t := t) (n := n) (a := a)
  have h1 := hT_b t n (agA t n a) 114
  have h2 := gV_b t n (hA t n (agA t n a) 114) 1 9
  unfold pP
  by_cases c1 : agV t n a = -5
  · rw [if_pos c1]
    exact ⟨Or.inl rfl, by show a ≤ agA t n a; omega, by show agA t n a ≤ a ∨ agA t n a ≤ n; omega, fun h => absurd (show (0 : Int) = 1 from h) (by decide)⟩
  · rw [if_neg c1]
    by_cases c2 : hT t n (agA t n a) 114 = 0
    · rw [if_pos c2]
      exact ⟨Or.inl rfl, by show a ≤ hA t n (agA t n a) 114; omega, by show hA t n (agA t n a) 114 ≤ a ∨ hA t n (agA t n a) 114 ≤ n; omega, fun h => absurd (show (0 : Int) = 1 from h) (by decide)⟩
    · rw [if_neg c2]
      by_cases c3 : gV t n (hA t n (agA t n a) 114) 1 9 = -5
      · rw [if_pos c3]
        exact ⟨Or.inl rfl, by show a ≤ gA t n (hA t n (agA t n a) 114) 1 9; omega, by show gA t n (hA t n (agA t n a) 114) 1 9 ≤ a ∨ gA t n (hA t n (agA t n a) 114) 1 9 ≤ n; omega, fun h => absurd (show (0 : Int) = 1 from h) (by decide)⟩
      · rw [if_neg c3]
        have hf := fsP_b t n 8 (gA t n (hA t n (agA t n a) 114) 1 9) 0 (fun _ => 0) (fun _ => 0) (by omega) (by omega) (fun j a1 a2 => by omega)
        dsimp only
        generalize fsP t n 8 (gA t n (hA t n (agA t n a) 114) 1 9) 0 (fun _ => 0) (fun _ => 0) = r at *
        have h4 := hf.2.2.2.1
        exact ⟨hf.1, (show a ≤ r.a by omega), (show r.a ≤ a ∨ r.a ≤ n by omega), fun _ => ⟨(show a + 3 ≤ r.a by omega), (show 0 ≤ agV t n a ∧ agV t n a ≤ 110 by omega), (show 1 ≤ gV t n (hA t n (agA t n a) 114) 1 9 ∧ gV t n (hA t n (agA t n a) 114) 1 9 ≤ 9 by omega), (show 0 ≤ r.m ∧ r.m ≤ 8 by omega), hf.2.2.2.2⟩⟩
/-- a life that was read -/
def Row (C : gM) (q : Int) (p : PR) (d : Int) : Prop := C q 0 = p.age ∧ C q 1 = p.rank ∧ C q 2 = 0 ∧ C q 3 = -5 ∧ C q 4 = -5 ∧ C q 5 = -5 ∧ C q 6 = p.m ∧ ∀ j : Int, 0 ≤ j → j < p.m → C (q + 1) j = p.s j ∧ C (q + 2) j = p.l j ∧ C (q + 3) j = d
set_option maxHeartbeats 4000000 in
theorem tX4_length (l : Launch) (G : gG) (b : Nat) (C S : gM)  : Ct l G b yX4_length cX4_length 1 (some .int) rmX4_length [.ref (ad b (507))] 586 (wM G b C S) (RI G b C S (fun v => v = C 507 1)) := by
  refine CtK_of (by decide) (Nat.le_of_ble_eq_true rfl) q611 ?_
  intro x hl hB hE _
  subst hl
  show YM x G b 0 0 C S 0 [(0, .ref (ad b (507)))] []
  refine y_aload_n hB 0 dX4_length_0 rfl rfl ?_
  refine gt_4_1 hB (by decide) (t1 := C 507 1) rfl dX4_length_1 ?_
  exact m_ri hB hE dX4_length_4 rfl (rfl)
set_option maxHeartbeats 4000000 in
theorem tX4_fault (l : Launch) (G : gG) (b : Nat) (C S : gM)  : Ct l G b yX4_fault cX4_fault 1 (some .int) rmX4_fault [.ref (ad b (507))] 586 (wM G b C S) (RI G b C S (fun v => v = C 507 4)) := by
  refine CtK_of (by decide) (Nat.le_of_ble_eq_true rfl) q322 ?_
  intro x hl hB hE _
  subst hl
  show YM x G b 0 0 C S 0 [(0, .ref (ad b (507)))] []
  refine y_aload_n hB 0 dX4_fault_0 rfl rfl ?_
  refine gt_4_4 hB (by decide) (t1 := C 507 4) rfl dX4_fault_1 ?_
  exact m_ri hB hE dX4_fault_4 rfl (rfl)
set_option maxHeartbeats 4000000 in
theorem tX4_personsRead (l : Launch) (G : gG) (b : Nat) (C S : gM)  : Ct l G b yX4_personsRead cX4_personsRead 1 (some .int) rmX4_personsRead [.ref (ad b (507))] 586 (wM G b C S) (RI G b C S (fun v => v = C 507 3)) := by
  refine CtK_of (by decide) (Nat.le_of_ble_eq_true rfl) q326 ?_
  intro x hl hB hE _
  subst hl
  show YM x G b 0 0 C S 0 [(0, .ref (ad b (507)))] []
  refine y_aload_n hB 0 dX4_personsRead_0 rfl rfl ?_
  refine gt_4_3 hB (by decide) (t1 := C 507 3) rfl dX4_personsRead_1 ?_
  exact m_ri hB hE dX4_personsRead_4 rfl (rfl)
set_option maxHeartbeats 4000000 in
theorem tX4_clear (l : Launch) (G : gG) (b : Nat) (C S : gM)  : Ct l G b yX4_clear cX4_clear 1 none rmX4_clear [.ref (ad b (507))] 586 (wM G b C S) (WV G b S (fun C' => C' = up2 C 507 1 0)) := by
  refine CtK_of (by decide) (Nat.le_of_ble_eq_true rfl) q619 ?_
  intro x hl hB hE _
  subst hl
  show YM x G b 0 0 C S 0 [(0, .ref (ad b (507)))] []
  refine y_aload_n hB 0 dX4_clear_0 rfl rfl ?_
  refine y_iconst (v := 0) hB dX4_clear_1 rfl ?_
  refine pt_4_1 hB (by decide) dX4_clear_2 ?_
  exact m_wv hB hE dX4_clear_5 (rfl)
set_option maxHeartbeats 4000000 in
theorem tX4_append (l : Launch) (G : gG) (b : Nat) (C S : gM) (u : Int) (hu : 0 ≤ u ∧ u < 65536) (hs : 0 ≤ C 507 1 ∧ C 507 1 ≤ 60) : Ct l G b yX4_append cX4_append 2 (some .boolean) rmX4_append [.ref (ad b (507)), .int (iI (u))] 586 (wM G b C S) (WI G b S (fun v C' => (v = 1 ∧ C 507 1 < 60 ∧ C' = up2 (up2 C 508 (C 507 1) u) 507 1 (C 507 1 + 1)) ∨ (v = 0 ∧ ¬ C 507 1 < 60 ∧ C' = C))) := by
  refine CtK_of (by decide) (Nat.le_of_ble_eq_true rfl) q607 ?_
  intro x hl hB hE _
  subst hl
  show YM x G b 0 0 C S 0 [(0, .ref (ad b (507))), (1, .int (iI (u)))] []
  refine y_aload_n hB 0 dX4_append_0 rfl rfl ?_
  refine gt_4_1 hB (by decide) (t1 := C 507 1) rfl dX4_append_1 ?_
  refine y_if_lt hB 16 dX4_append_4 (by decide) (by omega) (fun c_4 => ?_) (fun c_4 => ?_)
  · exfalso
    omega
  · refine y_aload_n hB 0 dX4_append_7 rfl rfl ?_
    refine gt_4_1 hB (by decide) (t1 := C 507 1) rfl dX4_append_8 ?_
    refine y_bipush (v := 60) hB dX4_append_11 (by decide) ?_
    refine y_icmp_lt hB 18 dX4_append_13 (by decide) (by omega) (by omega) (fun c_13 => ?_) (fun c_13 => ?_)
    · refine y_aload_n hB 0 dX4_append_18 rfl rfl ?_
      refine gt_4_0 hB (by decide) (t1 := 508) (by omega) dX4_append_19 ?_
      refine y_aload_n hB 0 dX4_append_22 rfl rfl ?_
      refine gt_4_1 hB (by decide) (t1 := C 507 1) rfl dX4_append_23 ?_
      refine y_iload_n hB 1 dX4_append_26 rfl rfl ?_
      refine ast_10 hB (by decide) (by omega) (by omega) dX4_append_27 ?_
      refine y_aload_n hB 0 dX4_append_28 rfl rfl ?_
      refine y_dup hB dX4_append_29 rfl ?_
      refine gt_4_1 hB (by decide) (t1 := C 507 1) (rd_k (by omega)) dX4_append_30 ?_
      refine y_iconst (v := 1) hB dX4_append_33 rfl ?_
      refine y_iadd (t := C 507 1 + 1) hB dX4_append_34 (by omega) ?_
      refine pt_4_1 hB (by decide) dX4_append_35 ?_
      refine y_iconst (v := 1) hB dX4_append_38 rfl ?_
      exact m_wi hB hE dX4_append_39 rfl (Or.inl ⟨rfl, by omega, rfl⟩)
    · refine y_iconst (v := 0) hB dX4_append_16 rfl ?_
      exact m_wi hB hE dX4_append_17 rfl (Or.inr ⟨rfl, by omega, rfl⟩)
set_option maxHeartbeats 4000000 in
theorem tX4_readLife (l : Launch) (G : gG) (b : Nat) (C S : gM) (u q : Int) (hu : 0 ≤ u ∧ u < C 507 3 ∧ C 507 3 ≤ 15) (e : 4 * u + 510 = q) : Ct l G b yX4_readLife cX4_readLife 2 (some (.object "LivesAhead$Life")) rmX4_readLife [.ref (ad b (507)), .int (iI (u))] 586 (wM G b C S) (RR G b C S (.ref (ad b q))) := by
  refine CtK_of (by decide) (Nat.le_of_ble_eq_true rfl) q289 ?_
  intro x hl hB hE _
  subst hl
  show YM x G b 0 0 C S 0 [(0, .ref (ad b (507))), (1, .int (iI (u)))] []
  refine y_iload_n hB 1 dX4_readLife_0 rfl rfl ?_
  refine y_if_lt hB 18 dX4_readLife_1 (by decide) (by omega) (fun c_1 => ?_) (fun c_1 => ?_)
  · exfalso
    omega
  · refine y_iload_n hB 1 dX4_readLife_4 rfl rfl ?_
    refine y_aload_n hB 0 dX4_readLife_5 rfl rfl ?_
    refine gt_4_3 hB (by decide) (t1 := C 507 3) rfl dX4_readLife_6 ?_
    refine y_icmp_ge hB 18 dX4_readLife_9 (by decide) (by omega) (by omega) (fun c_9 => ?_) (fun c_9 => ?_)
    · exfalso
      omega
    · refine y_iload_n hB 1 dX4_readLife_12 rfl rfl ?_
      refine y_bipush (v := 15) hB dX4_readLife_13 (by decide) ?_
      refine y_icmp_lt hB 20 dX4_readLife_15 (by decide) (by omega) (by omega) (fun c_15 => ?_) (fun c_15 => ?_)
      · refine y_aload_n hB 0 dX4_readLife_20 rfl rfl ?_
        refine gt_4_2 hB (by decide) (t1 := 509) (by omega) dX4_readLife_21 ?_
        refine y_iload_n hB 1 dX4_readLife_24 rfl rfl ?_
        refine ald_11 hB (by decide) (by omega) (t1 := 4 * u + 510) (by omega) dX4_readLife_25 ?_
        rw [show 4 * u + 510 = q by omega]
        exact m_rr hB hE dX4_readLife_26 (Or.inr ⟨_, rfl⟩)
      · exfalso
        omega
set_option maxHeartbeats 4000000 in
theorem tX4_takeDigit (l : Launch) (G : gG) (b : Nat) (C S : gM) (t : Int → Int) (n a u z : Int) (htx : TxS C t n a) (hb : TxB t n) (ha0 : 0 ≤ a ∧ a ≤ 60) (hu : 0 ≤ u ∧ u ≤ 9) (hz : -10000 ≤ z ∧ z ≤ 9) : Ct l G b yX4_takeDigit cX4_takeDigit 4 (some .int) rmX4_takeDigit [.ref (ad b (507)), .int (iI (u)), .int (iI (z))] 586 (wM G b C S) (WI G b S (fun v C' => v = gV t n a u z ∧ C' = up2 C 507 4 (gA t n a u z))) := by
  refine CtK_of (by decide) (Nat.le_of_ble_eq_true rfl) q301 ?_
  intro x hl hB hE _
  subst hl
  show YM x G b 0 0 C S 0 [(0, .ref (ad b (507))), (1, .int (iI (u))), (2, .int (iI (z)))] []
  obtain ⟨ht, hn, ha⟩ := id htx
  have hn60 := hb.1
  refine y_aload_n hB 0 dX4_takeDigit_0 rfl rfl ?_
  refine gt_4_4 hB (by decide) (t1 := C 507 4) rfl dX4_takeDigit_1 ?_
  refine y_if_lt hB 27 dX4_takeDigit_4 (by decide) (by omega) (fun c_4 => ?_) (fun c_4 => ?_)
  · exfalso
    omega
  · refine y_aload_n hB 0 dX4_takeDigit_7 rfl rfl ?_
    refine gt_4_4 hB (by decide) (t1 := C 507 4) rfl dX4_takeDigit_8 ?_
    refine y_aload_n hB 0 dX4_takeDigit_11 rfl rfl ?_
    refine gt_4_1 hB (by decide) (t1 := C 507 1) rfl dX4_takeDigit_12 ?_
    refine y_icmp_ge hB 27 dX4_takeDigit_15 (by decide) (by omega) (by omega) (fun c_15 => ?_) (fun c_15 => ?_)
    · refine y_bipush (v := -5) hB dX4_takeDigit_27 (by decide) ?_
      exact m_wi hB hE dX4_takeDigit_29 rfl (by have hg := gV_b t n a u z; rcases hg with ⟨g1, g2, g3⟩ | ⟨g1, g2, g3, g4, g5⟩; rw [g3, TxS_id htx]; exact ⟨g1.symm, rfl⟩; omega)
    · refine y_aload_n hB 0 dX4_takeDigit_18 rfl rfl ?_
      refine gt_4_4 hB (by decide) (t1 := C 507 4) rfl dX4_takeDigit_19 ?_
      refine y_bipush (v := 60) hB dX4_takeDigit_22 (by decide) ?_
      refine y_icmp_lt hB 30 dX4_takeDigit_24 (by decide) (by omega) (by omega) (fun c_24 => ?_) (fun c_24 => ?_)
      · have hc : C 508 (C 507 4) = t a := by rw [ht, ha]
        have hcb := hb.2 a (by omega) (by omega)
        have hg := gV_b t n a u z
        refine y_aload_n hB 0 dX4_takeDigit_30 rfl rfl ?_
        refine gt_4_0 hB (by decide) (t1 := 508) (by omega) dX4_takeDigit_31 ?_
        refine y_aload_n hB 0 dX4_takeDigit_34 rfl rfl ?_
        refine gt_4_4 hB (by decide) (t1 := C 507 4) rfl dX4_takeDigit_35 ?_
        refine ald_10 hB (by decide) (t1 := C 508 (C 507 4)) (by omega) rfl dX4_takeDigit_38 ?_
        refine y_bipush (v := 48) hB dX4_takeDigit_39 (by decide) ?_
        refine y_isub (t := C 508 (C 507 4) - 48) hB dX4_takeDigit_41 (by omega) ?_
        refine y_istore_n (lv' := [(3, .int (iI (C 508 (C 507 4) - 48))), (0, .ref (ad b (507))), (1, .int (iI (u))), (2, .int (iI (z)))]) hB dX4_takeDigit_42 rfl (by decide) rfl ?_
        refine y_iload_n hB 0 dX4_takeDigit_43 rfl rfl ?_
        refine y_iload_n hB 2 dX4_takeDigit_44 rfl rfl ?_
        refine y_iload_n hB 3 dX4_takeDigit_45 rfl rfl ?_
        refine m_N hB msX6_isWithin nw5 (tX6_isWithin _ G b C S (C 508 (C 507 4) - 48) u z (by omega) (by omega) (by omega)) rfl rfl ⟨Nat.le_of_ble_eq_true rfl, Nat.le_of_ble_eq_true rfl⟩ (Nat.le_of_ble_eq_true rfl) ⟨rfl, rfl⟩ ⟨Nat.le_of_ble_eq_true rfl, Nat.le_of_ble_eq_true rfl⟩ dX4_takeDigit_46 (k_RI (fun v_46 h_46 => ?_))
        refine y_if_ne hB 55 dX4_takeDigit_49 (by decide) (by omega) (fun c_49 => ?_) (fun c_49 => ?_)
        · refine y_aload_n hB 1 dX4_takeDigit_55 rfl rfl ?_
          refine y_dup hB dX4_takeDigit_56 rfl ?_
          refine gt_4_4 hB (by decide) (t1 := C 507 4) rfl dX4_takeDigit_57 ?_
          refine y_iconst (v := 1) hB dX4_takeDigit_60 rfl ?_
          refine y_iadd (t := C 507 4 + 1) hB dX4_takeDigit_61 (by omega) ?_
          refine pt_4_4 hB (by decide) dX4_takeDigit_62 ?_
          refine y_iload_n hB 0 dX4_takeDigit_65 rfl rfl ?_
          exact m_wi hB hE dX4_takeDigit_66 rfl (by rcases hg with ⟨g1, g2, g3⟩ | ⟨g1, g2, g3, g4, g5⟩; omega; refine ⟨by omega, ?_⟩; rw [g5, ha])
        · refine y_bipush (v := -5) hB dX4_takeDigit_52 (by decide) ?_
          exact m_wi hB hE dX4_takeDigit_54 rfl (by rcases hg with ⟨g1, g2, g3⟩ | ⟨g1, g2, g3, g4, g5⟩; rw [g3, TxS_id htx]; exact ⟨g1.symm, rfl⟩; omega)
      · exfalso
        omega
set_option maxHeartbeats 4000000 in
theorem tX4_takes (l : Launch) (G : gG) (b : Nat) (C S : gM) (t : Int → Int) (n a u : Int) (htx : TxS C t n a) (hb : TxB t n) (ha0 : 0 ≤ a ∧ a ≤ 60) (hu : 0 ≤ u ∧ u < 65536) : Ct l G b yX4_takes cX4_takes 2 (some .boolean) rmX4_takes [.ref (ad b (507)), .int (iI (u))] 586 (wM G b C S) (WI G b S (fun v C' => v = hT t n a u ∧ C' = up2 C 507 4 (hA t n a u))) := by
  refine CtK_of (by decide) (Nat.le_of_ble_eq_true rfl) q309 ?_
  intro x hl hB hE _
  subst hl
  show YM x G b 0 0 C S 0 [(0, .ref (ad b (507))), (1, .int (iI (u)))] []
  obtain ⟨ht, hn, ha⟩ := id htx
  have hn60 := hb.1
  refine y_aload_n hB 0 dX4_takes_0 rfl rfl ?_
  refine gt_4_4 hB (by decide) (t1 := C 507 4) rfl dX4_takes_1 ?_
  refine y_if_lt hB 40 dX4_takes_4 (by decide) (by omega) (fun c_4 => ?_) (fun c_4 => ?_)
  · exfalso
    omega
  · refine y_aload_n hB 0 dX4_takes_7 rfl rfl ?_
    refine gt_4_4 hB (by decide) (t1 := C 507 4) rfl dX4_takes_8 ?_
    refine y_aload_n hB 0 dX4_takes_11 rfl rfl ?_
    refine gt_4_1 hB (by decide) (t1 := C 507 1) rfl dX4_takes_12 ?_
    refine y_icmp_ge hB 40 dX4_takes_15 (by decide) (by omega) (by omega) (fun c_15 => ?_) (fun c_15 => ?_)
    · refine y_iconst (v := 0) hB dX4_takes_40 rfl ?_
      exact m_wi hB hE dX4_takes_41 rfl (by have hg := hT_b t n a u; rcases hg with ⟨g1, g2, g3⟩ | ⟨g1, g2, g3, g4⟩; rw [g3, TxS_id htx]; exact ⟨g1.symm, rfl⟩; omega)
    · refine y_aload_n hB 0 dX4_takes_18 rfl rfl ?_
      refine gt_4_4 hB (by decide) (t1 := C 507 4) rfl dX4_takes_19 ?_
      refine y_bipush (v := 60) hB dX4_takes_22 (by decide) ?_
      refine y_icmp_ge hB 40 dX4_takes_24 (by decide) (by omega) (by omega) (fun c_24 => ?_) (fun c_24 => ?_)
      · exfalso
        omega
      · have hc : C 508 (C 507 4) = t a := by rw [ht, ha]
        have hcb := hb.2 a (by omega) (by omega)
        have hg := hT_b t n a u
        refine y_aload_n hB 0 dX4_takes_27 rfl rfl ?_
        refine gt_4_0 hB (by decide) (t1 := 508) (by omega) dX4_takes_28 ?_
        refine y_aload_n hB 0 dX4_takes_31 rfl rfl ?_
        refine gt_4_4 hB (by decide) (t1 := C 507 4) rfl dX4_takes_32 ?_
        refine ald_10 hB (by decide) (t1 := C 508 (C 507 4)) (by omega) rfl dX4_takes_35 ?_
        refine y_iload_n hB 1 dX4_takes_36 rfl rfl ?_
        refine y_icmp_eq hB 42 dX4_takes_37 (by decide) (by omega) (by omega) (fun c_37 => ?_) (fun c_37 => ?_)
        · refine y_aload_n hB 0 dX4_takes_42 rfl rfl ?_
          refine y_dup hB dX4_takes_43 rfl ?_
          refine gt_4_4 hB (by decide) (t1 := C 507 4) rfl dX4_takes_44 ?_
          refine y_iconst (v := 1) hB dX4_takes_47 rfl ?_
          refine y_iadd (t := C 507 4 + 1) hB dX4_takes_48 (by omega) ?_
          refine pt_4_4 hB (by decide) dX4_takes_49 ?_
          refine y_iconst (v := 1) hB dX4_takes_52 rfl ?_
          exact m_wi hB hE dX4_takes_53 rfl (by rcases hg with ⟨g1, g2, g3⟩ | ⟨g1, g2, g3, g4⟩; omega; refine ⟨by omega, ?_⟩; rw [g4, ha])
        · refine y_iconst (v := 0) hB dX4_takes_40 rfl ?_
          exact m_wi hB hE dX4_takes_41 rfl (by have hg := hT_b t n a u; rcases hg with ⟨g1, g2, g3⟩ | ⟨g1, g2, g3, g4⟩; rw [g3, TxS_id htx]; exact ⟨g1.symm, rfl⟩; omega)
set_option maxHeartbeats 4000000 in
theorem tX4_readFact (l : Launch) (G : gG) (b : Nat) (C S : gM) (t : Int → Int) (n a q d : Int) (htx : TxS C t n a) (hb : TxB t n) (ha0 : 0 ≤ a ∧ a ≤ 60) (hq : isLife q) (hq5 : 510 ≤ q) (hs : 0 ≤ C q 6 ∧ C q 6 < 8) : Ct l G b yX4_readFact cX4_readFact 5 (some .boolean) rmX4_readFact [.ref (ad b (507)), .ref (ad b (q)), .int (iI (d))] 586 (wM G b C S) (WI G b S (fun v C' => (v = 1 ∧ fOk t n a = 1 ∧ C' = up2 (up2 (up2 (up2 (up2 C 507 4 (fA t n a)) (q + 1) (C q 6) (fS t n a)) (q + 2) (C q 6) (fL t n a)) (q + 3) (C q 6) d) q 6 (C q 6 + 1)) ∨ (v = 0 ∧ fOk t n a = 0 ∧ C' = up2 C 507 4 (fA t n a)))) := by
  refine CtK_of (by decide) (Nat.le_of_ble_eq_true rfl) q314 ?_
  intro x hl hB hE _
  subst hl
  show YM x G b 0 0 C S 0 [(0, .ref (ad b (507))), (1, .ref (ad b (q))), (2, .int (iI (d)))] []
  obtain ⟨ht, hn, ha⟩ := id htx
  have hn60 := hb.1
  refine y_aload_n hB 0 dX4_readFact_0 rfl rfl ?_
  refine y_iconst (v := 0) hB dX4_readFact_1 rfl ?_
  refine y_iconst (v := 5) hB dX4_readFact_2 rfl ?_
  refine m_V hB msX4_takeDigit q298 (tX4_takeDigit _ G b C S t n a 0 5 (htx) hb (by omega) (by omega) (by omega)) (t := 9) (by decide) (by decide) rfl rfl rfl rfl rfl ⟨Nat.le_of_ble_eq_true rfl, Nat.le_of_ble_eq_true rfl⟩ (Nat.le_of_ble_eq_true rfl) ⟨rfl, rfl⟩ ⟨Nat.le_of_ble_eq_true rfl, Nat.le_of_ble_eq_true rfl⟩ dX4_readFact_3 (k_WI (fun v_3 C_3 h_3 => ?_))
  obtain ⟨rfl, rfl⟩ := h_3
  have hg_3 := gV_b t n a 0 5
  refine y_istore_n (lv' := [(3, .int (iI (gV t n a 0 5))), (0, .ref (ad b (507))), (1, .ref (ad b (q))), (2, .int (iI (d)))]) hB dX4_readFact_6 rfl (by decide) rfl ?_
  refine y_iload_n hB 0 dX4_readFact_7 rfl rfl ?_
  refine y_bipush (v := -5) hB dX4_readFact_8 (by decide) ?_
  refine y_icmp_eq hB 22 dX4_readFact_10 (by decide) (by omega) (by omega) (fun c_10 => ?_) (fun c_10 => ?_)
  · refine y_iconst (v := 0) hB dX4_readFact_22 rfl ?_
    exact m_wi hB hE dX4_readFact_23 rfl (Or.inr ⟨rfl, by unfold fOk; rw [if_pos c_10], by unfold fA; rw [if_pos c_10]⟩)
  · refine y_aload_n hB 1 dX4_readFact_13 rfl rfl ?_
    refine y_bipush (v := 120) hB dX4_readFact_14 (by decide) ?_
    refine m_V hB msX4_takes q306 (tX4_takes _ G b (up2 C 507 4 (gA t n a 0 5)) S t n (gA t n a 0 5) 120 (TxS_at (htx)) hb (by omega) (by omega)) (t := 9) (by decide) (by decide) rfl rfl rfl rfl rfl ⟨Nat.le_of_ble_eq_true rfl, Nat.le_of_ble_eq_true rfl⟩ (Nat.le_of_ble_eq_true rfl) ⟨rfl, rfl⟩ ⟨Nat.le_of_ble_eq_true rfl, Nat.le_of_ble_eq_true rfl⟩ dX4_readFact_16 (k_WI (fun v_16 C_16 h_16 => ?_))
    obtain ⟨rfl, rfl⟩ := h_16
    rw [up2_2]
    have hg_16 := hT_b t n (gA t n a 0 5) 120
    refine y_if_ne hB 24 dX4_readFact_19 (by decide) (by omega) (fun c_19 => ?_) (fun c_19 => ?_)
    · refine y_aload_n hB 1 dX4_readFact_24 rfl rfl ?_
      refine y_iconst (v := 1) hB dX4_readFact_25 rfl ?_
      refine y_bipush (v := 9) hB dX4_readFact_26 (by decide) ?_
      refine m_V hB msX4_takeDigit q298 (tX4_takeDigit _ G b (up2 C 507 4 (hA t n (gA t n a 0 5) 120)) S t n (hA t n (gA t n a 0 5) 120) 1 9 (TxS_at (htx)) hb (by omega) (by omega) (by omega)) (t := 9) (by decide) (by decide) rfl rfl rfl rfl rfl ⟨Nat.le_of_ble_eq_true rfl, Nat.le_of_ble_eq_true rfl⟩ (Nat.le_of_ble_eq_true rfl) ⟨rfl, rfl⟩ ⟨Nat.le_of_ble_eq_true rfl, Nat.le_of_ble_eq_true rfl⟩ dX4_readFact_28 (k_WI (fun v_28 C_28 h_28 => ?_))
      obtain ⟨rfl, rfl⟩ := h_28
      rw [up2_2]
      have hg_28 := gV_b t n (hA t n (gA t n a 0 5) 120) 1 9
      refine y_istore (lv' := [(4, .int (iI (gV t n (hA t n (gA t n a 0 5) 120) 1 9))), (3, .int (iI (gV t n a 0 5))), (0, .ref (ad b (507))), (1, .ref (ad b (q))), (2, .int (iI (d)))]) hB dX4_readFact_31 (by decide) rfl ?_
      refine y_iload hB 0 dX4_readFact_33 rfl ?_
      refine y_bipush (v := -5) hB dX4_readFact_35 (by decide) ?_
      refine y_icmp_ne hB 42 dX4_readFact_37 (by decide) (by omega) (by omega) (fun c_37 => ?_) (fun c_37 => ?_)
      · refine y_aload_n hB 3 dX4_readFact_42 rfl rfl ?_
        refine y_iload_n hB 1 dX4_readFact_43 rfl rfl ?_
        refine y_iload hB 0 dX4_readFact_44 rfl ?_
        refine y_iload_n hB 4 dX4_readFact_46 rfl rfl ?_
        refine m_V hB msX2_addFact q315 (tX2_addFact _ G b (up2 C 507 4 (gA t n (hA t n (gA t n a 0 5) 120) 1 9)) S q (gV t n a 0 5) (gV t n (hA t n (gA t n a 0 5) 120) 1 9) d (C q 6) (C q 6 + 1) hq (rd_i (by omega)) (by omega) (by omega)) (t := 5) (hq).1 (by decide) rfl rfl rfl rfl rfl ⟨Nat.le_of_ble_eq_true rfl, Nat.le_of_ble_eq_true rfl⟩ (Nat.le_of_ble_eq_true rfl) ⟨rfl, rfl⟩ ⟨Nat.le_of_ble_eq_true rfl, Nat.le_of_ble_eq_true rfl⟩ dX4_readFact_47 (k_WI (fun v_47 C_47 h_47 => ?_))
        obtain ⟨h_47, rfl⟩ := h_47
        refine y_pop hB dX4_readFact_50 rfl ?_
        refine y_iconst (v := 1) hB dX4_readFact_51 rfl ?_
        exact m_wi hB hE dX4_readFact_52 rfl (Or.inl ⟨rfl, by unfold fOk; rw [if_neg c_10, if_neg (by omega), if_neg (by omega)], by unfold fA fS fL; rw [if_neg c_10, if_neg (by omega)]⟩)
      · refine y_iconst (v := 0) hB dX4_readFact_40 rfl ?_
        exact m_wi hB hE dX4_readFact_41 rfl (Or.inr ⟨rfl, by unfold fOk; rw [if_neg c_10, if_neg (by omega), if_pos (by omega)], by unfold fA; rw [if_neg c_10, if_neg (by omega)]⟩)
    · refine y_iconst (v := 0) hB dX4_readFact_22 rfl ?_
      exact m_wi hB hE dX4_readFact_23 rfl (Or.inr ⟨rfl, by unfold fOk; rw [if_neg c_10, if_pos (by omega)], by unfold fA; rw [if_neg c_10, if_pos (by omega)]⟩)
