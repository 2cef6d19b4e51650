/-! sums, masks, shifts: the pure words of the loops -/
def sm (f : Int → Int) : Nat → Int
  | 0 => 0
  | n + 1 => sm f n + f n
def smI (f : Int → Int) (n : Int) : Int := sm f n.toNat
theorem smI_0 (f : Int → Int) : smI f 0 = 0 := rfl
theorem smI_s (f : Int → Int) {i : Int} (h : 0 ≤ i) : smI f (i + 1) = smI f i + f i := by
  unfold smI
  rw [show (i + 1).toNat = i.toNat + 1 by omega]
  show sm f i.toNat + f (i.toNat : Int) = _
  rw [Int.toNat_of_nonneg h]
theorem smI_congr {f g : Int → Int} {n : Int} (h : ∀ j, 0 ≤ j → j < n → f j = g j) : smI f n = smI g n := by
  unfold smI
  have key : ∀ m : Nat, (m : Int) ≤ n ∨ m = 0 → sm f m = sm g m := by
    intro m
    induction m with
    | zero => intro _; rfl
    | succ m ih =>
      intro hm
      show sm f m + f m = sm g m + g m
      rw [ih (by omega), h m (by omega) (by omega)]
  exact key _ (by omega)
theorem smI_le {f : Int → Int} {n a c : Int} (h0 : 0 ≤ n) (h : ∀ j, 0 ≤ j → j < n → a ≤ f j ∧ f j ≤ c) : a * n ≤ smI f n ∧ smI f n ≤ c * n := by
  have key : ∀ m : Nat, (m : Int) ≤ n → a * m ≤ sm f m ∧ sm f m ≤ c * m := by
    intro m
    induction m with
    | zero => intro _; simp [sm]
    | succ m ih =>
      intro hm
      have h1 := ih (by omega)
      have h2 := h m (by omega) (by omega)
      show a * ((m + 1 : Nat) : Int) ≤ sm f m + f m ∧ sm f m + f m ≤ c * ((m + 1 : Nat) : Int)
      rw [show ((m + 1 : Nat) : Int) = (m : Int) + 1 by omega, Int.mul_add, Int.mul_add, Int.mul_one, Int.mul_one]
      omega
  have h9 := key n.toNat (by omega)
  rw [Int.toNat_of_nonneg h0] at h9
  exact h9
def orI (a c : Int) : Int := ((a.toNat ||| c.toNat : Nat) : Int)
theorem orI_lt {a c : Int} (ha : 0 ≤ a ∧ a < 64) (hc : 0 ≤ c ∧ c < 64) : 0 ≤ orI a c ∧ orI a c < 64 := by
  unfold orI
  have := Nat.or_lt_two_pow (x := a.toNat) (y := c.toNat) (n := 6) (by omega) (by omega)
  omega
theorem iI_or {a c : Int} (ha : 0 ≤ a ∧ a < 64) (hc : 0 ≤ c ∧ c < 64) : iI a ||| iI c = iI (orI a c) := by
  have h := co_all (P := fun a => ∀ c : Nat, c < 64 → iI a ||| iI (c : Int) = iI (orI a c)) 64 (by decide +kernel) ha c.toNat (by omega)
  rwa [Int.toNat_of_nonneg hc.1] at h
def p2 (s : Int) : Int := ((2 ^ s.toNat : Nat) : Int)
theorem p2_lt {s : Int} (h : 0 ≤ s ∧ s ≤ 5) : 0 ≤ p2 s ∧ p2 s < 64 := by
  rcases (show s = 0 ∨ s = 1 ∨ s = 2 ∨ s = 3 ∨ s = 4 ∨ s = 5 by omega) with rfl | rfl | rfl | rfl | rfl | rfl <;> decide
theorem iI_shl {s : Int} (h : 0 ≤ s ∧ s ≤ 5) : iI 1 <<< (iI s &&& 31) = iI (p2 s) := by
  rcases (show s = 0 ∨ s = 1 ∨ s = 2 ∨ s = 3 ∨ s = 4 ∨ s = 5 by omega) with rfl | rfl | rfl | rfl | rfl | rfl <;> decide
def mkN (f : Int → Int) : Nat → Int
  | 0 => 0
  | n + 1 => orI (mkN f n) (p2 (f n))
def mkI (f : Int → Int) (n : Int) : Int := mkN f n.toNat
theorem mkI_0 (f : Int → Int) : mkI f 0 = 0 := rfl
theorem mkI_s (f : Int → Int) {i : Int} (h : 0 ≤ i) : mkI f (i + 1) = orI (mkI f i) (p2 (f i)) := by
  unfold mkI
  rw [show (i + 1).toNat = i.toNat + 1 by omega]
  show orI (mkN f i.toNat) (p2 (f (i.toNat : Int))) = _
  rw [Int.toNat_of_nonneg h]
theorem mkI_lt {f : Int → Int} {n : Int} (h : ∀ j, 0 ≤ j → j < n → 0 ≤ f j ∧ f j ≤ 5) : 0 ≤ mkI f n ∧ mkI f n < 64 := by
  unfold mkI
  have key : ∀ m : Nat, (m : Int) ≤ n ∨ m = 0 → 0 ≤ mkN f m ∧ mkN f m < 64 := by
    intro m
    induction m with
    | zero => intro _; simp [mkN]
    | succ m ih =>
      intro hm
      exact orI_lt (ih (by omega)) (p2_lt (h m (by omega) (by omega)))
  exact key _ (by omega)
theorem mkI_congr {f g : Int → Int} {n : Int} (h : ∀ j, 0 ≤ j → j < n → f j = g j) : mkI f n = mkI g n := by
  unfold mkI
  have key : ∀ m : Nat, (m : Int) ≤ n ∨ m = 0 → mkN f m = mkN g m := by
    intro m
    induction m with
    | zero => intro _; rfl
    | succ m ih =>
      intro hm
      show orI (mkN f m) (p2 (f m)) = orI (mkN g m) (p2 (g m))
      rw [ih (by omega), h m (by omega) (by omega)]
  exact key _ (by omega)
/-- how many of the six bits are set -/
def pcI (m : Int) : Int := smI (fun k => m / p2 k % 2) 6
theorem pcI_b {m : Int} (h : 0 ≤ m ∧ m < 64) : 0 ≤ pcI m ∧ pcI m ≤ 6 := co_all (P := fun m => 0 ≤ pcI m ∧ pcI m ≤ 6) 64 (by decide +kernel) h
/-- a row whose places from u on, before n, have come one down -/
def shl1 (c : Int → Int) (u n : Int) : Int → Int := fun j => if u ≤ j ∧ j < n then c (j + 1) else c j
def shl3 (C : gM) (q u n : Int) : gM := fun a => if a = q + 1 ∨ a = q + 2 ∨ a = q + 3 then shl1 (C a) u n else C a
theorem shl3_in (C : gM) {q u n a j : Int} (h : a = q + 1 ∨ a = q + 2 ∨ a = q + 3) : shl3 C q u n a j = if u ≤ j ∧ j < n then C a (j + 1) else C a j := by
  unfold shl3
  rw [if_pos h]
  rfl
theorem shl3_out (C : gM) {q u n a j : Int} (h : ¬ (a = q + 1 ∨ a = q + 2 ∨ a = q + 3)) : shl3 C q u n a j = C a j := by
  unfold shl3
  rw [if_neg h]
theorem shl3_0 (C : gM) (q u : Int) : shl3 C q u u = C := by
  funext a j
  by_cases h : a = q + 1 ∨ a = q + 2 ∨ a = q + 3
  · rw [shl3_in C h, if_neg (by omega)]
  · rw [shl3_out C h]
theorem shl3_at (C : gM) {q u i a j : Int} (h : u ≤ i) (ha : a = q + 1 ∨ a = q + 2 ∨ a = q + 3) : (if j = i then shl3 C q u i a (i + 1) else shl3 C q u i a j) = shl3 C q u (i + 1) a j := by
  rw [shl3_in C ha, shl3_in C ha, shl3_in C ha]
  by_cases hj : j = i
  · subst hj
    rw [if_pos rfl, if_neg (by omega), if_pos (by omega)]
  · rw [if_neg hj]
    by_cases h3 : u ≤ j ∧ j < i
    · rw [if_pos h3, if_pos (by omega)]
    · rw [if_neg h3, if_neg (by omega)]
theorem rd_at {C : gM} {k j x i : Int} : up2 C k j x k i = if i = j then x else C k i := by rw [up2_self]; rfl
theorem shl3_s (C : gM) (q u i : Int) (h : u ≤ i) : up2 (up2 (up2 (shl3 C q u i) (q + 1) i (shl3 C q u i (q + 1) (i + 1))) (q + 2) i (shl3 C q u i (q + 2) (i + 1))) (q + 3) i (shl3 C q u i (q + 3) (i + 1)) = shl3 C q u (i + 1) := by
  funext a j
  by_cases h1 : a = q + 1
  · rw [rd_k (by omega), rd_k (by omega)]
    subst h1
    rw [rd_at]
    exact shl3_at C h (Or.inl rfl)
  · by_cases h2 : a = q + 2
    · rw [rd_k (by omega)]
      subst h2
      rw [rd_at, rd_k (by omega)]
      exact shl3_at C h (Or.inr (Or.inl rfl))
    · by_cases h4 : a = q + 3
      · subst h4
        rw [rd_at, rd_k (by omega), rd_k (by omega)]
        exact shl3_at C h (Or.inr (Or.inr rfl))
      · rw [rd_k h4, rd_k h2, rd_k h1, shl3_out C (by omega), shl3_out C (by omega)]
theorem shl3_q (C : gM) (q u n j : Int) : shl3 C q u n q j = C q j := shl3_out C (by omega)
def upA (C : gM) (k : Int) (f : Int → Int) : gM := fun a => if a = k then f else C a
def cpI (f g : Int → Int) (n : Int) : Int → Int := fun j => if 0 ≤ j ∧ j < n then f j else g j
def cpL (C : gM) (q p : Int) : gM := fun a => if a = q then cpI (C p) (C q) 7 else if a = q + 1 then cpI (C (p + 1)) (C (q + 1)) 8 else if a = q + 2 then cpI (C (p + 2)) (C (q + 2)) 8 else if a = q + 3 then cpI (C (p + 3)) (C (q + 3)) 8 else C a
def cpT (C : gM) (q p : Int) : gM := up2 (up2 (up2 (up2 (up2 (up2 (up2 C q 0 (C p 0)) q 1 (C p 1)) q 2 (C p 2)) q 3 (C p 3)) q 4 (C p 4)) q 5 (C p 5)) q 6 (C p 6)
theorem cpT_ne (C : gM) {q p a : Int} (h : a ≠ q) : cpT C q p a = C a := by
  unfold cpT
  rw [up2_ne _ _ _ h, up2_ne _ _ _ h, up2_ne _ _ _ h, up2_ne _ _ _ h, up2_ne _ _ _ h, up2_ne _ _ _ h, up2_ne _ _ _ h]
theorem cpT_q (C : gM) (q p : Int) : cpT C q p q = cpI (C p) (C q) 7 := by
  funext j
  unfold cpT cpI
  simp only [rd_at]
  by_cases h : 0 ≤ j ∧ j < 7
  · rw [if_pos h]
    rcases (show j = 0 ∨ j = 1 ∨ j = 2 ∨ j = 3 ∨ j = 4 ∨ j = 5 ∨ j = 6 by omega) with rfl | rfl | rfl | rfl | rfl | rfl | rfl <;> simp
  · rw [if_neg h]
    repeat rw [if_neg (by omega)]
def cpU1 (C : gM) (q p : Int) : gM := upA (cpT C q p) (q + 1) (cpI (cpT C q p (p + 1)) (cpT C q p (q + 1)) 8)
def cpU2 (C : gM) (q p : Int) : gM := upA (cpU1 C q p) (q + 2) (cpI (cpU1 C q p (p + 2)) (cpU1 C q p (q + 2)) 8)
def cpU3 (C : gM) (q p : Int) : gM := upA (cpU2 C q p) (q + 3) (cpI (cpU2 C q p (p + 3)) (cpU2 C q p (q + 3)) 8)
theorem upA_self (C : gM) (k : Int) (f : Int → Int) : upA C k f k = f := by simp [upA]
theorem upA_ne (C : gM) {k a : Int} (f : Int → Int) (h : a ≠ k) : upA C k f a = C a := by simp [upA, h]
theorem cpL_eq (C : gM) {q p : Int} (hd : p + 4 ≤ q ∨ q + 4 ≤ p) : cpU3 C q p = cpL C q p := by
  have e1 : ∀ a, a ≠ q → a ≠ q + 1 → cpU1 C q p a = C a := fun a h h1 => by unfold cpU1; rw [upA_ne _ _ h1, cpT_ne _ h]
  have e2 : ∀ a, a ≠ q → a ≠ q + 1 → a ≠ q + 2 → cpU2 C q p a = C a := fun a h h1 h2 => by unfold cpU2; rw [upA_ne _ _ h2, e1 a h h1]
  funext a
  unfold cpL
  by_cases h0 : a = q
  · subst h0
    rw [if_pos rfl]
    unfold cpU3 cpU2 cpU1
    rw [upA_ne _ _ (by omega), upA_ne _ _ (by omega), upA_ne _ _ (by omega), cpT_q]
  · rw [if_neg h0]
    by_cases h1 : a = q + 1
    · subst h1
      rw [if_pos rfl]
      unfold cpU3 cpU2
      rw [upA_ne _ _ (by omega), upA_ne _ _ (by omega)]
      unfold cpU1
      rw [upA_self, cpT_ne _ (by omega), cpT_ne _ (by omega)]
    · rw [if_neg h1]
      by_cases h2 : a = q + 2
      · subst h2
        rw [if_pos rfl]
        unfold cpU3
        rw [upA_ne _ _ (by omega)]
        unfold cpU2
        rw [upA_self, e1 _ (by omega) (by omega), e1 _ (by omega) (by omega)]
      · rw [if_neg h2]
        by_cases h3 : a = q + 3
        · subst h3
          rw [if_pos rfl]
          unfold cpU3
          rw [upA_self, e2 _ (by omega) (by omega) (by omega), e2 _ (by omega) (by omega) (by omega)]
        · rw [if_neg h3]
          unfold cpU3
          rw [upA_ne _ _ h3, e2 a h0 h1 h2]
theorem wM_putA {G : gG} {b : Nat} {C S : gM} {k : Int} {f : Int → Int} {e : va_E} {t : Nat} (h : kd k = t) (he : wS G b t k f (S k) = e) : upW (wM G b C S) k e = wM G b (upA C k f) S := by
  funext i
  by_cases hi : i = k
  · subst hi
    rw [upW_self, wM_at h]
    simp [upA, he]
  · rw [upW_ne _ _ hi]
    unfold wM
    simp [upA, hi]
theorem cp_cpy (f g : Int → Int) (n : Nat) : va_cpy (fun j : Nat => iI (f j)) (fun j : Nat => iI (g j)) 0 0 n = (fun j : Nat => iI (cpI f g n j)) := by
  funext j
  unfold va_cpy cpI
  by_cases h : j < n
  · rw [if_pos (by omega), if_pos (by omega)]
    simp
  · rw [if_neg (by omega), if_neg (by omega)]
section
variable {x : gX} {G : gG} {b cl sl nL : Nat} {nm own : String} {cc : ByteArray} {ret : Option FieldType} {rm : Room} {C S : gM} {pc : Nat} {lv : List (Nat × Value)} {st : List Value} {k0 k1 : Int}
theorem cpy_6 (hB : Bx x G b own cc nL ret rm nm) (h0 : kd k0 = 6) (h1 : kd k1 = 6) {index : Nat} (q1 : (.methodLink own index arraycopyName : Cond) ∈ lw_g) (q2 : (.native arraycopyName : Cond) ∈ lw_g) (q3 : (.static arraycopyName : Cond) ∈ lw_g) (q4 : (.initialized "java/lang/System" : Cond) ∈ lw_g) (hfr : 1 ≤ rm.frames) (hlo : (st.map fun v => v.category).sum + (nativeFrameWords "java/lang/System" "arraycopy" 5 + 11) ≤ rm.locals) (d : decode cc pc = .ok (.invokestatic index, 3)) (kk : YM x G b cl sl (upA C k1 (cpI (C k0) (C k1) 8)) S (pc + 3) lv st) : YM x G b cl sl C S pc lv (.int (iI 8) :: .int (iI 0) :: .ref (ad b k1) :: .int (iI 0) :: .ref (ad b k0) :: st) := y_copyi hB (kd_rng h0 (by decide)) (kd_rng h1 (by decide)) (wM_at h0) (wM_at h1) (by decide) (by decide) (by decide) (by decide) (by decide) q1 q2 q3 q4 hfr hlo d (by rw [wM_putA (f := cpI (C k0) (C k1) 8) h1 (by simp only [wS]; exact congrArg (fun f => (Sum.inl (G.2 0, 8, Sum.inl f) : va_E)) (cp_cpy (C k0) (C k1) 8).symm)]; exact kk)
theorem cpy_2 (hB : Bx x G b own cc nL ret rm nm) (h0 : kd k0 = 2) (h1 : kd k1 = 2) {index : Nat} (q1 : (.methodLink own index arraycopyName : Cond) ∈ lw_g) (q2 : (.native arraycopyName : Cond) ∈ lw_g) (q3 : (.static arraycopyName : Cond) ∈ lw_g) (q4 : (.initialized "java/lang/System" : Cond) ∈ lw_g) (hfr : 1 ≤ rm.frames) (hlo : (st.map fun v => v.category).sum + (nativeFrameWords "java/lang/System" "arraycopy" 5 + 11) ≤ rm.locals) (d : decode cc pc = .ok (.invokestatic index, 3)) (kk : YM x G b cl sl (upA C k1 (cpI (C k0) (C k1) 5)) S (pc + 3) lv st) : YM x G b cl sl C S pc lv (.int (iI 5) :: .int (iI 0) :: .ref (ad b k1) :: .int (iI 0) :: .ref (ad b k0) :: st) := y_copyi hB (kd_rng h0 (by decide)) (kd_rng h1 (by decide)) (wM_at h0) (wM_at h1) (by decide) (by decide) (by decide) (by decide) (by decide) q1 q2 q3 q4 hfr hlo d (by rw [wM_putA (f := cpI (C k0) (C k1) 5) h1 (by simp only [wS]; exact congrArg (fun f => (Sum.inl (G.2 0, 5, Sum.inl f) : va_E)) (cp_cpy (C k0) (C k1) 5).symm)]; exact kk)
theorem cpy_3 (hB : Bx x G b own cc nL ret rm nm) (h0 : kd k0 = 3) (h1 : kd k1 = 3) {index : Nat} (q1 : (.methodLink own index arraycopyName : Cond) ∈ lw_g) (q2 : (.native arraycopyName : Cond) ∈ lw_g) (q3 : (.static arraycopyName : Cond) ∈ lw_g) (q4 : (.initialized "java/lang/System" : Cond) ∈ lw_g) (hfr : 1 ≤ rm.frames) (hlo : (st.map fun v => v.category).sum + (nativeFrameWords "java/lang/System" "arraycopy" 5 + 11) ≤ rm.locals) (d : decode cc pc = .ok (.invokestatic index, 3)) (kk : YM x G b cl sl (upA C k1 (cpI (C k0) (C k1) 6)) S (pc + 3) lv st) : YM x G b cl sl C S pc lv (.int (iI 6) :: .int (iI 0) :: .ref (ad b k1) :: .int (iI 0) :: .ref (ad b k0) :: st) := y_copyi hB (kd_rng h0 (by decide)) (kd_rng h1 (by decide)) (wM_at h0) (wM_at h1) (by decide) (by decide) (by decide) (by decide) (by decide) q1 q2 q3 q4 hfr hlo d (by rw [wM_putA (f := cpI (C k0) (C k1) 6) h1 (by simp only [wS]; exact congrArg (fun f => (Sum.inl (G.2 0, 6, Sum.inl f) : va_E)) (cp_cpy (C k0) (C k1) 6).symm)]; exact kk)
theorem y_ishl1 {n : Int} {w : Int → va_E} (hB : Bx x G b own cc nL ret rm nm) {s : Int} (hs : 0 ≤ s ∧ s ≤ 5) (d : decode cc pc = .ok (.ishl, 1)) (kk : Y x G b cl sl n w (pc + 1) lv (.int (iI (p2 s)) :: st)) : Y x G b cl sl n w pc lv (.int (iI s) :: .int (iI 1) :: st) := by
  obtain ⟨hx, hb, hml, hown, hts, hK, hbs, hlk, hrt, hR, hnm⟩ := hB
  intro H locs ls hRp hS hL
  refine lv_ishl hx hb d ?_
  rw [iI_shl hs]
  exact kk H locs ls hRp hS hL
theorem y_ior {n : Int} {w : Int → va_E} (hB : Bx x G b own cc nL ret rm nm) {u v : Int} (hu : 0 ≤ u ∧ u < 64) (hv : 0 ≤ v ∧ v < 64) (d : decode cc pc = .ok (.ior, 1)) (kk : Y x G b cl sl n w (pc + 1) lv (.int (iI (orI u v)) :: st)) : Y x G b cl sl n w pc lv (.int (iI v) :: .int (iI u) :: st) := by
  obtain ⟨hx, hb, hml, hown, hts, hK, hbs, hlk, hrt, hR, hnm⟩ := hB
  intro H locs ls hRp hS hL
  refine lv_ior hx hb d ?_
  rw [iI_or hu hv]
  exact kk H locs ls hRp hS hL
theorem y_iaddR {n : Int} {w : Int → va_E} (hB : Bx x G b own cc nL ret rm nm) {u v : Int32} (d : decode cc pc = .ok (.iadd, 1)) (kk : Y x G b cl sl n w (pc + 1) lv (.int (u + v) :: st)) : Y x G b cl sl n w pc lv (.int v :: .int u :: st) := by
  obtain ⟨hx, hb, hml, hown, hts, hK, hbs, hlk, hrt, hR, hnm⟩ := hB
  intro H locs ls hRp hS hL
  exact lv_iadd hx hb d (kk H locs ls hRp hS hL)
theorem y_isubR {n : Int} {w : Int → va_E} (hB : Bx x G b own cc nL ret rm nm) {u v : Int32} (d : decode cc pc = .ok (.isub, 1)) (kk : Y x G b cl sl n w (pc + 1) lv (.int (u - v) :: st)) : Y x G b cl sl n w pc lv (.int v :: .int u :: st) := by
  obtain ⟨hx, hb, hml, hown, hts, hK, hbs, hlk, hrt, hR, hnm⟩ := hB
  intro H locs ls hRp hS hL
  exact lv_isub hx hb d (kk H locs ls hRp hS hL)
theorem y_iandR {n : Int} {w : Int → va_E} (hB : Bx x G b own cc nL ret rm nm) {u v : Int32} (d : decode cc pc = .ok (.iand, 1)) (kk : Y x G b cl sl n w (pc + 1) lv (.int (u &&& v) :: st)) : Y x G b cl sl n w pc lv (.int v :: .int u :: st) := by
  obtain ⟨hx, hb, hml, hown, hts, hK, hbs, hlk, hrt, hR, hnm⟩ := hB
  intro H locs ls hRp hS hL
  exact lv_iand hx hb d (kk H locs ls hRp hS hL)
theorem y_iushrR {n : Int} {w : Int → va_E} (hB : Bx x G b own cc nL ret rm nm) {u v : Int32} (d : decode cc pc = .ok (.iushr, 1)) (kk : Y x G b cl sl n w (pc + 1) lv (.int (u.toUInt32 >>> (v.toUInt32 &&& Int32.toUInt32 31)).toInt32 :: st)) : Y x G b cl sl n w pc lv (.int v :: .int u :: st) := by
  obtain ⟨hx, hb, hml, hown, hts, hK, hbs, hlk, hrt, hR, hnm⟩ := hB
  intro H locs ls hRp hS hL
  exact lv_iushr hx hb d rfl (kk H locs ls hRp hS hL)
theorem y_ishrR {n : Int} {w : Int → va_E} (hB : Bx x G b own cc nL ret rm nm) {u v : Int32} (d : decode cc pc = .ok (.ishr, 1)) (kk : Y x G b cl sl n w (pc + 1) lv (.int (u >>> (v &&& 31)) :: st)) : Y x G b cl sl n w pc lv (.int v :: .int u :: st) := by
  obtain ⟨hx, hb, hml, hown, hts, hK, hbs, hlk, hrt, hR, hnm⟩ := hB
  intro H locs ls hRp hS hL
  exact lv_ishr hx hb d (kk H locs ls hRp hS hL)
end
