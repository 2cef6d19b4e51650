/-! the cells: kinds by numbers; C: what the class's cells hold, S: the reference's -/
def up1 (c : Int → Int) (j x : Int) : Int → Int := fun i => if i = j then x else c i
def up2 (C : Int → Int → Int) (k j x : Int) : Int → Int → Int := fun a => if a = k then up1 (C k) j x else C a
theorem up2_self (C : Int → Int → Int) (k j x : Int) : up2 C k j x k = up1 (C k) j x := by simp [up2]
theorem up2_ne (C : Int → Int → Int) {k a : Int} (j x : Int) (h : a ≠ k) : up2 C k j x a = C a := by simp [up2, h]
theorem rd_hit {C : Int → Int → Int} {k j x a i : Int} (h : a = k) (h2 : i = j) : up2 C k j x a i = x := by subst h; subst h2; rw [up2_self]; simp [up1]
theorem rd_k {C : Int → Int → Int} {k j x a i : Int} (h : a ≠ k) : up2 C k j x a i = C a i := by rw [up2_ne _ _ _ h]
theorem rd_i {C : Int → Int → Int} {k j x a i : Int} (h : i ≠ j) : up2 C k j x a i = C a i := by
  by_cases ha : a = k
  · subst ha; rw [up2_self]; simp [up1, h]
  · rw [up2_ne _ _ _ ha]
def lk (r : Int) : Nat := if r = 0 then 5 else 6
def dk (r : Int) : Nat := if r = 0 then 1 else if r = 1 then 2 else if r = 2 then 3 else if r = 3 then 4 else lk ((r - 4) % 4)
def kd (k : Int) : Nat :=
  if k < 0 then 99 else if k = 0 then 0 else if k < 169 then dk ((k - 1) % 84) else if k = 169 then 7 else if k = 170 then 8 else if k < 507 then dk ((k - 171) % 84)
  else if k = 507 then 9 else if k = 508 then 10 else if k = 509 then 11 else if k < 570 then lk ((k - 510) % 4) else if k = 570 then 12 else if k = 571 then 13 else if k = 572 then 13
  else if k = 573 then 14 else if k = 574 then 12 else if k < 578 then 13 else 99
theorem kd_rng {k : Int} {t : Nat} (h : kd k = t) (ht : t ≠ 99) : 0 ≤ k ∧ k < 578 := by
  subst h
  by_cases h1 : k < 0
  · exact absurd (by unfold kd; rw [if_pos h1]) ht
  · by_cases h2 : k < 578
    · omega
    · refine absurd ?_ ht
      unfold kd
      repeat rw [if_neg (by omega)]
def wS (G : gG) (b : Nat) (t : Nat) (k : Int) (c s : Int → Int) : va_E := match t with
  | 0 => .inr (6, [.ref (ad b (k + 1)), .ref (ad b (k + 85)), .int (iI (c 2)), .ref (ad b (k + 169)), .ref (ad b (k + 507)), .ref (ad b (k + 570)), .ref (ad b (k + 573))])
  | 1 => .inr (0, [.ref (ad b (k + 1)), .ref (ad b (k + 2)), .ref (ad b (k + 3)), .int (iI (c 3)), .int (iI (c 4)), .int (iI (c 5)), .int (iI (c 6))])
  | 5 => .inr (2, [.int (iI (c 0)), .int (iI (c 1)), .int (iI (c 2)), .int (iI (c 3)), .int (iI (c 4)), .int (iI (c 5)), .int (iI (c 6)), .ref (ad b (k + 1)), .ref (ad b (k + 2)), .ref (ad b (k + 3))])
  | 7 => .inr (1, [.ref (ad b (k + 1)), .int (iI (c 1)), .int (iI (c 2))])
  | 9 => .inr (4, [.ref (ad b (k + 1)), .int (iI (c 1)), .ref (ad b (k + 2)), .int (iI (c 3)), .int (iI (c 4))])
  | 12 => .inr (5, [.ref (ad b (k + 1)), .ref (ad b (k + 2)), .int (iI (c 2))])
  | 14 => .inr (3, [.ref (ad b (k + 1)), .ref (ad b (k + 4)), .int (iI (c 2)), .int (iI (c 3))])
  | 2 => .inl (G.2 0, 5, .inl (fun j : Nat => iI (c j)))
  | 3 => .inl (G.2 0, 6, .inl (fun j : Nat => iI (c j)))
  | 6 => .inl (G.2 0, 8, .inl (fun j : Nat => iI (c j)))
  | 10 => .inl (G.2 2, 60, .inl (fun j : Nat => iI (c j)))
  | 13 => .inl (G.2 0, 20, .inl (fun j : Nat => iI (c j)))
  | 4 => .inl (G.2 3, 20, .inr (.inr (.inr (.inr (fun j : Nat => some (ad b (k + 1 + 4 * j)))))))
  | 8 => .inl (G.2 4, 4, .inr (.inr (.inr (.inr (fun j : Nat => some (ad b (k + 1 + 84 * j)))))))
  | 11 => .inl (G.2 3, 15, .inr (.inr (.inr (.inr (fun j : Nat => some (ad b (k + 1 + 4 * j)))))))
  | _ => .inr (0, [])
def wM (G : gG) (b : Nat) (C S : Int → Int → Int) (k : Int) : va_E := wS G b (kd k) k (C k) (S k)
theorem wM_at {G : gG} {b : Nat} {C S : Int → Int → Int} {k : Int} {t : Nat} (h : kd k = t) : wM G b C S k = wS G b t k (C k) (S k) := by unfold wM; rw [h]
theorem wM_putC {G : gG} {b : Nat} {C S : Int → Int → Int} {k j x : Int} {e : va_E} {t : Nat} (h : kd k = t) (he : wS G b t k (up1 (C k) j x) (S k) = e) : upW (wM G b C S) k e = wM G b (up2 C k j x) S := by
  funext i
  by_cases hi : i = k
  · subst hi
    rw [upW_self, wM_at h, up2_self, he]
  · rw [upW_ne _ _ hi]
    unfold wM
    rw [up2_ne _ _ _ hi]
theorem wM_putS {G : gG} {b : Nat} {C S : Int → Int → Int} {k j x : Int} {e : va_E} {t : Nat} (h : kd k = t) (he : wS G b t k (C k) (up1 (S k) j x) = e) : upW (wM G b C S) k e = wM G b C (up2 S k j x) := by
  funext i
  by_cases hi : i = k
  · subst hi
    rw [upW_self, wM_at h, up2_self, he]
  · rw [upW_ne _ _ hi]
    unfold wM
    rw [up2_ne _ _ _ hi]
theorem arr_up (c : Int → Int) {i x : Int} (hi : 0 ≤ i) : (fun j : Nat => iI (up1 c i x j)) = upd (fun j : Nat => iI (c j)) i.toNat (iI x) := by
  funext j
  unfold up1 upd
  by_cases h : j = i.toNat
  · rw [if_pos h, if_pos (by omega)]
  · rw [if_neg h, if_neg (by omega)]
abbrev YM (x : gX) (G : gG) (b cl sl : Nat) (C S : Int → Int → Int) (pc : Nat) (lv : List (Nat × Value)) (st : List Value) : Prop := Y x G b cl sl 578 (wM G b C S) pc lv st
section
variable {x : gX} {G : gG} {b cl sl nL : Nat} {nm own : String} {cc : ByteArray} {ret : Option FieldType} {rm : Room} {C S : Int → Int → Int} {pc : Nat} {lv : List (Nat × Value)} {st : List Value} {k : Int}
theorem gt_0_0 (hB : Bx x G b RX0 cc nL ret rm nm) (hk : kd k = 1) {t1 : Int} (e : k + 1 = t1) (d : decode cc pc = .ok (.getfield 9, 3)) (kk : YM x G b cl sl C S (pc + 3) lv (.ref (ad b t1) :: st)) : YM x G b cl sl C S pc lv (.ref (ad b k) :: st) := by
  subst e
  exact y_get hB (C := RX0) (T := TX0) (N := 7) inX0 (kd_rng hk (by decide)) (wM_at hk) rfl 0 (by decide) q65 rfl d kk
theorem gt_0_1 (hB : Bx x G b RX0 cc nL ret rm nm) (hk : kd k = 1) {t1 : Int} (e : k + 2 = t1) (d : decode cc pc = .ok (.getfield 15, 3)) (kk : YM x G b cl sl C S (pc + 3) lv (.ref (ad b t1) :: st)) : YM x G b cl sl C S pc lv (.ref (ad b k) :: st) := by
  subst e
  exact y_get hB (C := RX0) (T := TX0) (N := 7) inX0 (kd_rng hk (by decide)) (wM_at hk) rfl 1 (by decide) q66 rfl d kk
theorem gt_0_2 (hB : Bx x G b RX0 cc nL ret rm nm) (hk : kd k = 1) {t1 : Int} (e : k + 3 = t1) (d : decode cc pc = .ok (.getfield 20, 3)) (kk : YM x G b cl sl C S (pc + 3) lv (.ref (ad b t1) :: st)) : YM x G b cl sl C S pc lv (.ref (ad b k) :: st) := by
  subst e
  exact y_get hB (C := RX0) (T := TX0) (N := 7) inX0 (kd_rng hk (by decide)) (wM_at hk) rfl 2 (by decide) q67 rfl d kk
theorem gt_0_3 (hB : Bx x G b RX0 cc nL ret rm nm) (hk : kd k = 1) {t1 : Int} (e : C k 3 = t1) (d : decode cc pc = .ok (.getfield 35, 3)) (kk : YM x G b cl sl C S (pc + 3) lv (.int (iI t1) :: st)) : YM x G b cl sl C S pc lv (.ref (ad b k) :: st) := by
  subst e
  exact y_get hB (C := RX0) (T := TX0) (N := 7) inX0 (kd_rng hk (by decide)) (wM_at hk) rfl 3 (by decide) q68 rfl d kk
theorem pt_0_3 (hB : Bx x G b RX0 cc nL ret rm nm) (hk : kd k = 1) {x1 : Int} (d : decode cc pc = .ok (.putfield 35, 3)) (kk : YM x G b cl sl (up2 C k 3 x1) S (pc + 3) lv st) : YM x G b cl sl C S pc lv (.int (iI x1) :: .ref (ad b k) :: st) := y_put hB (C := RX0) (T := TX0) (N := 7) tyX0 tyX0_ok nmX0 inX0 (kd_rng hk (by decide)) (wM_at hk) rfl 3 (by decide) q68 rfl rfl rfl (Nat.le_of_ble_eq_true rfl) d (by rw [wM_putC (j := 3) (x := x1) hk (by rfl)]; exact kk)
theorem gt_0_4 (hB : Bx x G b RX0 cc nL ret rm nm) (hk : kd k = 1) {t1 : Int} (e : C k 4 = t1) (d : decode cc pc = .ok (.getfield 38, 3)) (kk : YM x G b cl sl C S (pc + 3) lv (.int (iI t1) :: st)) : YM x G b cl sl C S pc lv (.ref (ad b k) :: st) := by
  subst e
  exact y_get hB (C := RX0) (T := TX0) (N := 7) inX0 (kd_rng hk (by decide)) (wM_at hk) rfl 4 (by decide) q69 rfl d kk
theorem pt_0_4 (hB : Bx x G b RX0 cc nL ret rm nm) (hk : kd k = 1) {x1 : Int} (d : decode cc pc = .ok (.putfield 38, 3)) (kk : YM x G b cl sl (up2 C k 4 x1) S (pc + 3) lv st) : YM x G b cl sl C S pc lv (.int (iI x1) :: .ref (ad b k) :: st) := y_put hB (C := RX0) (T := TX0) (N := 7) tyX0 tyX0_ok nmX0 inX0 (kd_rng hk (by decide)) (wM_at hk) rfl 4 (by decide) q69 rfl rfl rfl (Nat.le_of_ble_eq_true rfl) d (by rw [wM_putC (j := 4) (x := x1) hk (by rfl)]; exact kk)
theorem gt_0_5 (hB : Bx x G b RX0 cc nL ret rm nm) (hk : kd k = 1) {t1 : Int} (e : C k 5 = t1) (d : decode cc pc = .ok (.getfield 25, 3)) (kk : YM x G b cl sl C S (pc + 3) lv (.int (iI t1) :: st)) : YM x G b cl sl C S pc lv (.ref (ad b k) :: st) := by
  subst e
  exact y_get hB (C := RX0) (T := TX0) (N := 7) inX0 (kd_rng hk (by decide)) (wM_at hk) rfl 5 (by decide) q70 rfl d kk
theorem pt_0_5 (hB : Bx x G b RX0 cc nL ret rm nm) (hk : kd k = 1) {x1 : Int} (d : decode cc pc = .ok (.putfield 25, 3)) (kk : YM x G b cl sl (up2 C k 5 x1) S (pc + 3) lv st) : YM x G b cl sl C S pc lv (.int (iI x1) :: .ref (ad b k) :: st) := y_put hB (C := RX0) (T := TX0) (N := 7) tyX0 tyX0_ok nmX0 inX0 (kd_rng hk (by decide)) (wM_at hk) rfl 5 (by decide) q70 rfl rfl rfl (Nat.le_of_ble_eq_true rfl) d (by rw [wM_putC (j := 5) (x := x1) hk (by rfl)]; exact kk)
theorem gt_0_6 (hB : Bx x G b RX0 cc nL ret rm nm) (hk : kd k = 1) {t1 : Int} (e : C k 6 = t1) (d : decode cc pc = .ok (.getfield 41, 3)) (kk : YM x G b cl sl C S (pc + 3) lv (.int (iI t1) :: st)) : YM x G b cl sl C S pc lv (.ref (ad b k) :: st) := by
  subst e
  exact y_get hB (C := RX0) (T := TX0) (N := 7) inX0 (kd_rng hk (by decide)) (wM_at hk) rfl 6 (by decide) q71 rfl d kk
theorem pt_0_6 (hB : Bx x G b RX0 cc nL ret rm nm) (hk : kd k = 1) {x1 : Int} (d : decode cc pc = .ok (.putfield 41, 3)) (kk : YM x G b cl sl (up2 C k 6 x1) S (pc + 3) lv st) : YM x G b cl sl C S pc lv (.int (iI x1) :: .ref (ad b k) :: st) := y_put hB (C := RX0) (T := TX0) (N := 7) tyX0 tyX0_ok nmX0 inX0 (kd_rng hk (by decide)) (wM_at hk) rfl 6 (by decide) q71 rfl rfl rfl (Nat.le_of_ble_eq_true rfl) d (by rw [wM_putC (j := 6) (x := x1) hk (by rfl)]; exact kk)
theorem gt_1_0 (hB : Bx x G b RX1 cc nL ret rm nm) (hk : kd k = 7) {t1 : Int} (e : k + 1 = t1) (d : decode cc pc = .ok (.getfield 11, 3)) (kk : YM x G b cl sl C S (pc + 3) lv (.ref (ad b t1) :: st)) : YM x G b cl sl C S pc lv (.ref (ad b k) :: st) := by
  subst e
  exact y_get hB (C := RX1) (T := TX1) (N := 3) inX1 (kd_rng hk (by decide)) (wM_at hk) rfl 0 (by decide) q96 rfl d kk
theorem gt_1_1 (hB : Bx x G b RX1 cc nL ret rm nm) (hk : kd k = 7) {t1 : Int} (e : C k 1 = t1) (d : decode cc pc = .ok (.getfield 22, 3)) (kk : YM x G b cl sl C S (pc + 3) lv (.int (iI t1) :: st)) : YM x G b cl sl C S pc lv (.ref (ad b k) :: st) := by
  subst e
  exact y_get hB (C := RX1) (T := TX1) (N := 3) inX1 (kd_rng hk (by decide)) (wM_at hk) rfl 1 (by decide) q97 rfl d kk
theorem pt_1_1 (hB : Bx x G b RX1 cc nL ret rm nm) (hk : kd k = 7) {x1 : Int} (d : decode cc pc = .ok (.putfield 22, 3)) (kk : YM x G b cl sl (up2 C k 1 x1) S (pc + 3) lv st) : YM x G b cl sl C S pc lv (.int (iI x1) :: .ref (ad b k) :: st) := y_put hB (C := RX1) (T := TX1) (N := 3) tyX1 tyX1_ok nmX1 inX1 (kd_rng hk (by decide)) (wM_at hk) rfl 1 (by decide) q97 rfl rfl rfl (Nat.le_of_ble_eq_true rfl) d (by rw [wM_putC (j := 1) (x := x1) hk (by rfl)]; exact kk)
theorem gt_1_2 (hB : Bx x G b RX1 cc nL ret rm nm) (hk : kd k = 7) {t1 : Int} (e : C k 2 = t1) (d : decode cc pc = .ok (.getfield 18, 3)) (kk : YM x G b cl sl C S (pc + 3) lv (.int (iI t1) :: st)) : YM x G b cl sl C S pc lv (.ref (ad b k) :: st) := by
  subst e
  exact y_get hB (C := RX1) (T := TX1) (N := 3) inX1 (kd_rng hk (by decide)) (wM_at hk) rfl 2 (by decide) q98 rfl d kk
theorem pt_1_2 (hB : Bx x G b RX1 cc nL ret rm nm) (hk : kd k = 7) {x1 : Int} (d : decode cc pc = .ok (.putfield 18, 3)) (kk : YM x G b cl sl (up2 C k 2 x1) S (pc + 3) lv st) : YM x G b cl sl C S pc lv (.int (iI x1) :: .ref (ad b k) :: st) := y_put hB (C := RX1) (T := TX1) (N := 3) tyX1 tyX1_ok nmX1 inX1 (kd_rng hk (by decide)) (wM_at hk) rfl 2 (by decide) q98 rfl rfl rfl (Nat.le_of_ble_eq_true rfl) d (by rw [wM_putC (j := 2) (x := x1) hk (by rfl)]; exact kk)
theorem gt_2_0 (hB : Bx x G b RX2 cc nL ret rm nm) (hk : kd k = 5) {t1 : Int} (e : C k 0 = t1) (d : decode cc pc = .ok (.getfield 31, 3)) (kk : YM x G b cl sl C S (pc + 3) lv (.int (iI t1) :: st)) : YM x G b cl sl C S pc lv (.ref (ad b k) :: st) := by
  subst e
  exact y_get hB (C := RX2) (T := TX2) (N := 10) inX2 (kd_rng hk (by decide)) (wM_at hk) rfl 0 (by decide) q33 rfl d kk
theorem pt_2_0 (hB : Bx x G b RX2 cc nL ret rm nm) (hk : kd k = 5) {x1 : Int} (d : decode cc pc = .ok (.putfield 31, 3)) (kk : YM x G b cl sl (up2 C k 0 x1) S (pc + 3) lv st) : YM x G b cl sl C S pc lv (.int (iI x1) :: .ref (ad b k) :: st) := y_put hB (C := RX2) (T := TX2) (N := 10) tyX2 tyX2_ok nmX2 inX2 (kd_rng hk (by decide)) (wM_at hk) rfl 0 (by decide) q33 rfl rfl rfl (Nat.le_of_ble_eq_true rfl) d (by rw [wM_putC (j := 0) (x := x1) hk (by rfl)]; exact kk)
theorem gt_2_1 (hB : Bx x G b RX2 cc nL ret rm nm) (hk : kd k = 5) {t1 : Int} (e : C k 1 = t1) (d : decode cc pc = .ok (.getfield 34, 3)) (kk : YM x G b cl sl C S (pc + 3) lv (.int (iI t1) :: st)) : YM x G b cl sl C S pc lv (.ref (ad b k) :: st) := by
  subst e
  exact y_get hB (C := RX2) (T := TX2) (N := 10) inX2 (kd_rng hk (by decide)) (wM_at hk) rfl 1 (by decide) q34 rfl d kk
theorem pt_2_1 (hB : Bx x G b RX2 cc nL ret rm nm) (hk : kd k = 5) {x1 : Int} (d : decode cc pc = .ok (.putfield 34, 3)) (kk : YM x G b cl sl (up2 C k 1 x1) S (pc + 3) lv st) : YM x G b cl sl C S pc lv (.int (iI x1) :: .ref (ad b k) :: st) := y_put hB (C := RX2) (T := TX2) (N := 10) tyX2 tyX2_ok nmX2 inX2 (kd_rng hk (by decide)) (wM_at hk) rfl 1 (by decide) q34 rfl rfl rfl (Nat.le_of_ble_eq_true rfl) d (by rw [wM_putC (j := 1) (x := x1) hk (by rfl)]; exact kk)
theorem gt_2_2 (hB : Bx x G b RX2 cc nL ret rm nm) (hk : kd k = 5) {t1 : Int} (e : C k 2 = t1) (d : decode cc pc = .ok (.getfield 43, 3)) (kk : YM x G b cl sl C S (pc + 3) lv (.int (iI t1) :: st)) : YM x G b cl sl C S pc lv (.ref (ad b k) :: st) := by
  subst e
  exact y_get hB (C := RX2) (T := TX2) (N := 10) inX2 (kd_rng hk (by decide)) (wM_at hk) rfl 2 (by decide) q35 rfl d kk
theorem pt_2_2 (hB : Bx x G b RX2 cc nL ret rm nm) (hk : kd k = 5) {x1 : Int} (d : decode cc pc = .ok (.putfield 43, 3)) (kk : YM x G b cl sl (up2 C k 2 x1) S (pc + 3) lv st) : YM x G b cl sl C S pc lv (.int (iI x1) :: .ref (ad b k) :: st) := y_put hB (C := RX2) (T := TX2) (N := 10) tyX2 tyX2_ok nmX2 inX2 (kd_rng hk (by decide)) (wM_at hk) rfl 2 (by decide) q35 rfl rfl rfl (Nat.le_of_ble_eq_true rfl) d (by rw [wM_putC (j := 2) (x := x1) hk (by rfl)]; exact kk)
theorem gt_2_3 (hB : Bx x G b RX2 cc nL ret rm nm) (hk : kd k = 5) {t1 : Int} (e : C k 3 = t1) (d : decode cc pc = .ok (.getfield 9, 3)) (kk : YM x G b cl sl C S (pc + 3) lv (.int (iI t1) :: st)) : YM x G b cl sl C S pc lv (.ref (ad b k) :: st) := by
  subst e
  exact y_get hB (C := RX2) (T := TX2) (N := 10) inX2 (kd_rng hk (by decide)) (wM_at hk) rfl 3 (by decide) q36 rfl d kk
theorem pt_2_3 (hB : Bx x G b RX2 cc nL ret rm nm) (hk : kd k = 5) {x1 : Int} (d : decode cc pc = .ok (.putfield 9, 3)) (kk : YM x G b cl sl (up2 C k 3 x1) S (pc + 3) lv st) : YM x G b cl sl C S pc lv (.int (iI x1) :: .ref (ad b k) :: st) := y_put hB (C := RX2) (T := TX2) (N := 10) tyX2 tyX2_ok nmX2 inX2 (kd_rng hk (by decide)) (wM_at hk) rfl 3 (by decide) q36 rfl rfl rfl (Nat.le_of_ble_eq_true rfl) d (by rw [wM_putC (j := 3) (x := x1) hk (by rfl)]; exact kk)
theorem gt_2_4 (hB : Bx x G b RX2 cc nL ret rm nm) (hk : kd k = 5) {t1 : Int} (e : C k 4 = t1) (d : decode cc pc = .ok (.getfield 15, 3)) (kk : YM x G b cl sl C S (pc + 3) lv (.int (iI t1) :: st)) : YM x G b cl sl C S pc lv (.ref (ad b k) :: st) := by
  subst e
  exact y_get hB (C := RX2) (T := TX2) (N := 10) inX2 (kd_rng hk (by decide)) (wM_at hk) rfl 4 (by decide) q37 rfl d kk
theorem pt_2_4 (hB : Bx x G b RX2 cc nL ret rm nm) (hk : kd k = 5) {x1 : Int} (d : decode cc pc = .ok (.putfield 15, 3)) (kk : YM x G b cl sl (up2 C k 4 x1) S (pc + 3) lv st) : YM x G b cl sl C S pc lv (.int (iI x1) :: .ref (ad b k) :: st) := y_put hB (C := RX2) (T := TX2) (N := 10) tyX2 tyX2_ok nmX2 inX2 (kd_rng hk (by decide)) (wM_at hk) rfl 4 (by decide) q37 rfl rfl rfl (Nat.le_of_ble_eq_true rfl) d (by rw [wM_putC (j := 4) (x := x1) hk (by rfl)]; exact kk)
theorem gt_2_5 (hB : Bx x G b RX2 cc nL ret rm nm) (hk : kd k = 5) {t1 : Int} (e : C k 5 = t1) (d : decode cc pc = .ok (.getfield 18, 3)) (kk : YM x G b cl sl C S (pc + 3) lv (.int (iI t1) :: st)) : YM x G b cl sl C S pc lv (.ref (ad b k) :: st) := by
  subst e
  exact y_get hB (C := RX2) (T := TX2) (N := 10) inX2 (kd_rng hk (by decide)) (wM_at hk) rfl 5 (by decide) q38 rfl d kk
theorem pt_2_5 (hB : Bx x G b RX2 cc nL ret rm nm) (hk : kd k = 5) {x1 : Int} (d : decode cc pc = .ok (.putfield 18, 3)) (kk : YM x G b cl sl (up2 C k 5 x1) S (pc + 3) lv st) : YM x G b cl sl C S pc lv (.int (iI x1) :: .ref (ad b k) :: st) := y_put hB (C := RX2) (T := TX2) (N := 10) tyX2 tyX2_ok nmX2 inX2 (kd_rng hk (by decide)) (wM_at hk) rfl 5 (by decide) q38 rfl rfl rfl (Nat.le_of_ble_eq_true rfl) d (by rw [wM_putC (j := 5) (x := x1) hk (by rfl)]; exact kk)
theorem gt_2_6 (hB : Bx x G b RX2 cc nL ret rm nm) (hk : kd k = 5) {t1 : Int} (e : C k 6 = t1) (d : decode cc pc = .ok (.getfield 37, 3)) (kk : YM x G b cl sl C S (pc + 3) lv (.int (iI t1) :: st)) : YM x G b cl sl C S pc lv (.ref (ad b k) :: st) := by
  subst e
  exact y_get hB (C := RX2) (T := TX2) (N := 10) inX2 (kd_rng hk (by decide)) (wM_at hk) rfl 6 (by decide) q39 rfl d kk
theorem pt_2_6 (hB : Bx x G b RX2 cc nL ret rm nm) (hk : kd k = 5) {x1 : Int} (d : decode cc pc = .ok (.putfield 37, 3)) (kk : YM x G b cl sl (up2 C k 6 x1) S (pc + 3) lv st) : YM x G b cl sl C S pc lv (.int (iI x1) :: .ref (ad b k) :: st) := y_put hB (C := RX2) (T := TX2) (N := 10) tyX2 tyX2_ok nmX2 inX2 (kd_rng hk (by decide)) (wM_at hk) rfl 6 (by decide) q39 rfl rfl rfl (Nat.le_of_ble_eq_true rfl) d (by rw [wM_putC (j := 6) (x := x1) hk (by rfl)]; exact kk)
theorem gt_2_7 (hB : Bx x G b RX2 cc nL ret rm nm) (hk : kd k = 5) {t1 : Int} (e : k + 1 = t1) (d : decode cc pc = .ok (.getfield 21, 3)) (kk : YM x G b cl sl C S (pc + 3) lv (.ref (ad b t1) :: st)) : YM x G b cl sl C S pc lv (.ref (ad b k) :: st) := by
  subst e
  exact y_get hB (C := RX2) (T := TX2) (N := 10) inX2 (kd_rng hk (by decide)) (wM_at hk) rfl 7 (by decide) q40 rfl d kk
theorem gt_2_8 (hB : Bx x G b RX2 cc nL ret rm nm) (hk : kd k = 5) {t1 : Int} (e : k + 2 = t1) (d : decode cc pc = .ok (.getfield 25, 3)) (kk : YM x G b cl sl C S (pc + 3) lv (.ref (ad b t1) :: st)) : YM x G b cl sl C S pc lv (.ref (ad b k) :: st) := by
  subst e
  exact y_get hB (C := RX2) (T := TX2) (N := 10) inX2 (kd_rng hk (by decide)) (wM_at hk) rfl 8 (by decide) q41 rfl d kk
theorem gt_2_9 (hB : Bx x G b RX2 cc nL ret rm nm) (hk : kd k = 5) {t1 : Int} (e : k + 3 = t1) (d : decode cc pc = .ok (.getfield 28, 3)) (kk : YM x G b cl sl C S (pc + 3) lv (.ref (ad b t1) :: st)) : YM x G b cl sl C S pc lv (.ref (ad b k) :: st) := by
  subst e
  exact y_get hB (C := RX2) (T := TX2) (N := 10) inX2 (kd_rng hk (by decide)) (wM_at hk) rfl 9 (by decide) q42 rfl d kk
theorem gt_3_0 (hB : Bx x G b RX3 cc nL ret rm nm) (hk : kd k = 14) {t1 : Int} (e : k + 1 = t1) (d : decode cc pc = .ok (.getfield 12, 3)) (kk : YM x G b cl sl C S (pc + 3) lv (.ref (ad b t1) :: st)) : YM x G b cl sl C S pc lv (.ref (ad b k) :: st) := by
  subst e
  exact y_get hB (C := RX3) (T := TX3) (N := 4) inX3 (kd_rng hk (by decide)) (wM_at hk) rfl 0 (by decide) q153 rfl d kk
theorem gt_3_1 (hB : Bx x G b RX3 cc nL ret rm nm) (hk : kd k = 14) {t1 : Int} (e : k + 4 = t1) (d : decode cc pc = .ok (.getfield 18, 3)) (kk : YM x G b cl sl C S (pc + 3) lv (.ref (ad b t1) :: st)) : YM x G b cl sl C S pc lv (.ref (ad b k) :: st) := by
  subst e
  exact y_get hB (C := RX3) (T := TX3) (N := 4) inX3 (kd_rng hk (by decide)) (wM_at hk) rfl 1 (by decide) q154 rfl d kk
theorem gt_3_2 (hB : Bx x G b RX3 cc nL ret rm nm) (hk : kd k = 14) {t1 : Int} (e : C k 2 = t1) (d : decode cc pc = .ok (.getfield 26, 3)) (kk : YM x G b cl sl C S (pc + 3) lv (.int (iI t1) :: st)) : YM x G b cl sl C S pc lv (.ref (ad b k) :: st) := by
  subst e
  exact y_get hB (C := RX3) (T := TX3) (N := 4) inX3 (kd_rng hk (by decide)) (wM_at hk) rfl 2 (by decide) q155 rfl d kk
theorem pt_3_2 (hB : Bx x G b RX3 cc nL ret rm nm) (hk : kd k = 14) {x1 : Int} (d : decode cc pc = .ok (.putfield 26, 3)) (kk : YM x G b cl sl (up2 C k 2 x1) S (pc + 3) lv st) : YM x G b cl sl C S pc lv (.int (iI x1) :: .ref (ad b k) :: st) := y_put hB (C := RX3) (T := TX3) (N := 4) tyX3 tyX3_ok nmX3 inX3 (kd_rng hk (by decide)) (wM_at hk) rfl 2 (by decide) q155 rfl rfl rfl (Nat.le_of_ble_eq_true rfl) d (by rw [wM_putC (j := 2) (x := x1) hk (by rfl)]; exact kk)
theorem gt_3_3 (hB : Bx x G b RX3 cc nL ret rm nm) (hk : kd k = 14) {t1 : Int} (e : C k 3 = t1) (d : decode cc pc = .ok (.getfield 36, 3)) (kk : YM x G b cl sl C S (pc + 3) lv (.int (iI t1) :: st)) : YM x G b cl sl C S pc lv (.ref (ad b k) :: st) := by
  subst e
  exact y_get hB (C := RX3) (T := TX3) (N := 4) inX3 (kd_rng hk (by decide)) (wM_at hk) rfl 3 (by decide) q156 rfl d kk
theorem pt_3_3 (hB : Bx x G b RX3 cc nL ret rm nm) (hk : kd k = 14) {x1 : Int} (d : decode cc pc = .ok (.putfield 36, 3)) (kk : YM x G b cl sl (up2 C k 3 x1) S (pc + 3) lv st) : YM x G b cl sl C S pc lv (.int (iI x1) :: .ref (ad b k) :: st) := y_put hB (C := RX3) (T := TX3) (N := 4) tyX3 tyX3_ok nmX3 inX3 (kd_rng hk (by decide)) (wM_at hk) rfl 3 (by decide) q156 rfl rfl rfl (Nat.le_of_ble_eq_true rfl) d (by rw [wM_putC (j := 3) (x := x1) hk (by rfl)]; exact kk)
theorem gt_4_0 (hB : Bx x G b RX4 cc nL ret rm nm) (hk : kd k = 9) {t1 : Int} (e : k + 1 = t1) (d : decode cc pc = .ok (.getfield 9, 3)) (kk : YM x G b cl sl C S (pc + 3) lv (.ref (ad b t1) :: st)) : YM x G b cl sl C S pc lv (.ref (ad b k) :: st) := by
  subst e
  exact y_get hB (C := RX4) (T := TX4) (N := 5) inX4 (kd_rng hk (by decide)) (wM_at hk) rfl 0 (by decide) q114 rfl d kk
theorem gt_4_1 (hB : Bx x G b RX4 cc nL ret rm nm) (hk : kd k = 9) {t1 : Int} (e : C k 1 = t1) (d : decode cc pc = .ok (.getfield 22, 3)) (kk : YM x G b cl sl C S (pc + 3) lv (.int (iI t1) :: st)) : YM x G b cl sl C S pc lv (.ref (ad b k) :: st) := by
  subst e
  exact y_get hB (C := RX4) (T := TX4) (N := 5) inX4 (kd_rng hk (by decide)) (wM_at hk) rfl 1 (by decide) q115 rfl d kk
theorem pt_4_1 (hB : Bx x G b RX4 cc nL ret rm nm) (hk : kd k = 9) {x1 : Int} (d : decode cc pc = .ok (.putfield 22, 3)) (kk : YM x G b cl sl (up2 C k 1 x1) S (pc + 3) lv st) : YM x G b cl sl C S pc lv (.int (iI x1) :: .ref (ad b k) :: st) := y_put hB (C := RX4) (T := TX4) (N := 5) tyX4 tyX4_ok nmX4 inX4 (kd_rng hk (by decide)) (wM_at hk) rfl 1 (by decide) q115 rfl rfl rfl (Nat.le_of_ble_eq_true rfl) d (by rw [wM_putC (j := 1) (x := x1) hk (by rfl)]; exact kk)
theorem gt_4_2 (hB : Bx x G b RX4 cc nL ret rm nm) (hk : kd k = 9) {t1 : Int} (e : k + 2 = t1) (d : decode cc pc = .ok (.getfield 17, 3)) (kk : YM x G b cl sl C S (pc + 3) lv (.ref (ad b t1) :: st)) : YM x G b cl sl C S pc lv (.ref (ad b k) :: st) := by
  subst e
  exact y_get hB (C := RX4) (T := TX4) (N := 5) inX4 (kd_rng hk (by decide)) (wM_at hk) rfl 2 (by decide) q116 rfl d kk
theorem gt_5_0 (hB : Bx x G b RX5 cc nL ret rm nm) (hk : kd k = 12) {t1 : Int} (e : k + 1 = t1) (d : decode cc pc = .ok (.getfield 9, 3)) (kk : YM x G b cl sl C S (pc + 3) lv (.ref (ad b t1) :: st)) : YM x G b cl sl C S pc lv (.ref (ad b k) :: st) := by
  subst e
  exact y_get hB (C := RX5) (T := TX5) (N := 3) inX5 (kd_rng hk (by decide)) (wM_at hk) rfl 0 (by decide) q135 rfl d kk
theorem gt_5_1 (hB : Bx x G b RX5 cc nL ret rm nm) (hk : kd k = 12) {t1 : Int} (e : k + 2 = t1) (d : decode cc pc = .ok (.getfield 15, 3)) (kk : YM x G b cl sl C S (pc + 3) lv (.ref (ad b t1) :: st)) : YM x G b cl sl C S pc lv (.ref (ad b k) :: st) := by
  subst e
  exact y_get hB (C := RX5) (T := TX5) (N := 3) inX5 (kd_rng hk (by decide)) (wM_at hk) rfl 1 (by decide) q136 rfl d kk
theorem gt_5_2 (hB : Bx x G b RX5 cc nL ret rm nm) (hk : kd k = 12) {t1 : Int} (e : C k 2 = t1) (d : decode cc pc = .ok (.getfield 18, 3)) (kk : YM x G b cl sl C S (pc + 3) lv (.int (iI t1) :: st)) : YM x G b cl sl C S pc lv (.ref (ad b k) :: st) := by
  subst e
  exact y_get hB (C := RX5) (T := TX5) (N := 3) inX5 (kd_rng hk (by decide)) (wM_at hk) rfl 2 (by decide) q137 rfl d kk
theorem pt_5_2 (hB : Bx x G b RX5 cc nL ret rm nm) (hk : kd k = 12) {x1 : Int} (d : decode cc pc = .ok (.putfield 18, 3)) (kk : YM x G b cl sl (up2 C k 2 x1) S (pc + 3) lv st) : YM x G b cl sl C S pc lv (.int (iI x1) :: .ref (ad b k) :: st) := y_put hB (C := RX5) (T := TX5) (N := 3) tyX5 tyX5_ok nmX5 inX5 (kd_rng hk (by decide)) (wM_at hk) rfl 2 (by decide) q137 rfl rfl rfl (Nat.le_of_ble_eq_true rfl) d (by rw [wM_putC (j := 2) (x := x1) hk (by rfl)]; exact kk)
theorem gt_6_0 (hB : Bx x G b RX6 cc nL ret rm nm) (hk : kd k = 0) {t1 : Int} (e : k + 1 = t1) (d : decode cc pc = .ok (.getfield 10, 3)) (kk : YM x G b cl sl C S (pc + 3) lv (.ref (ad b t1) :: st)) : YM x G b cl sl C S pc lv (.ref (ad b k) :: st) := by
  subst e
  exact y_get hB (C := RX6) (T := TX6) (N := 7) inX6 (kd_rng hk (by decide)) (wM_at hk) rfl 0 (by decide) q166 rfl d kk
theorem gt_6_1 (hB : Bx x G b RX6 cc nL ret rm nm) (hk : kd k = 0) {t1 : Int} (e : k + 85 = t1) (d : decode cc pc = .ok (.getfield 16, 3)) (kk : YM x G b cl sl C S (pc + 3) lv (.ref (ad b t1) :: st)) : YM x G b cl sl C S pc lv (.ref (ad b k) :: st) := by
  subst e
  exact y_get hB (C := RX6) (T := TX6) (N := 7) inX6 (kd_rng hk (by decide)) (wM_at hk) rfl 1 (by decide) q167 rfl d kk
theorem gt_6_2 (hB : Bx x G b RX6 cc nL ret rm nm) (hk : kd k = 0) {t1 : Int} (e : C k 2 = t1) (d : decode cc pc = .ok (.getfield 211, 3)) (kk : YM x G b cl sl C S (pc + 3) lv (.int (iI t1) :: st)) : YM x G b cl sl C S pc lv (.ref (ad b k) :: st) := by
  subst e
  exact y_get hB (C := RX6) (T := TX6) (N := 7) inX6 (kd_rng hk (by decide)) (wM_at hk) rfl 2 (by decide) q168 rfl d kk
theorem pt_6_2 (hB : Bx x G b RX6 cc nL ret rm nm) (hk : kd k = 0) {x1 : Int} (hz : x1 = 0 ∨ x1 = 1) (d : decode cc pc = .ok (.putfield 211, 3)) (kk : YM x G b cl sl (up2 C k 2 x1) S (pc + 3) lv st) : YM x G b cl sl C S pc lv (.int (iI x1) :: .ref (ad b k) :: st) := y_put hB (C := RX6) (T := TX6) (N := 7) tyX6 tyX6_ok nmX6 inX6 (kd_rng hk (by decide)) (wM_at hk) rfl 2 (by decide) q168 rfl (by rcases hz with rfl | rfl <;> rfl) (by rcases hz with rfl | rfl <;> rfl) (Nat.le_of_ble_eq_true rfl) d (by rw [wM_putC (j := 2) (x := x1) hk (by rfl)]; exact kk)
theorem gt_6_3 (hB : Bx x G b RX6 cc nL ret rm nm) (hk : kd k = 0) {t1 : Int} (e : k + 169 = t1) (d : decode cc pc = .ok (.getfield 22, 3)) (kk : YM x G b cl sl C S (pc + 3) lv (.ref (ad b t1) :: st)) : YM x G b cl sl C S pc lv (.ref (ad b k) :: st) := by
  subst e
  exact y_get hB (C := RX6) (T := TX6) (N := 7) inX6 (kd_rng hk (by decide)) (wM_at hk) rfl 3 (by decide) q169 rfl d kk
theorem gt_6_4 (hB : Bx x G b RX6 cc nL ret rm nm) (hk : kd k = 0) {t1 : Int} (e : k + 507 = t1) (d : decode cc pc = .ok (.getfield 29, 3)) (kk : YM x G b cl sl C S (pc + 3) lv (.ref (ad b t1) :: st)) : YM x G b cl sl C S pc lv (.ref (ad b k) :: st) := by
  subst e
  exact y_get hB (C := RX6) (T := TX6) (N := 7) inX6 (kd_rng hk (by decide)) (wM_at hk) rfl 4 (by decide) q170 rfl d kk
theorem gt_6_5 (hB : Bx x G b RX6 cc nL ret rm nm) (hk : kd k = 0) {t1 : Int} (e : k + 570 = t1) (d : decode cc pc = .ok (.getfield 36, 3)) (kk : YM x G b cl sl C S (pc + 3) lv (.ref (ad b t1) :: st)) : YM x G b cl sl C S pc lv (.ref (ad b k) :: st) := by
  subst e
  exact y_get hB (C := RX6) (T := TX6) (N := 7) inX6 (kd_rng hk (by decide)) (wM_at hk) rfl 5 (by decide) q171 rfl d kk
theorem gt_6_6 (hB : Bx x G b RX6 cc nL ret rm nm) (hk : kd k = 0) {t1 : Int} (e : k + 573 = t1) (d : decode cc pc = .ok (.getfield 43, 3)) (kk : YM x G b cl sl C S (pc + 3) lv (.ref (ad b t1) :: st)) : YM x G b cl sl C S pc lv (.ref (ad b k) :: st) := by
  subst e
  exact y_get hB (C := RX6) (T := TX6) (N := 7) inX6 (kd_rng hk (by decide)) (wM_at hk) rfl 6 (by decide) q172 rfl d kk
theorem ald_2 (hB : Bx x G b own cc nL ret rm nm) (hk : kd k = 2) {i t1 : Int} (hi : 0 ≤ i ∧ i < 5) (e : C k i = t1) (d : decode cc pc = .ok (.iaload, 1)) (kk : YM x G b cl sl C S (pc + 1) lv (.int (iI t1) :: st)) : YM x G b cl sl C S pc lv (.int (iI i) :: .ref (ad b k) :: st) := by
  subst e
  exact y_ald 0 hB (kd_rng hk (by decide)) (wM_at hk) (by decide) hi (by decide) d (by show YM x G b cl sl C S (pc + 1) lv (.int (iI (C k (i.toNat : Int))) :: st); rw [Int.toNat_of_nonneg hi.1]; exact kk)
theorem ast_2 (hB : Bx x G b own cc nL ret rm nm) (hk : kd k = 2) {i x1 : Int} (hi : 0 ≤ i ∧ i < 5) (d : decode cc pc = .ok (.iastore, 1)) (kk : YM x G b cl sl (up2 C k i x1) S (pc + 1) lv st) : YM x G b cl sl C S pc lv (.int (iI x1) :: .int (iI i) :: .ref (ad b k) :: st) := y_iast hB (kd_rng hk (by decide)) (wM_at hk) hi (by decide) d (by rw [wM_putC (j := i) (x := x1) hk (by simp only [wS]; rw [arr_up _ hi.1])]; exact kk)
theorem ald_3 (hB : Bx x G b own cc nL ret rm nm) (hk : kd k = 3) {i t1 : Int} (hi : 0 ≤ i ∧ i < 6) (e : C k i = t1) (d : decode cc pc = .ok (.iaload, 1)) (kk : YM x G b cl sl C S (pc + 1) lv (.int (iI t1) :: st)) : YM x G b cl sl C S pc lv (.int (iI i) :: .ref (ad b k) :: st) := by
  subst e
  exact y_ald 0 hB (kd_rng hk (by decide)) (wM_at hk) (by decide) hi (by decide) d (by show YM x G b cl sl C S (pc + 1) lv (.int (iI (C k (i.toNat : Int))) :: st); rw [Int.toNat_of_nonneg hi.1]; exact kk)
theorem ast_3 (hB : Bx x G b own cc nL ret rm nm) (hk : kd k = 3) {i x1 : Int} (hi : 0 ≤ i ∧ i < 6) (d : decode cc pc = .ok (.iastore, 1)) (kk : YM x G b cl sl (up2 C k i x1) S (pc + 1) lv st) : YM x G b cl sl C S pc lv (.int (iI x1) :: .int (iI i) :: .ref (ad b k) :: st) := y_iast hB (kd_rng hk (by decide)) (wM_at hk) hi (by decide) d (by rw [wM_putC (j := i) (x := x1) hk (by simp only [wS]; rw [arr_up _ hi.1])]; exact kk)
theorem ald_6 (hB : Bx x G b own cc nL ret rm nm) (hk : kd k = 6) {i t1 : Int} (hi : 0 ≤ i ∧ i < 8) (e : C k i = t1) (d : decode cc pc = .ok (.iaload, 1)) (kk : YM x G b cl sl C S (pc + 1) lv (.int (iI t1) :: st)) : YM x G b cl sl C S pc lv (.int (iI i) :: .ref (ad b k) :: st) := by
  subst e
  exact y_ald 0 hB (kd_rng hk (by decide)) (wM_at hk) (by decide) hi (by decide) d (by show YM x G b cl sl C S (pc + 1) lv (.int (iI (C k (i.toNat : Int))) :: st); rw [Int.toNat_of_nonneg hi.1]; exact kk)
theorem ast_6 (hB : Bx x G b own cc nL ret rm nm) (hk : kd k = 6) {i x1 : Int} (hi : 0 ≤ i ∧ i < 8) (d : decode cc pc = .ok (.iastore, 1)) (kk : YM x G b cl sl (up2 C k i x1) S (pc + 1) lv st) : YM x G b cl sl C S pc lv (.int (iI x1) :: .int (iI i) :: .ref (ad b k) :: st) := y_iast hB (kd_rng hk (by decide)) (wM_at hk) hi (by decide) d (by rw [wM_putC (j := i) (x := x1) hk (by simp only [wS]; rw [arr_up _ hi.1])]; exact kk)
theorem ald_10 (hB : Bx x G b own cc nL ret rm nm) (hk : kd k = 10) {i t1 : Int} (hi : 0 ≤ i ∧ i < 60) (e : C k i = t1) (d : decode cc pc = .ok (.caload, 1)) (kk : YM x G b cl sl C S (pc + 1) lv (.int (iI t1) :: st)) : YM x G b cl sl C S pc lv (.int (iI i) :: .ref (ad b k) :: st) := by
  subst e
  exact y_ald 2 hB (kd_rng hk (by decide)) (wM_at hk) (by decide) hi (by decide) d (by show YM x G b cl sl C S (pc + 1) lv (.int (iI (C k (i.toNat : Int))) :: st); rw [Int.toNat_of_nonneg hi.1]; exact kk)
theorem ast_10 (hB : Bx x G b own cc nL ret rm nm) (hk : kd k = 10) {i x1 : Int} (hi : 0 ≤ i ∧ i < 60) (hv : 0 ≤ x1 ∧ x1 < 65536) (d : decode cc pc = .ok (.castore, 1)) (kk : YM x G b cl sl (up2 C k i x1) S (pc + 1) lv st) : YM x G b cl sl C S pc lv (.int (iI x1) :: .int (iI i) :: .ref (ad b k) :: st) := y_cast hB (kd_rng hk (by decide)) (wM_at hk) hi (by decide) hv d (by rw [wM_putC (j := i) (x := x1) hk (by simp only [wS]; rw [arr_up _ hi.1])]; exact kk)
theorem ald_13 (hB : Bx x G b own cc nL ret rm nm) (hk : kd k = 13) {i t1 : Int} (hi : 0 ≤ i ∧ i < 20) (e : C k i = t1) (d : decode cc pc = .ok (.iaload, 1)) (kk : YM x G b cl sl C S (pc + 1) lv (.int (iI t1) :: st)) : YM x G b cl sl C S pc lv (.int (iI i) :: .ref (ad b k) :: st) := by
  subst e
  exact y_ald 0 hB (kd_rng hk (by decide)) (wM_at hk) (by decide) hi (by decide) d (by show YM x G b cl sl C S (pc + 1) lv (.int (iI (C k (i.toNat : Int))) :: st); rw [Int.toNat_of_nonneg hi.1]; exact kk)
theorem ast_13 (hB : Bx x G b own cc nL ret rm nm) (hk : kd k = 13) {i x1 : Int} (hi : 0 ≤ i ∧ i < 20) (d : decode cc pc = .ok (.iastore, 1)) (kk : YM x G b cl sl (up2 C k i x1) S (pc + 1) lv st) : YM x G b cl sl C S pc lv (.int (iI x1) :: .int (iI i) :: .ref (ad b k) :: st) := y_iast hB (kd_rng hk (by decide)) (wM_at hk) hi (by decide) d (by rw [wM_putC (j := i) (x := x1) hk (by simp only [wS]; rw [arr_up _ hi.1])]; exact kk)
theorem ald_4 (hB : Bx x G b own cc nL ret rm nm) (hk : kd k = 4) {i : Int} (hi : 0 ≤ i ∧ i < 20) {t1 : Int} (e : k + 1 + 4 * i = t1) (d : decode cc pc = .ok (.aaload, 1)) (kk : YM x G b cl sl C S (pc + 1) lv (.ref (ad b t1) :: st)) : YM x G b cl sl C S pc lv (.int (iI i) :: .ref (ad b k) :: st) := by
  subst e
  exact y_aald 3 hB (kd_rng hk (by decide)) (wM_at hk) (by decide) hi (by decide) d (by show YM x G b cl sl C S (pc + 1) lv (.ref (ad b (k + 1 + 4 * (i.toNat : Int))) :: st); rw [Int.toNat_of_nonneg hi.1]; exact kk)
theorem ald_8 (hB : Bx x G b own cc nL ret rm nm) (hk : kd k = 8) {i : Int} (hi : 0 ≤ i ∧ i < 4) {t1 : Int} (e : k + 1 + 84 * i = t1) (d : decode cc pc = .ok (.aaload, 1)) (kk : YM x G b cl sl C S (pc + 1) lv (.ref (ad b t1) :: st)) : YM x G b cl sl C S pc lv (.int (iI i) :: .ref (ad b k) :: st) := by
  subst e
  exact y_aald 4 hB (kd_rng hk (by decide)) (wM_at hk) (by decide) hi (by decide) d (by show YM x G b cl sl C S (pc + 1) lv (.ref (ad b (k + 1 + 84 * (i.toNat : Int))) :: st); rw [Int.toNat_of_nonneg hi.1]; exact kk)
theorem ald_11 (hB : Bx x G b own cc nL ret rm nm) (hk : kd k = 11) {i : Int} (hi : 0 ≤ i ∧ i < 15) {t1 : Int} (e : k + 1 + 4 * i = t1) (d : decode cc pc = .ok (.aaload, 1)) (kk : YM x G b cl sl C S (pc + 1) lv (.ref (ad b t1) :: st)) : YM x G b cl sl C S pc lv (.int (iI i) :: .ref (ad b k) :: st) := by
  subst e
  exact y_aald 3 hB (kd_rng hk (by decide)) (wM_at hk) (by decide) hi (by decide) d (by show YM x G b cl sl C S (pc + 1) lv (.ref (ad b (k + 1 + 4 * (i.toNat : Int))) :: st); rw [Int.toNat_of_nonneg hi.1]; exact kk)
end
