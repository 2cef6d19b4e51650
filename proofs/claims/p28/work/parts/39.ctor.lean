/-! making the objects: what a constructor leaves, cell by cell -/
def zc : Int → Int := fun _ => 0
theorem upW_hit (w : Int → va_E) {k j : Int} (e : va_E) (h : j = k) : upW w k e j = e := by rw [h]; exact upW_self w k e
/-- from cell k on, sz cells hold f; below k nothing changed -/
def PIo (sz k : Int) (w : Int → va_E) (f : Int → va_E) : gP := fun r n w' => r = none ∧ n = k + sz ∧ (∀ j : Int, 0 ≤ j → j < k → w' j = w j) ∧ ∀ r : Int, 0 ≤ r → r < sz → w' (k + r) = f r
def lf0 (r : Int) : Int → Int := if r = 0 then (fun i => if i = 3 ∨ i = 4 ∨ i = 5 then -5 else 0) else zc
def st0 : Int → Int := fun j => if j = 0 then 8 else if j = 1 then 40 else if j = 2 then 30 else if j = 3 then 2 else if j = 4 then 3 else 0
def tr0 : Int → Int := fun j => if 0 ≤ j ∧ j ≤ 5 then 50 else 0
def dk0 (r : Int) : Int → Int := if r = 0 then (fun i => if i = 5 then 8 else 0) else if r = 1 then st0 else if r = 2 then tr0 else if r = 3 then zc else lf0 ((r - 4) % 4)
def mS0 (i : Int) : Int → Int := fun j => if 9 ≤ j ∧ j < 9 + i then 50 else if j = 2 then 8 else if j = 4 then 8 else if j = 5 then 40 else if j = 6 then 30 else if j = 7 then 2 else if j = 8 then 3 else 0
def C0 : gM := fun a => if a < 1 then zc else if a < 169 then dk0 ((a - 1) % 84) else if a < 171 then zc else if a < 507 then dk0 ((a - 171) % 84) else if a < 510 then zc else if a < 570 then lf0 ((a - 510) % 4) else zc
def S0 : gM := fun a => if a = 579 then mS0 6 else zc
def lifeF (G : gG) (b : Nat) (k r : Int) : va_E := wS G b (lk r) (k + r) (lf0 r) zc
def deskF (G : gG) (b : Nat) (o r : Int) : va_E := wS G b (dk r) (o + r) (dk0 r) zc
def rkF (G : gG) (b : Nat) (k r : Int) : va_E := wS G b (if r = 0 then 12 else 13) (k + r) zc zc
def pgF0 (G : gG) (b : Nat) (k r : Int) : va_E := wS G b (if r = 0 then 14 else if r = 1 then 12 else 13) (k + r) zc zc
def hisF (G : gG) (b : Nat) (k r : Int) : va_E := if r = 0 then wS G b 7 (k + r) zc zc else if r = 1 then wS G b 8 (k + r) zc zc else wS G b (dk ((r - 2) % 84)) (k + r) (dk0 ((r - 2) % 84)) zc
def txtF (G : gG) (b : Nat) (k r : Int) : va_E := if r < 3 then wS G b (if r = 0 then 9 else if r = 1 then 10 else 11) (k + r) zc zc else wS G b (lk ((r - 3) % 4)) (k + r) (lf0 ((r - 3) % 4)) zc
def modF (G : gG) (b : Nat) (k r : Int) : va_E := wS G b (if r = 0 then 20 else if r = 1 then 21 else if r = 2 then 22 else if r = 3 then 23 else if r = 4 then 24 else if r = 5 then 25 else if r = 6 then 26 else 27) (k + r) zc (if r = 1 then mS0 6 else zc)
/-- an array of new objects, filled up to i -/
def LI (G : gG) (b : Nat) (A B0 s : Int) (N ty : Nat) (F : Int → Int → va_E) (w1 : Int → va_E) (i : Int) (wi : Int → va_E) : Prop :=
  (∀ j : Int, 0 ≤ j → j < B0 → j ≠ A → wi j = w1 j) ∧ wi A = .inl (G.2 ty, N, .inr (.inr (.inr (.inr (fun j : Nat => if (j : Int) < i then some (ad b (B0 + s * (j : Int))) else none))))) ∧ ∀ t r : Int, 0 ≤ t → t < i → 0 ≤ r → r < s → wi (B0 + s * t + r) = F (B0 + s * t) r
theorem li_0 {G : gG} {b : Nat} {A B0 s : Int} {N ty : Nat} {F : Int → Int → va_E} {w1 : Int → va_E} (h : w1 A = .inl (G.2 ty, N, .inr (.inr (.inr (.inr (fun _ => none)))))) : LI G b A B0 s N ty F w1 0 w1 := by
  refine ⟨fun _ _ _ _ => rfl, ?_, fun t r h1 h2 => by omega⟩
  rw [h, show (fun j : Nat => if (j : Int) < 0 then some (ad b (B0 + s * (j : Int))) else none) = fun _ => none from funext fun j => if_neg (by omega)]
theorem li_s {G : gG} {b : Nat} {A B0 s : Int} {N ty : Nat} {F : Int → Int → va_E} {w1 wi w' : Int → va_E} {i : Int} {fr : va_E} (hi : 0 ≤ i) (hA : 0 ≤ A ∧ A < B0) (hs : 0 < s) (h : LI G b A B0 s N ty F w1 i wi) (hlo : ∀ j : Int, 0 ≤ j → j < B0 + s * i → w' j = upW wi (B0 + s * i) fr j) (hhi : ∀ r : Int, 0 ≤ r → r < s → w' (B0 + s * i + r) = F (B0 + s * i) r) :
    LI G b A B0 s N ty F w1 (i + 1) (upW w' A (.inl (G.2 ty, N, .inr (.inr (.inr (.inr (va_up (fun j : Nat => if (j : Int) < i then some (ad b (B0 + s * (j : Int))) else none) i.toNat (some (ad b (B0 + s * i)))))))))) := by
  have hsi : 0 ≤ s * i := Int.mul_nonneg (by omega) hi
  refine ⟨fun j h0 h1 h2 => ?_, ?_, fun t r h0 h1 h2 h3 => ?_⟩
  · rw [upW_ne _ _ h2, hlo j h0 (by omega), upW_ne _ _ (by omega), h.1 j h0 h1 h2]
  · have e : va_up (fun j : Nat => if (j : Int) < i then some (ad b (B0 + s * (j : Int))) else none) i.toNat (some (ad b (B0 + s * i))) = fun j : Nat => if (j : Int) < i + 1 then some (ad b (B0 + s * (j : Int))) else none := by
      funext j
      unfold va_up
      by_cases hj : j = i.toNat
      · rw [if_pos hj, if_pos (by omega), show (j : Int) = i by omega]
      · rw [if_neg hj]
        by_cases h9 : (j : Int) < i
        · exact (if_pos h9).trans (if_pos (by omega)).symm
        · exact (if_neg h9).trans (if_neg (by omega)).symm
    rw [upW_self, e]
  · have hst : 0 ≤ s * t := Int.mul_nonneg (by omega) h0
    rw [upW_ne _ _ (by omega)]
    by_cases h9 : t = i
    · subst h9
      exact hhi r h2 h3
    · have h8 : s * (t + 1) ≤ s * i := Int.mul_le_mul_of_nonneg_left (by omega) (by omega)
      rw [Int.mul_add, Int.mul_one] at h8
      rw [hlo _ (by omega) (by omega), upW_ne _ _ (by omega)]
      exact h.2.2 t r h0 (by omega) h2 h3
theorem st_arr : upd (upd (upd (upd (upd (fun _ => iI 0) (0 : Int).toNat (iI 8)) (1 : Int).toNat (iI 40)) (2 : Int).toNat (iI 30)) (3 : Int).toNat (iI 2)) (4 : Int).toNat (iI 3) = fun j : Nat => iI (st0 j) := by
  funext j
  rcases (show j = 0 ∨ j = 1 ∨ j = 2 ∨ j = 3 ∨ j = 4 ∨ 5 ≤ j by omega) with rfl | rfl | rfl | rfl | rfl | h
  · rfl
  · rfl
  · rfl
  · rfl
  · rfl
  · show (if j = 4 then _ else if j = 3 then _ else if j = 2 then _ else if j = 1 then _ else if j = 0 then _ else iI 0) = iI (if (j : Int) = 0 then 8 else if (j : Int) = 1 then 40 else if (j : Int) = 2 then 30 else if (j : Int) = 3 then 2 else if (j : Int) = 4 then 3 else 0)
    rw [if_neg (by omega), if_neg (by omega), if_neg (by omega), if_neg (by omega), if_neg (by omega), if_neg (by omega), if_neg (by omega), if_neg (by omega), if_neg (by omega), if_neg (by omega)]
theorem tr_arr : upd (upd (upd (upd (upd (upd (fun _ => iI 0) (0 : Int).toNat (iI 50)) (1 : Int).toNat (iI 50)) (2 : Int).toNat (iI 50)) (3 : Int).toNat (iI 50)) (4 : Int).toNat (iI 50)) (5 : Int).toNat (iI 50) = fun j : Nat => iI (tr0 j) := by
  funext j
  rcases (show j = 0 ∨ j = 1 ∨ j = 2 ∨ j = 3 ∨ j = 4 ∨ j = 5 ∨ 6 ≤ j by omega) with rfl | rfl | rfl | rfl | rfl | rfl | h
  · rfl
  · rfl
  · rfl
  · rfl
  · rfl
  · rfl
  · show (if j = 5 then _ else if j = 4 then _ else if j = 3 then _ else if j = 2 then _ else if j = 1 then _ else if j = 0 then _ else iI 0) = iI (if 0 ≤ (j : Int) ∧ (j : Int) ≤ 5 then 50 else 0)
    rw [if_neg (by omega), if_neg (by omega), if_neg (by omega), if_neg (by omega), if_neg (by omega), if_neg (by omega), if_neg (by omega)]
theorem desk_life {G : gG} {b : Nat} {k r : Int} (h : 4 ≤ r) : lifeF G b (k + 4 + 4 * ((r - 4) / 4)) ((r - 4) % 4) = deskF G b k r := by
  unfold lifeF deskF dk dk0
  rw [show k + 4 + 4 * ((r - 4) / 4) + (r - 4) % 4 = k + r by omega]
  repeat rw [if_neg (by omega)]
theorem his_0 {G : gG} {b : Nat} {k : Int} : hisF G b k 0 = wS G b 7 (k + 0) zc zc := if_pos rfl
theorem txt_0 {G : gG} {b : Nat} {k : Int} : txtF G b k 0 = wS G b 9 (k + 0) zc zc := by
  unfold txtF
  rw [if_pos (by omega), if_pos rfl]
theorem his_desk {G : gG} {b : Nat} {k r : Int} (h : 2 ≤ r) : deskF G b (k + 2 + 84 * ((r - 2) / 84)) ((r - 2) % 84) = hisF G b k r := by
  unfold hisF
  rw [if_neg (by omega), if_neg (by omega)]
  unfold deskF
  rw [show k + 2 + 84 * ((r - 2) / 84) + (r - 2) % 84 = k + r by omega]
theorem txt_life {G : gG} {b : Nat} {k r : Int} (h : 3 ≤ r) : lifeF G b (k + 3 + 4 * ((r - 3) / 4)) ((r - 3) % 4) = txtF G b k r := by
  unfold txtF
  rw [if_neg (by omega)]
  unfold lifeF
  rw [show k + 3 + 4 * ((r - 3) / 4) + (r - 3) % 4 = k + r by omega]
section
variable {x : gX} {G : gG} {b cl sl : Nat} {n : Int} {w : Int → va_E} {pc : Nat} {lv : List (Nat × Value)} {st : List Value}
theorem y_name (kk : ∀ w1 : Int → va_E, w1 = w → Y x G b cl sl n w1 pc lv st) : Y x G b cl sl n w pc lv st := kk w rfl
theorem y_refs {A : Int} {ty N : Nat} {f : Nat → Option Nat} (g : Nat → Option Nat) (hA : 0 ≤ A ∧ A < n) (he : w A = .inl (G.2 ty, N, .inr (.inr (.inr (.inr f))))) (hfg : ∀ j : Nat, j < N → f j = g j) (kk : Y x G b cl sl n (upW w A (.inl (G.2 ty, N, .inr (.inr (.inr (.inr g)))))) pc lv st) : Y x G b cl sl n w pc lv st := by
  intro H locs ls hRp hS hL
  refine kk H locs ls ⟨hRp.1, hRp.2.1, fun j h0 h1 => ?_⟩ hS hL
  by_cases hj : j = A
  · subst hj
    rw [upW_self]
    have h9 := hRp.2.2 j h0 h1
    rw [he] at h9
    have e : vp_cell (G.2 ty) (N, .inr (.inr (.inr (.inr f)))) = vp_cell (G.2 ty) (N, .inr (.inr (.inr (.inr g)))) := by
      rw [vp_cell_q, vp_cell_q]
      unfold arrV
      rw [show (fun j : Fin N => va_rf (f j.val)) = fun j : Fin N => va_rf (g j.val) from funext fun j => by rw [hfg j.val j.isLt]]
    show H[ad b j]? = some (vp_cell _ _)
    rw [← e]
    exact h9
  · rw [upW_ne _ _ hj]
    exact hRp.2.2 j h0 h1
/-- another world that says the same of the cells below n -/
theorem y_world {w2 : Int → va_E} (h : ∀ j : Int, 0 ≤ j → j < n → w j = w2 j) (kk : Y x G b cl sl n w2 pc lv st) : Y x G b cl sl n w pc lv st := by
  intro H locs ls hRp hS hL
  exact kk H locs ls ⟨hRp.1, hRp.2.1, fun j h0 h1 => by rw [← h j h0 h1]; exact hRp.2.2 j h0 h1⟩ hS hL
end
abbrev frX2 : List Value := [.int (iI 0), .int (iI 0), .int (iI 0), .int (iI 0), .int (iI 0), .int (iI 0), .int (iI 0), .null, .null, .null]
theorem frX2_ok : ∀ j, j < 10 → defaultValue (tyX2 j) = vp_V frX2 j := by
  intro j hj
  rcases (show j = 0 ∨ j = 1 ∨ j = 2 ∨ j = 3 ∨ j = 4 ∨ j = 5 ∨ j = 6 ∨ j = 7 ∨ j = 8 ∨ j = 9 by omega) with rfl | rfl | rfl | rfl | rfl | rfl | rfl | rfl | rfl | rfl
  · rfl
  · rfl
  · rfl
  · rfl
  · rfl
  · rfl
  · rfl
  · rfl
  · rfl
  · rfl
abbrev rmI2 : Room := { frames := 1, cells := 3, slots := 24, locals := 20 }
abbrev frX5 : List Value := [.null, .null, .int (iI 0)]
theorem frX5_ok : ∀ j, j < 3 → defaultValue (tyX5 j) = vp_V frX5 j := by
  intro j hj
  rcases (show j = 0 ∨ j = 1 ∨ j = 2 by omega) with rfl | rfl | rfl
  · rfl
  · rfl
  · rfl
abbrev rmI5 : Room := { frames := 1, cells := 2, slots := 40, locals := 20 }
abbrev frX3 : List Value := [.null, .null, .int (iI 0), .int (iI 0)]
theorem frX3_ok : ∀ j, j < 4 → defaultValue (tyX3 j) = vp_V frX3 j := by
  intro j hj
  rcases (show j = 0 ∨ j = 1 ∨ j = 2 ∨ j = 3 by omega) with rfl | rfl | rfl | rfl
  · rfl
  · rfl
  · rfl
  · rfl
abbrev rmI3 : Room := { frames := 2, cells := 4, slots := 63, locals := 60 }
abbrev frX0 : List Value := [.null, .null, .null, .int (iI 0), .int (iI 0), .int (iI 0), .int (iI 0)]
theorem frX0_ok : ∀ j, j < 7 → defaultValue (tyX0 j) = vp_V frX0 j := by
  intro j hj
  rcases (show j = 0 ∨ j = 1 ∨ j = 2 ∨ j = 3 ∨ j = 4 ∨ j = 5 ∨ j = 6 by omega) with rfl | rfl | rfl | rfl | rfl | rfl | rfl
  · rfl
  · rfl
  · rfl
  · rfl
  · rfl
  · rfl
  · rfl
abbrev rmI0 : Room := { frames := 2, cells := 83, slots := 711, locals := 60 }
abbrev frX1 : List Value := [.null, .int (iI 0), .int (iI 0)]
theorem frX1_ok : ∀ j, j < 3 → defaultValue (tyX1 j) = vp_V frX1 j := by
  intro j hj
  rcases (show j = 0 ∨ j = 1 ∨ j = 2 by omega) with rfl | rfl | rfl
  · rfl
  · rfl
  · rfl
abbrev rmI1 : Room := { frames := 3, cells := 337, slots := 2876, locals := 100 }
abbrev frX4 : List Value := [.null, .int (iI 0), .null, .int (iI 0), .int (iI 0)]
theorem frX4_ok : ∀ j, j < 5 → defaultValue (tyX4 j) = vp_V frX4 j := by
  intro j hj
  rcases (show j = 0 ∨ j = 1 ∨ j = 2 ∨ j = 3 ∨ j = 4 by omega) with rfl | rfl | rfl | rfl | rfl
  · rfl
  · rfl
  · rfl
  · rfl
  · rfl
abbrev rmI4 : Room := { frames := 2, cells := 62, slots := 585, locals := 60 }
abbrev frX6 : List Value := [.null, .null, .int (iI 0), .null, .null, .null, .null]
theorem frX6_ok : ∀ j, j < 7 → defaultValue (tyX6 j) = vp_V frX6 j := by
  intro j hj
  rcases (show j = 0 ∨ j = 1 ∨ j = 2 ∨ j = 3 ∨ j = 4 ∨ j = 5 ∨ j = 6 by omega) with rfl | rfl | rfl | rfl | rfl | rfl | rfl
  · rfl
  · rfl
  · rfl
  · rfl
  · rfl
  · rfl
  · rfl
abbrev rmI6 : Room := { frames := 4, cells := 577, slots := 5015, locals := 140 }
set_option maxHeartbeats 4000000 in
theorem iX2 (l : Launch) (G : gG) (b : Nat) (k : Int) (w : Int → va_E) (hk : 0 ≤ k) (hw : w k = .inr (2, frX2)) : Ct l G b yX2_init cX2_init 1 none rmI2 [.ref (ad b k)] (k + 1) w (PIo 4 k w (lifeF G b k)) := by
  refine CtK_of (by decide) (Nat.le_of_ble_eq_true rfl) q31 ?_
  intro x hl hB hE _
  subst hl
  have hB : Bx x G b RX2 cX2_init 1 none rmI2 "<init>" := hB
  show Y x G b 0 0 (k + 1) w 0 [(0, .ref (ad b k))] []
  refine y_aload_n hB 0 dX2_init_0 rfl rfl ?_
  refine y_objInit hB q32 q18 q19 dX2_init_1 (Nat.le_of_ble_eq_true rfl) (Nat.le_of_ble_eq_true rfl) ?_
  refine y_aload_n hB 0 dX2_init_4 rfl rfl ?_
  refine y_bipush (v := -5) hB dX2_init_5 (by decide) ?_
  refine y_put hB (C := RX2) (T := TX2) (N := 10) tyX2 tyX2_ok nmX2 inX2 ⟨by omega, by omega⟩ hw rfl 3 (by decide) q36 rfl rfl rfl (Nat.le_of_ble_eq_true rfl) dX2_init_7 ?_
  refine y_aload_n hB 0 dX2_init_10 rfl rfl ?_
  refine y_bipush (v := -5) hB dX2_init_11 (by decide) ?_
  refine y_put hB (C := RX2) (T := TX2) (N := 10) tyX2 tyX2_ok nmX2 inX2 ⟨by omega, by omega⟩ (upW_hit _ _ (by omega)) rfl 4 (by decide) q37 rfl rfl rfl (Nat.le_of_ble_eq_true rfl) dX2_init_13 ?_
  refine y_aload_n hB 0 dX2_init_16 rfl rfl ?_
  refine y_bipush (v := -5) hB dX2_init_17 (by decide) ?_
  refine y_put hB (C := RX2) (T := TX2) (N := 10) tyX2 tyX2_ok nmX2 inX2 ⟨by omega, by omega⟩ (upW_hit _ _ (by omega)) rfl 5 (by decide) q38 rfl rfl rfl (Nat.le_of_ble_eq_true rfl) dX2_init_19 ?_
  refine y_aload_n hB 0 dX2_init_22 rfl rfl ?_
  refine y_bipush (v := 8) hB dX2_init_23 (by decide) ?_
  refine y_newa 0 hB (m := 8) (N := 8) (Or.inl ⟨rfl, rfl⟩) q64 rfl (by decide) (Nat.le_of_ble_eq_true rfl) (Nat.le_of_ble_eq_true rfl) dX2_init_25 ?_
  rw [show (k + 1 + 1 : Int) = k + 2 by omega]
  refine y_putF hB (T := TX2) (N := 10) tyX2 tyX2_ok nmX2 inX2 ⟨by omega, by omega⟩ ((upW_ne _ _ (by omega)).trans (upW_hit _ _ (by omega))) rfl 7 (by decide) q40 rfl rfl rfl rfl (Nat.le_of_ble_eq_true rfl) dX2_init_27 ?_
  refine y_aload_n hB 0 dX2_init_30 rfl rfl ?_
  refine y_bipush (v := 8) hB dX2_init_31 (by decide) ?_
  refine y_newa 0 hB (m := 8) (N := 8) (Or.inl ⟨rfl, rfl⟩) q64 rfl (by decide) (Nat.le_of_ble_eq_true rfl) (Nat.le_of_ble_eq_true rfl) dX2_init_33 ?_
  rw [show (k + 2 + 1 : Int) = k + 3 by omega]
  refine y_putF hB (T := TX2) (N := 10) tyX2 tyX2_ok nmX2 inX2 ⟨by omega, by omega⟩ ((upW_ne _ _ (by omega)).trans (upW_hit _ _ (by omega))) rfl 8 (by decide) q41 rfl rfl rfl rfl (Nat.le_of_ble_eq_true rfl) dX2_init_35 ?_
  refine y_aload_n hB 0 dX2_init_38 rfl rfl ?_
  refine y_bipush (v := 8) hB dX2_init_39 (by decide) ?_
  refine y_newa 0 hB (m := 8) (N := 8) (Or.inl ⟨rfl, rfl⟩) q64 rfl (by decide) (Nat.le_of_ble_eq_true rfl) (Nat.le_of_ble_eq_true rfl) dX2_init_41 ?_
  rw [show (k + 3 + 1 : Int) = k + 4 by omega]
  refine y_putF hB (T := TX2) (N := 10) tyX2 tyX2_ok nmX2 inX2 ⟨by omega, by omega⟩ ((upW_ne _ _ (by omega)).trans (upW_hit _ _ (by omega))) rfl 9 (by decide) q42 rfl rfl rfl rfl (Nat.le_of_ble_eq_true rfl) dX2_init_43 ?_
  refine y_vret hB hE dX2_init_46 ⟨rfl, rfl, fun j h0 h1 => ?_, fun r h0 h1 => ?_⟩
  · exact ((upW_ne _ _ (by omega)).trans ((upW_ne _ _ (by omega)).trans ((upW_ne _ _ (by omega)).trans ((upW_ne _ _ (by omega)).trans ((upW_ne _ _ (by omega)).trans ((upW_ne _ _ (by omega)).trans ((upW_ne _ _ (by omega)).trans ((upW_ne _ _ (by omega)).trans (upW_ne _ _ (by omega))))))))))
  · rcases (show r = 0 ∨ r = 1 ∨ r = 2 ∨ r = 3 by omega) with rfl | rfl | rfl | rfl
    · show _ = wS G b _ (k + 0) _ _
      rw [Int.add_zero]
      exact (upW_hit _ _ (by omega)).trans rfl
    · show _ = wS G b _ (k + 1) _ _
      exact ((upW_ne _ _ (by omega)).trans ((upW_ne _ _ (by omega)).trans ((upW_ne _ _ (by omega)).trans ((upW_ne _ _ (by omega)).trans ((upW_ne _ _ (by omega)).trans (upW_hit _ _ (by omega))))))).trans rfl
    · show _ = wS G b _ (k + 2) _ _
      exact ((upW_ne _ _ (by omega)).trans ((upW_ne _ _ (by omega)).trans ((upW_ne _ _ (by omega)).trans (upW_hit _ _ (by omega))))).trans rfl
    · show _ = wS G b _ (k + 3) _ _
      exact ((upW_ne _ _ (by omega)).trans (upW_hit _ _ (by omega))).trans rfl
set_option maxHeartbeats 4000000 in
theorem iX5 (l : Launch) (G : gG) (b : Nat) (k : Int) (w : Int → va_E) (hk : 0 ≤ k) (hw : w k = .inr (5, frX5)) : Ct l G b yX5_init cX5_init 1 none rmI5 [.ref (ad b k)] (k + 1) w (PIo 3 k w (rkF G b k)) := by
  refine CtK_of (by decide) (Nat.le_of_ble_eq_true rfl) q133 ?_
  intro x hl hB hE _
  subst hl
  have hB : Bx x G b RX5 cX5_init 1 none rmI5 "<init>" := hB
  show Y x G b 0 0 (k + 1) w 0 [(0, .ref (ad b k))] []
  refine y_aload_n hB 0 dX5_init_0 rfl rfl ?_
  refine y_objInit hB q134 q18 q19 dX5_init_1 (Nat.le_of_ble_eq_true rfl) (Nat.le_of_ble_eq_true rfl) ?_
  refine y_aload_n hB 0 dX5_init_4 rfl rfl ?_
  refine y_bipush (v := 20) hB dX5_init_5 (by decide) ?_
  refine y_newa 0 hB (m := 20) (N := 20) (Or.inl ⟨rfl, rfl⟩) q64 rfl (by decide) (Nat.le_of_ble_eq_true rfl) (Nat.le_of_ble_eq_true rfl) dX5_init_7 ?_
  rw [show (k + 1 + 1 : Int) = k + 2 by omega]
  refine y_putF hB (T := TX5) (N := 3) tyX5 tyX5_ok nmX5 inX5 ⟨by omega, by omega⟩ ((upW_ne _ _ (by omega)).trans hw) rfl 0 (by decide) q135 rfl rfl rfl rfl (Nat.le_of_ble_eq_true rfl) dX5_init_9 ?_
  refine y_aload_n hB 0 dX5_init_12 rfl rfl ?_
  refine y_bipush (v := 20) hB dX5_init_13 (by decide) ?_
  refine y_newa 0 hB (m := 20) (N := 20) (Or.inl ⟨rfl, rfl⟩) q64 rfl (by decide) (Nat.le_of_ble_eq_true rfl) (Nat.le_of_ble_eq_true rfl) dX5_init_15 ?_
  rw [show (k + 2 + 1 : Int) = k + 3 by omega]
  refine y_putF hB (T := TX5) (N := 3) tyX5 tyX5_ok nmX5 inX5 ⟨by omega, by omega⟩ ((upW_ne _ _ (by omega)).trans (upW_hit _ _ (by omega))) rfl 1 (by decide) q136 rfl rfl rfl rfl (Nat.le_of_ble_eq_true rfl) dX5_init_17 ?_
  refine y_vret hB hE dX5_init_20 ⟨rfl, rfl, fun j h0 h1 => ?_, fun r h0 h1 => ?_⟩
  · exact ((upW_ne _ _ (by omega)).trans ((upW_ne _ _ (by omega)).trans ((upW_ne _ _ (by omega)).trans (upW_ne _ _ (by omega)))))
  · rcases (show r = 0 ∨ r = 1 ∨ r = 2 by omega) with rfl | rfl | rfl
    · show _ = wS G b _ (k + 0) _ _
      rw [Int.add_zero]
      exact (upW_hit _ _ (by omega)).trans rfl
    · show _ = wS G b _ (k + 1) _ _
      exact ((upW_ne _ _ (by omega)).trans ((upW_ne _ _ (by omega)).trans ((upW_ne _ _ (by omega)).trans (upW_hit _ _ (by omega))))).trans rfl
    · show _ = wS G b _ (k + 2) _ _
      exact ((upW_ne _ _ (by omega)).trans (upW_hit _ _ (by omega))).trans rfl
set_option maxHeartbeats 4000000 in
theorem iX3 (l : Launch) (G : gG) (b : Nat) (k : Int) (w : Int → va_E) (hk : 0 ≤ k) (hw : w k = .inr (3, frX3)) : Ct l G b yX3_init cX3_init 1 none rmI3 [.ref (ad b k)] (k + 1) w (PIo 5 k w (pgF0 G b k)) := by
  refine CtK_of (by decide) (Nat.le_of_ble_eq_true rfl) q149 ?_
  intro x hl hB hE _
  subst hl
  have hB : Bx x G b RX3 cX3_init 1 none rmI3 "<init>" := hB
  show Y x G b 0 0 (k + 1) w 0 [(0, .ref (ad b k))] []
  refine y_aload_n hB 0 dX3_init_0 rfl rfl ?_
  refine y_objInit hB q150 q18 q19 dX3_init_1 (Nat.le_of_ble_eq_true rfl) (Nat.le_of_ble_eq_true rfl) ?_
  refine y_aload_n hB 0 dX3_init_4 rfl rfl ?_
  refine y_new hB (C := RX5) (T := TX5) (N := 3) (ci := 5) tyX5 tyX5_ok inX5 q151 q130 q8 rfl (fs := frX5) frX5_ok (Nat.le_of_ble_eq_true rfl) (Nat.le_of_ble_eq_true rfl) dX3_init_5 ?_
  refine y_dup hB dX3_init_8 rfl ?_
  refine y_callIN hB msX5_init nw4 (iX5 _ G b (k + 1) _ (by omega) (upW_self _ _ _)) rfl rfl ⟨Nat.le_of_ble_eq_true rfl, Nat.le_of_ble_eq_true rfl⟩ (Nat.le_of_ble_eq_true rfl) ⟨Nat.le_of_ble_eq_true rfl, Nat.le_of_ble_eq_true rfl⟩ dX3_init_9 (fun r_9 n_9 w_9 h_9 => ?_)
  obtain ⟨rfl, rfl, hlo_9, hhi_9⟩ := h_9
  have hs_9 := (congrArg w_9 (Int.add_zero (k + 1))).symm.trans (hhi_9 0 (by omega) (by omega))
  show Y x G b _ _ (k + 1 + 3) w_9 12 [(0, .ref (ad b (k)))] (.ref (ad b (k + 1)) :: .ref (ad b (k)) :: [])
  rw [show (k + 1 + 3 : Int) = k + 4 by omega]
  refine y_putF hB (T := TX3) (N := 4) tyX3 tyX3_ok nmX3 inX3 ⟨by omega, by omega⟩ ((hlo_9 _ (by omega) (by omega)).trans ((upW_ne _ _ (by omega)).trans hw)) rfl 0 (by decide) q153 rfl rfl rfl rfl (Nat.le_of_ble_eq_true rfl) dX3_init_12 ?_
  refine y_aload_n hB 0 dX3_init_15 rfl rfl ?_
  refine y_bipush (v := 20) hB dX3_init_16 (by decide) ?_
  refine y_newa 0 hB (m := 20) (N := 20) (Or.inl ⟨rfl, rfl⟩) q64 rfl (by decide) (Nat.le_of_ble_eq_true rfl) (Nat.le_of_ble_eq_true rfl) dX3_init_18 ?_
  rw [show (k + 4 + 1 : Int) = k + 5 by omega]
  refine y_putF hB (T := TX3) (N := 4) tyX3 tyX3_ok nmX3 inX3 ⟨by omega, by omega⟩ ((upW_ne _ _ (by omega)).trans (upW_hit _ _ (by omega))) rfl 1 (by decide) q154 rfl rfl rfl rfl (Nat.le_of_ble_eq_true rfl) dX3_init_20 ?_
  refine y_vret hB hE dX3_init_23 ⟨rfl, rfl, fun j h0 h1 => ?_, fun r h0 h1 => ?_⟩
  · exact ((upW_ne _ _ (by omega)).trans ((upW_ne _ _ (by omega)).trans ((upW_ne _ _ (by omega)).trans ((hlo_9 _ h0 (by omega)).trans (upW_ne _ _ (by omega))))))
  · rcases (show r = 0 ∨ r = 1 ∨ r = 2 ∨ r = 3 ∨ r = 4 by omega) with rfl | rfl | rfl | rfl | rfl
    · show _ = wS G b _ (k + 0) _ _
      rw [Int.add_zero]
      exact (upW_hit _ _ (by omega)).trans rfl
    · show _ = wS G b _ (k + 1) _ _
      rw [show (k + 1 : Int) = k + 1 + 0 by omega]
      exact ((upW_ne _ _ (by omega)).trans ((upW_ne _ _ (by omega)).trans ((upW_ne _ _ (by omega)).trans (hhi_9 0 (by omega) (by omega)))))
    · show _ = wS G b _ (k + 2) _ _
      rw [show (k + 2 : Int) = k + 1 + 1 by omega]
      exact ((upW_ne _ _ (by omega)).trans ((upW_ne _ _ (by omega)).trans ((upW_ne _ _ (by omega)).trans (hhi_9 1 (by omega) (by omega)))))
    · show _ = wS G b _ (k + 3) _ _
      rw [show (k + 3 : Int) = k + 1 + 2 by omega]
      exact ((upW_ne _ _ (by omega)).trans ((upW_ne _ _ (by omega)).trans ((upW_ne _ _ (by omega)).trans (hhi_9 2 (by omega) (by omega)))))
    · show _ = wS G b _ (k + 4) _ _
      exact ((upW_ne _ _ (by omega)).trans (upW_hit _ _ (by omega))).trans rfl
set_option maxHeartbeats 4000000 in
theorem iX0 (l : Launch) (G : gG) (b : Nat) (k : Int) (w : Int → va_E) (hk : 0 ≤ k) (hw : w k = .inr (0, frX0)) : Ct l G b yX0_init cX0_init 2 none rmI0 [.ref (ad b k)] (k + 1) w (PIo 84 k w (deskF G b k)) := by
  refine CtK_of (by decide) (Nat.le_of_ble_eq_true rfl) q24 ?_
  intro x hl hB hE _
  subst hl
  have hB : Bx x G b RX0 cX0_init 2 none rmI0 "<init>" := hB
  show Y x G b 0 0 (k + 1) w 0 [(0, .ref (ad b k))] []
  refine y_aload_n hB 0 dX0_init_0 rfl rfl ?_
  refine y_objInit hB q25 q18 q19 dX0_init_1 (Nat.le_of_ble_eq_true rfl) (Nat.le_of_ble_eq_true rfl) ?_
  refine y_aload_n hB 0 dX0_init_4 rfl rfl ?_
  refine y_iconst (v := 5) hB dX0_init_5 rfl ?_
  refine y_newa 0 hB (m := 5) (N := 5) (Or.inl ⟨rfl, rfl⟩) q64 rfl (by decide) (Nat.le_of_ble_eq_true rfl) (Nat.le_of_ble_eq_true rfl) dX0_init_6 ?_
  rw [show (k + 1 + 1 : Int) = k + 2 by omega]
  refine y_dup hB dX0_init_8 rfl ?_
  refine y_iconst (v := 0) hB dX0_init_9 rfl ?_
  refine y_bipush (v := 8) hB dX0_init_10 (by decide) ?_
  refine y_iast hB ⟨by omega, by omega⟩ (upW_hit _ _ (by omega)) (by omega) (by decide) dX0_init_12 ?_
  refine y_dup hB dX0_init_13 rfl ?_
  refine y_iconst (v := 1) hB dX0_init_14 rfl ?_
  refine y_bipush (v := 40) hB dX0_init_15 (by decide) ?_
  refine y_iast hB ⟨by omega, by omega⟩ (upW_hit _ _ (by omega)) (by omega) (by decide) dX0_init_17 ?_
  refine y_dup hB dX0_init_18 rfl ?_
  refine y_iconst (v := 2) hB dX0_init_19 rfl ?_
  refine y_bipush (v := 30) hB dX0_init_20 (by decide) ?_
  refine y_iast hB ⟨by omega, by omega⟩ (upW_hit _ _ (by omega)) (by omega) (by decide) dX0_init_22 ?_
  refine y_dup hB dX0_init_23 rfl ?_
  refine y_iconst (v := 3) hB dX0_init_24 rfl ?_
  refine y_iconst (v := 2) hB dX0_init_25 rfl ?_
  refine y_iast hB ⟨by omega, by omega⟩ (upW_hit _ _ (by omega)) (by omega) (by decide) dX0_init_26 ?_
  refine y_dup hB dX0_init_27 rfl ?_
  refine y_iconst (v := 4) hB dX0_init_28 rfl ?_
  refine y_iconst (v := 3) hB dX0_init_29 rfl ?_
  refine y_iast hB ⟨by omega, by omega⟩ (upW_hit _ _ (by omega)) (by omega) (by decide) dX0_init_30 ?_
  refine y_putF hB (T := TX0) (N := 7) tyX0 tyX0_ok nmX0 inX0 ⟨by omega, by omega⟩ ((upW_ne _ _ (by omega)).trans ((upW_ne _ _ (by omega)).trans ((upW_ne _ _ (by omega)).trans ((upW_ne _ _ (by omega)).trans ((upW_ne _ _ (by omega)).trans ((upW_ne _ _ (by omega)).trans hw)))))) rfl 0 (by decide) q65 rfl rfl rfl rfl (Nat.le_of_ble_eq_true rfl) dX0_init_31 ?_
  refine y_aload_n hB 0 dX0_init_34 rfl rfl ?_
  refine y_bipush (v := 6) hB dX0_init_35 (by decide) ?_
  refine y_newa 0 hB (m := 6) (N := 6) (Or.inl ⟨rfl, rfl⟩) q64 rfl (by decide) (Nat.le_of_ble_eq_true rfl) (Nat.le_of_ble_eq_true rfl) dX0_init_37 ?_
  rw [show (k + 2 + 1 : Int) = k + 3 by omega]
  refine y_dup hB dX0_init_39 rfl ?_
  refine y_iconst (v := 0) hB dX0_init_40 rfl ?_
  refine y_bipush (v := 50) hB dX0_init_41 (by decide) ?_
  refine y_iast hB ⟨by omega, by omega⟩ (upW_hit _ _ (by omega)) (by omega) (by decide) dX0_init_43 ?_
  refine y_dup hB dX0_init_44 rfl ?_
  refine y_iconst (v := 1) hB dX0_init_45 rfl ?_
  refine y_bipush (v := 50) hB dX0_init_46 (by decide) ?_
  refine y_iast hB ⟨by omega, by omega⟩ (upW_hit _ _ (by omega)) (by omega) (by decide) dX0_init_48 ?_
  refine y_dup hB dX0_init_49 rfl ?_
  refine y_iconst (v := 2) hB dX0_init_50 rfl ?_
  refine y_bipush (v := 50) hB dX0_init_51 (by decide) ?_
  refine y_iast hB ⟨by omega, by omega⟩ (upW_hit _ _ (by omega)) (by omega) (by decide) dX0_init_53 ?_
  refine y_dup hB dX0_init_54 rfl ?_
  refine y_iconst (v := 3) hB dX0_init_55 rfl ?_
  refine y_bipush (v := 50) hB dX0_init_56 (by decide) ?_
  refine y_iast hB ⟨by omega, by omega⟩ (upW_hit _ _ (by omega)) (by omega) (by decide) dX0_init_58 ?_
  refine y_dup hB dX0_init_59 rfl ?_
  refine y_iconst (v := 4) hB dX0_init_60 rfl ?_
  refine y_bipush (v := 50) hB dX0_init_61 (by decide) ?_
  refine y_iast hB ⟨by omega, by omega⟩ (upW_hit _ _ (by omega)) (by omega) (by decide) dX0_init_63 ?_
  refine y_dup hB dX0_init_64 rfl ?_
  refine y_iconst (v := 5) hB dX0_init_65 rfl ?_
  refine y_bipush (v := 50) hB dX0_init_66 (by decide) ?_
  refine y_iast hB ⟨by omega, by omega⟩ (upW_hit _ _ (by omega)) (by omega) (by decide) dX0_init_68 ?_
  refine y_putF hB (T := TX0) (N := 7) tyX0 tyX0_ok nmX0 inX0 ⟨by omega, by omega⟩ ((upW_ne _ _ (by omega)).trans ((upW_ne _ _ (by omega)).trans ((upW_ne _ _ (by omega)).trans ((upW_ne _ _ (by omega)).trans ((upW_ne _ _ (by omega)).trans ((upW_ne _ _ (by omega)).trans ((upW_ne _ _ (by omega)).trans (upW_hit _ _ (by omega))))))))) rfl 1 (by decide) q66 rfl rfl rfl rfl (Nat.le_of_ble_eq_true rfl) dX0_init_69 ?_
  refine y_aload_n hB 0 dX0_init_72 rfl rfl ?_
  refine y_bipush (v := 20) hB dX0_init_73 (by decide) ?_
  refine y_anew 3 hB (m := 20) (N := 20) (Or.inl ⟨rfl, rfl⟩) q26 rfl (by decide) (Nat.le_of_ble_eq_true rfl) (Nat.le_of_ble_eq_true rfl) dX0_init_75 ?_
  rw [show (k + 3 + 1 : Int) = k + 4 by omega]
  refine y_putF hB (T := TX0) (N := 7) tyX0 tyX0_ok nmX0 inX0 ⟨by omega, by omega⟩ ((upW_ne _ _ (by omega)).trans (upW_hit _ _ (by omega))) rfl 2 (by decide) q67 rfl rfl rfl rfl (Nat.le_of_ble_eq_true rfl) dX0_init_78 ?_
  refine y_iconst (v := 0) hB dX0_init_81 rfl ?_
  refine y_istore_n (lv' := [(1, .int (iI 0)), (0, .ref (ad b k))]) hB dX0_init_82 rfl (by decide) rfl ?_
  refine y_name (fun w1 hw1 => ?_)
  have g0 := (congrFun hw1 (k)).trans (upW_hit _ _ (by omega))
  have g1 := (congrFun hw1 (k + 1)).trans ((upW_ne _ _ (by omega)).trans ((upW_ne _ _ (by omega)).trans ((upW_ne _ _ (by omega)).trans ((upW_ne _ _ (by omega)).trans ((upW_ne _ _ (by omega)).trans ((upW_ne _ _ (by omega)).trans ((upW_ne _ _ (by omega)).trans ((upW_ne _ _ (by omega)).trans ((upW_ne _ _ (by omega)).trans ((upW_ne _ _ (by omega)).trans ((upW_ne _ _ (by omega)).trans (upW_hit _ _ (by omega)))))))))))))
  have g2 := (congrFun hw1 (k + 2)).trans ((upW_ne _ _ (by omega)).trans ((upW_ne _ _ (by omega)).trans ((upW_ne _ _ (by omega)).trans (upW_hit _ _ (by omega)))))
  have g3 := (congrFun hw1 (k + 3)).trans ((upW_ne _ _ (by omega)).trans (upW_hit _ _ (by omega)))
  have glo := fun (j : Int) (h0 : 0 ≤ j) (h1 : j < k) => (congrFun hw1 j).trans ((upW_ne _ _ (by omega)).trans ((upW_ne _ _ (by omega)).trans ((upW_ne _ _ (by omega)).trans ((upW_ne _ _ (by omega)).trans ((upW_ne _ _ (by omega)).trans ((upW_ne _ _ (by omega)).trans ((upW_ne _ _ (by omega)).trans ((upW_ne _ _ (by omega)).trans ((upW_ne _ _ (by omega)).trans ((upW_ne _ _ (by omega)).trans ((upW_ne _ _ (by omega)).trans ((upW_ne _ _ (by omega)).trans ((upW_ne _ _ (by omega)).trans ((upW_ne _ _ (by omega)).trans ((upW_ne _ _ (by omega)).trans ((upW_ne _ _ (by omega)).trans (upW_ne _ _ (by omega))))))))))))))))))
  clear hw1
  have LOOP : ∀ (fu : Nat) (i : Int) (wi : Int → va_E), 0 ≤ i ∧ i ≤ 20 → LI G b (k + 3) (k + 4) 4 20 3 (lifeF G b) w1 i wi → 20 - i < (fu : Int) → Y x G b (3 + 4 * i.toNat) (31 + 34 * i.toNat) (k + 4 + 4 * i) wi 83 [(1, .int (iI i)), (0, .ref (ad b k))] [] := by
    intro fu
    induction fu with
    | zero => intro i wi hi hI hm; exfalso; omega
    | succ fu ih =>
        intro i wi hi hI hm
        have e0 := (hI.1 (k) (by omega) (by omega) (by omega)).trans g0
        have e1 := (hI.1 (k + 1) (by omega) (by omega) (by omega)).trans g1
        have e2 := (hI.1 (k + 2) (by omega) (by omega) (by omega)).trans g2
        have e3 := hI.2.1
        refine y_iload_n hB 0 dX0_init_83 rfl rfl ?_
        refine y_bipush (v := 20) hB dX0_init_84 (by decide) ?_
        refine y_icmp_ge hB 108 dX0_init_86 (by decide) (by omega) (by omega) (fun hc => ?_) (fun hc => ?_)
        · obtain rfl : i = 20 := by omega
          refine y_refs (A := k + 3) (fun j : Nat => some (ad b (k + 3 + 1 + 4 * (j : Int)))) ⟨by omega, by omega⟩ e3 (fun j hj => by rw [if_pos (by omega), show k + 3 + 1 + 4 * (j : Int) = k + 4 + 4 * (j : Int) by omega]) ?_
          refine y_aload_n hB 1 dX0_init_108 rfl rfl ?_
          refine y_aload_n hB 1 dX0_init_109 rfl rfl ?_
          refine y_get hB (C := RX0) (T := TX0) (N := 7) (v := .ref (ad b (k + 1))) inX0 ⟨by omega, by omega⟩ ((upW_ne _ _ (by omega)).trans e0) rfl 0 (by decide) q65 rfl dX0_init_110 ?_
          refine y_iconst (v := 0) hB dX0_init_113 rfl ?_
          refine y_ald 0 hB ⟨by omega, by omega⟩ ((upW_ne _ _ (by omega)).trans e1) (Or.inl rfl) (by omega) (by decide) dX0_init_114 ?_
          refine y_put hB (C := RX0) (T := TX0) (N := 7) (v := .int (iI 8)) tyX0 tyX0_ok nmX0 inX0 ⟨by omega, by omega⟩ ((upW_ne _ _ (by omega)).trans e0) rfl 5 (by decide) q70 rfl rfl rfl (Nat.le_of_ble_eq_true rfl) dX0_init_115 ?_
          refine y_widen (cl' := 83) (sl' := 711) (by decide) (by decide) ?_
          refine y_vret hB hE dX0_init_118 ⟨rfl, by omega, fun j h0 h1 => ?_, fun r h0 h1 => ?_⟩
          · exact ((upW_ne _ _ (by omega)).trans ((upW_ne _ _ (by omega)).trans ((hI.1 j h0 (by omega) (by omega)).trans (glo j h0 h1))))
          · rcases (show r = 0 ∨ r = 1 ∨ r = 2 ∨ r = 3 ∨ 4 ≤ r by omega) with rfl | rfl | rfl | rfl | h4
            · show _ = wS G b _ (k + 0) _ _
              rw [Int.add_zero]
              exact (upW_self _ _ _).trans rfl
            · exact (upW_ne _ _ (by omega)).trans ((upW_ne _ _ (by omega)).trans (e1.trans (by rw [st_arr]; rfl)))
            · exact (upW_ne _ _ (by omega)).trans ((upW_ne _ _ (by omega)).trans (e2.trans (by rw [tr_arr]; rfl)))
            · exact ((upW_ne _ _ (by omega)).trans (upW_self _ _ _)).trans rfl
            · refine (upW_ne _ _ (by omega)).trans ((upW_ne _ _ (by omega)).trans ?_)
              have h9 := hI.2.2 ((r - 4) / 4) ((r - 4) % 4) (by omega) (by omega) (by omega) (by omega)
              rw [show k + 4 + 4 * ((r - 4) / 4) + (r - 4) % 4 = k + r by omega] at h9
              exact h9.trans (desk_life h4)
        · refine y_aload_n hB 1 dX0_init_89 rfl rfl ?_
          refine y_get hB (C := RX0) (T := TX0) (N := 7) (v := .ref (ad b (k + 3))) inX0 ⟨by omega, by omega⟩ e0 rfl 2 (by decide) q67 rfl dX0_init_90 ?_
          refine y_iload_n hB 0 dX0_init_93 rfl rfl ?_
          refine y_new hB (C := RX2) (T := TX2) (N := 10) (ci := 2) tyX2 tyX2_ok inX2 q26 q28 q5 rfl (fs := frX2) frX2_ok (by show _ ≤ 83; omega) (by show _ ≤ 711; omega) dX0_init_94 ?_
          refine y_dup hB dX0_init_97 rfl ?_
          refine y_callIN hB msX2_init nw0 (iX2 _ G b (k + 4 + 4 * i) _ (by omega) (upW_self _ _ _)) rfl rfl ⟨Nat.le_of_ble_eq_true rfl, Nat.le_of_ble_eq_true rfl⟩ (Nat.le_of_ble_eq_true rfl) ⟨by show 3 + 4 * i.toNat + 1 + 3 ≤ 83; omega, by show 31 + 34 * i.toNat + 10 + 24 ≤ 711; omega⟩ dX0_init_98 (fun r_98 n_98 w_98 h_98 => ?_)
          obtain ⟨rfl, rfl, hlo_98, hhi_98⟩ := h_98
          have hs_98 := (congrArg w_98 (Int.add_zero (k + 4 + 4 * i))).symm.trans (hhi_98 0 (by omega) (by omega))
          show Y x G b _ _ (k + 4 + 4 * i + 4) w_98 101 [(1, .int (iI (i))), (0, .ref (ad b (k)))] (.ref (ad b (k + 4 + 4 * i)) :: .int (iI (i)) :: .ref (ad b (k + 3)) :: [])
          refine y_aast 3 hB (ci := 2) ⟨by omega, by omega⟩ ((hlo_98 _ (by omega) (by omega)).trans ((upW_ne _ _ (by omega)).trans e3)) ⟨by omega, by omega⟩ (hs_98) (Or.inl ⟨rfl, rfl⟩) (by omega) (by decide) dX0_init_101 ?_
          refine y_iinc (v := i + 1) (lv' := [(1, .int (iI (i + 1))), (0, .ref (ad b k))]) hB 0 dX0_init_102 rfl rfl (by decide) rfl ?_
          refine y_goto hB 83 dX0_init_105 (by decide) ?_
          rw [show (k + 4 + 4 * i + 4 : Int) = k + 4 + 4 * (i + 1) by omega]
          refine y_widen (cl := 3 + 4 * i.toNat + 1 + 3) (sl := 31 + 34 * i.toNat + 10 + 24) (cl' := 3 + 4 * (i + 1).toNat) (sl' := 31 + 34 * (i + 1).toNat) (by omega) (by omega) ?_
          exact ih (i + 1) _ (by omega) (li_s (by omega) ⟨by omega, by omega⟩ (by omega) hI hlo_98 hhi_98) (by omega)
  rw [show (k + 4 : Int) = k + 4 + 4 * 0 by omega]
  refine y_widen (cl' := 3 + 4 * (0 : Int).toNat) (sl' := 31 + 34 * (0 : Int).toNat) (by decide) (by decide) ?_
  exact LOOP 21 0 w1 (by omega) (li_0 g3) (by omega)
set_option maxHeartbeats 4000000 in
theorem iX1 (l : Launch) (G : gG) (b : Nat) (k : Int) (w : Int → va_E) (hk : 0 ≤ k) (hw : w k = .inr (1, frX1)) : Ct l G b yX1_init cX1_init 2 none rmI1 [.ref (ad b k)] (k + 1) w (PIo 338 k w (hisF G b k)) := by
  refine CtK_of (by decide) (Nat.le_of_ble_eq_true rfl) q91 ?_
  intro x hl hB hE _
  subst hl
  have hB : Bx x G b RX1 cX1_init 2 none rmI1 "<init>" := hB
  show Y x G b 0 0 (k + 1) w 0 [(0, .ref (ad b k))] []
  refine y_aload_n hB 0 dX1_init_0 rfl rfl ?_
  refine y_objInit hB q92 q18 q19 dX1_init_1 (Nat.le_of_ble_eq_true rfl) (Nat.le_of_ble_eq_true rfl) ?_
  refine y_aload_n hB 0 dX1_init_4 rfl rfl ?_
  refine y_iconst (v := 4) hB dX1_init_5 rfl ?_
  refine y_anew 4 hB (m := 4) (N := 4) (Or.inr ⟨rfl, rfl⟩) q93 rfl (by decide) (Nat.le_of_ble_eq_true rfl) (Nat.le_of_ble_eq_true rfl) dX1_init_6 ?_
  rw [show (k + 1 + 1 : Int) = k + 2 by omega]
  refine y_putF hB (T := TX1) (N := 3) tyX1 tyX1_ok nmX1 inX1 ⟨by omega, by omega⟩ ((upW_ne _ _ (by omega)).trans hw) rfl 0 (by decide) q96 rfl rfl rfl rfl (Nat.le_of_ble_eq_true rfl) dX1_init_9 ?_
  refine y_iconst (v := 0) hB dX1_init_12 rfl ?_
  refine y_istore_n (lv' := [(1, .int (iI 0)), (0, .ref (ad b k))]) hB dX1_init_13 rfl (by decide) rfl ?_
  refine y_name (fun w1 hw1 => ?_)
  have g0 := (congrFun hw1 (k)).trans (upW_hit _ _ (by omega))
  have g1 := (congrFun hw1 (k + 1)).trans ((upW_ne _ _ (by omega)).trans (upW_hit _ _ (by omega)))
  have glo := fun (j : Int) (h0 : 0 ≤ j) (h1 : j < k) => (congrFun hw1 j).trans ((upW_ne _ _ (by omega)).trans (upW_ne _ _ (by omega)))
  clear hw1
  have LOOP : ∀ (fu : Nat) (i : Int) (wi : Int → va_E), 0 ≤ i ∧ i ≤ 4 → LI G b (k + 1) (k + 2) 84 4 4 (deskF G b) w1 i wi → 4 - i < (fu : Int) → Y x G b (1 + 84 * i.toNat) (4 + 718 * i.toNat) (k + 2 + 84 * i) wi 14 [(1, .int (iI i)), (0, .ref (ad b k))] [] := by
    intro fu
    induction fu with
    | zero => intro i wi hi hI hm; exfalso; omega
    | succ fu ih =>
        intro i wi hi hI hm
        have e0 := (hI.1 (k) (by omega) (by omega) (by omega)).trans g0
        have e1 := hI.2.1
        refine y_iload_n hB 0 dX1_init_14 rfl rfl ?_
        refine y_iconst (v := 4) hB dX1_init_15 rfl ?_
        refine y_icmp_ge hB 38 dX1_init_16 (by decide) (by omega) (by omega) (fun hc => ?_) (fun hc => ?_)
        · obtain rfl : i = 4 := by omega
          refine y_refs (A := k + 1) (fun j : Nat => some (ad b (k + 1 + 1 + 84 * (j : Int)))) ⟨by omega, by omega⟩ e1 (fun j hj => by rw [if_pos (by omega), show k + 1 + 1 + 84 * (j : Int) = k + 2 + 84 * (j : Int) by omega]) ?_
          refine y_widen (cl' := 337) (sl' := 2876) (by decide) (by decide) ?_
          refine y_vret hB hE dX1_init_38 ⟨rfl, by omega, fun j h0 h1 => ?_, fun r h0 h1 => ?_⟩
          · exact ((upW_ne _ _ (by omega)).trans ((hI.1 j h0 (by omega) (by omega)).trans (glo j h0 h1)))
          · rcases (show r = 0 ∨ r = 1 ∨ 2 ≤ r by omega) with rfl | rfl | h4
            · rw [his_0, Int.add_zero]
              exact ((upW_ne _ _ (by omega)).trans e0).trans rfl
            · exact (upW_self _ _ _).trans rfl
            · refine (upW_ne _ _ (by omega)).trans ?_
              have h9 := hI.2.2 ((r - 2) / 84) ((r - 2) % 84) (by omega) (by omega) (by omega) (by omega)
              rw [show k + 2 + 84 * ((r - 2) / 84) + (r - 2) % 84 = k + r by omega] at h9
              exact h9.trans (his_desk h4)
        · refine y_aload_n hB 1 dX1_init_19 rfl rfl ?_
          refine y_get hB (C := RX1) (T := TX1) (N := 3) (v := .ref (ad b (k + 1))) inX1 ⟨by omega, by omega⟩ e0 rfl 0 (by decide) q96 rfl dX1_init_20 ?_
          refine y_iload_n hB 0 dX1_init_23 rfl rfl ?_
          refine y_new hB (C := RX0) (T := TX0) (N := 7) (ci := 0) tyX0 tyX0_ok inX0 q93 q21 q4 rfl (fs := frX0) frX0_ok (by show _ ≤ 337; omega) (by show _ ≤ 2876; omega) dX1_init_24 ?_
          refine y_dup hB dX1_init_27 rfl ?_
          refine y_callI hB msX0_init q95 (iX0 _ G b (k + 2 + 84 * i) _ (by omega) (upW_self _ _ _)) rfl rfl ⟨Nat.le_of_ble_eq_true rfl, Nat.le_of_ble_eq_true rfl⟩ (Nat.le_of_ble_eq_true rfl) ⟨by show 1 + 84 * i.toNat + 1 + 83 ≤ 337; omega, by show 4 + 718 * i.toNat + 7 + 711 ≤ 2876; omega⟩ dX1_init_28 (fun r_28 n_28 w_28 h_28 => ?_)
          obtain ⟨rfl, rfl, hlo_28, hhi_28⟩ := h_28
          have hs_28 := (congrArg w_28 (Int.add_zero (k + 2 + 84 * i))).symm.trans (hhi_28 0 (by omega) (by omega))
          show Y x G b _ _ (k + 2 + 84 * i + 84) w_28 31 [(1, .int (iI (i))), (0, .ref (ad b (k)))] (.ref (ad b (k + 2 + 84 * i)) :: .int (iI (i)) :: .ref (ad b (k + 1)) :: [])
          refine y_aast 4 hB (ci := 0) ⟨by omega, by omega⟩ ((hlo_28 _ (by omega) (by omega)).trans ((upW_ne _ _ (by omega)).trans e1)) ⟨by omega, by omega⟩ (hs_28) (Or.inr ⟨rfl, rfl⟩) (by omega) (by decide) dX1_init_31 ?_
          refine y_iinc (v := i + 1) (lv' := [(1, .int (iI (i + 1))), (0, .ref (ad b k))]) hB 0 dX1_init_32 rfl rfl (by decide) rfl ?_
          refine y_goto hB 14 dX1_init_35 (by decide) ?_
          rw [show (k + 2 + 84 * i + 84 : Int) = k + 2 + 84 * (i + 1) by omega]
          refine y_widen (cl := 1 + 84 * i.toNat + 1 + 83) (sl := 4 + 718 * i.toNat + 7 + 711) (cl' := 1 + 84 * (i + 1).toNat) (sl' := 4 + 718 * (i + 1).toNat) (by omega) (by omega) ?_
          exact ih (i + 1) _ (by omega) (li_s (by omega) ⟨by omega, by omega⟩ (by omega) hI hlo_28 hhi_28) (by omega)
  rw [show (k + 2 : Int) = k + 2 + 84 * 0 by omega]
  refine y_widen (cl' := 1 + 84 * (0 : Int).toNat) (sl' := 4 + 718 * (0 : Int).toNat) (by decide) (by decide) ?_
  exact LOOP 5 0 w1 (by omega) (li_0 g1) (by omega)
set_option maxHeartbeats 4000000 in
theorem iX4 (l : Launch) (G : gG) (b : Nat) (k : Int) (w : Int → va_E) (hk : 0 ≤ k) (hw : w k = .inr (4, frX4)) : Ct l G b yX4_init cX4_init 2 none rmI4 [.ref (ad b k)] (k + 1) w (PIo 63 k w (txtF G b k)) := by
  refine CtK_of (by decide) (Nat.le_of_ble_eq_true rfl) q110 ?_
  intro x hl hB hE _
  subst hl
  have hB : Bx x G b RX4 cX4_init 2 none rmI4 "<init>" := hB
  show Y x G b 0 0 (k + 1) w 0 [(0, .ref (ad b k))] []
  refine y_aload_n hB 0 dX4_init_0 rfl rfl ?_
  refine y_objInit hB q111 q18 q19 dX4_init_1 (Nat.le_of_ble_eq_true rfl) (Nat.le_of_ble_eq_true rfl) ?_
  refine y_aload_n hB 0 dX4_init_4 rfl rfl ?_
  refine y_bipush (v := 60) hB dX4_init_5 (by decide) ?_
  refine y_newa 2 hB (m := 60) (N := 60) (Or.inr ⟨rfl, rfl⟩) q128 rfl (by decide) (Nat.le_of_ble_eq_true rfl) (Nat.le_of_ble_eq_true rfl) dX4_init_7 ?_
  rw [show (k + 1 + 1 : Int) = k + 2 by omega]
  refine y_putF hB (T := TX4) (N := 5) tyX4 tyX4_ok nmX4 inX4 ⟨by omega, by omega⟩ ((upW_ne _ _ (by omega)).trans hw) rfl 0 (by decide) q114 rfl rfl rfl rfl (Nat.le_of_ble_eq_true rfl) dX4_init_9 ?_
  refine y_aload_n hB 0 dX4_init_12 rfl rfl ?_
  refine y_bipush (v := 15) hB dX4_init_13 (by decide) ?_
  refine y_anew 3 hB (m := 15) (N := 15) (Or.inl ⟨rfl, rfl⟩) q112 rfl (by decide) (Nat.le_of_ble_eq_true rfl) (Nat.le_of_ble_eq_true rfl) dX4_init_15 ?_
  rw [show (k + 2 + 1 : Int) = k + 3 by omega]
  refine y_putF hB (T := TX4) (N := 5) tyX4 tyX4_ok nmX4 inX4 ⟨by omega, by omega⟩ ((upW_ne _ _ (by omega)).trans (upW_hit _ _ (by omega))) rfl 2 (by decide) q116 rfl rfl rfl rfl (Nat.le_of_ble_eq_true rfl) dX4_init_18 ?_
  refine y_iconst (v := 0) hB dX4_init_21 rfl ?_
  refine y_istore_n (lv' := [(1, .int (iI 0)), (0, .ref (ad b k))]) hB dX4_init_22 rfl (by decide) rfl ?_
  refine y_name (fun w1 hw1 => ?_)
  have g0 := (congrFun hw1 (k)).trans (upW_hit _ _ (by omega))
  have g1 := (congrFun hw1 (k + 1)).trans ((upW_ne _ _ (by omega)).trans ((upW_ne _ _ (by omega)).trans ((upW_ne _ _ (by omega)).trans (upW_hit _ _ (by omega)))))
  have g2 := (congrFun hw1 (k + 2)).trans ((upW_ne _ _ (by omega)).trans (upW_hit _ _ (by omega)))
  have glo := fun (j : Int) (h0 : 0 ≤ j) (h1 : j < k) => (congrFun hw1 j).trans ((upW_ne _ _ (by omega)).trans ((upW_ne _ _ (by omega)).trans ((upW_ne _ _ (by omega)).trans (upW_ne _ _ (by omega)))))
  clear hw1
  have LOOP : ∀ (fu : Nat) (i : Int) (wi : Int → va_E), 0 ≤ i ∧ i ≤ 15 → LI G b (k + 2) (k + 3) 4 15 3 (lifeF G b) w1 i wi → 15 - i < (fu : Int) → Y x G b (2 + 4 * i.toNat) (75 + 34 * i.toNat) (k + 3 + 4 * i) wi 23 [(1, .int (iI i)), (0, .ref (ad b k))] [] := by
    intro fu
    induction fu with
    | zero => intro i wi hi hI hm; exfalso; omega
    | succ fu ih =>
        intro i wi hi hI hm
        have e0 := (hI.1 (k) (by omega) (by omega) (by omega)).trans g0
        have e1 := (hI.1 (k + 1) (by omega) (by omega) (by omega)).trans g1
        have e2 := hI.2.1
        refine y_iload_n hB 0 dX4_init_23 rfl rfl ?_
        refine y_bipush (v := 15) hB dX4_init_24 (by decide) ?_
        refine y_icmp_ge hB 48 dX4_init_26 (by decide) (by omega) (by omega) (fun hc => ?_) (fun hc => ?_)
        · obtain rfl : i = 15 := by omega
          refine y_refs (A := k + 2) (fun j : Nat => some (ad b (k + 2 + 1 + 4 * (j : Int)))) ⟨by omega, by omega⟩ e2 (fun j hj => by rw [if_pos (by omega), show k + 2 + 1 + 4 * (j : Int) = k + 3 + 4 * (j : Int) by omega]) ?_
          refine y_widen (cl' := 62) (sl' := 585) (by decide) (by decide) ?_
          refine y_vret hB hE dX4_init_48 ⟨rfl, by omega, fun j h0 h1 => ?_, fun r h0 h1 => ?_⟩
          · exact ((upW_ne _ _ (by omega)).trans ((hI.1 j h0 (by omega) (by omega)).trans (glo j h0 h1)))
          · rcases (show r = 0 ∨ r = 1 ∨ r = 2 ∨ 3 ≤ r by omega) with rfl | rfl | rfl | h4
            · rw [txt_0, Int.add_zero]
              exact ((upW_ne _ _ (by omega)).trans e0).trans rfl
            · exact ((upW_ne _ _ (by omega)).trans e1).trans rfl
            · exact (upW_self _ _ _).trans rfl
            · refine (upW_ne _ _ (by omega)).trans ?_
              have h9 := hI.2.2 ((r - 3) / 4) ((r - 3) % 4) (by omega) (by omega) (by omega) (by omega)
              rw [show k + 3 + 4 * ((r - 3) / 4) + (r - 3) % 4 = k + r by omega] at h9
              exact h9.trans (txt_life h4)
        · refine y_aload_n hB 1 dX4_init_29 rfl rfl ?_
          refine y_get hB (C := RX4) (T := TX4) (N := 5) (v := .ref (ad b (k + 2))) inX4 ⟨by omega, by omega⟩ e0 rfl 2 (by decide) q116 rfl dX4_init_30 ?_
          refine y_iload_n hB 0 dX4_init_33 rfl rfl ?_
          refine y_new hB (C := RX2) (T := TX2) (N := 10) (ci := 2) tyX2 tyX2_ok inX2 q112 q28 q5 rfl (fs := frX2) frX2_ok (by show _ ≤ 62; omega) (by show _ ≤ 585; omega) dX4_init_34 ?_
          refine y_dup hB dX4_init_37 rfl ?_
          refine y_callIN hB msX2_init nw1 (iX2 _ G b (k + 3 + 4 * i) _ (by omega) (upW_self _ _ _)) rfl rfl ⟨Nat.le_of_ble_eq_true rfl, Nat.le_of_ble_eq_true rfl⟩ (Nat.le_of_ble_eq_true rfl) ⟨by show 2 + 4 * i.toNat + 1 + 3 ≤ 62; omega, by show 75 + 34 * i.toNat + 10 + 24 ≤ 585; omega⟩ dX4_init_38 (fun r_38 n_38 w_38 h_38 => ?_)
          obtain ⟨rfl, rfl, hlo_38, hhi_38⟩ := h_38
          have hs_38 := (congrArg w_38 (Int.add_zero (k + 3 + 4 * i))).symm.trans (hhi_38 0 (by omega) (by omega))
          show Y x G b _ _ (k + 3 + 4 * i + 4) w_38 41 [(1, .int (iI (i))), (0, .ref (ad b (k)))] (.ref (ad b (k + 3 + 4 * i)) :: .int (iI (i)) :: .ref (ad b (k + 2)) :: [])
          refine y_aast 3 hB (ci := 2) ⟨by omega, by omega⟩ ((hlo_38 _ (by omega) (by omega)).trans ((upW_ne _ _ (by omega)).trans e2)) ⟨by omega, by omega⟩ (hs_38) (Or.inl ⟨rfl, rfl⟩) (by omega) (by decide) dX4_init_41 ?_
          refine y_iinc (v := i + 1) (lv' := [(1, .int (iI (i + 1))), (0, .ref (ad b k))]) hB 0 dX4_init_42 rfl rfl (by decide) rfl ?_
          refine y_goto hB 23 dX4_init_45 (by decide) ?_
          rw [show (k + 3 + 4 * i + 4 : Int) = k + 3 + 4 * (i + 1) by omega]
          refine y_widen (cl := 2 + 4 * i.toNat + 1 + 3) (sl := 75 + 34 * i.toNat + 10 + 24) (cl' := 2 + 4 * (i + 1).toNat) (sl' := 75 + 34 * (i + 1).toNat) (by omega) (by omega) ?_
          exact ih (i + 1) _ (by omega) (li_s (by omega) ⟨by omega, by omega⟩ (by omega) hI hlo_38 hhi_38) (by omega)
  rw [show (k + 3 : Int) = k + 3 + 4 * 0 by omega]
  refine y_widen (cl' := 2 + 4 * (0 : Int).toNat) (sl' := 75 + 34 * (0 : Int).toNat) (by decide) (by decide) ?_
  exact LOOP 16 0 w1 (by omega) (li_0 g2) (by omega)
theorem kd_desk0 {j : Int} (h : 1 ≤ j ∧ j < 169) : kd j = dk ((j - 1) % 84) := by
  unfold kd
  rw [if_neg (by omega), if_neg (by omega), if_pos (by omega)]
theorem kd_his {j : Int} (h : 171 ≤ j ∧ j < 507) : kd j = dk ((j - 171) % 84) := by
  unfold kd
  rw [if_neg (by omega), if_neg (by omega), if_neg (by omega), if_neg (by omega), if_neg (by omega), if_pos (by omega)]
theorem kd_txt {j : Int} (h : 510 ≤ j ∧ j < 570) : kd j = lk ((j - 510) % 4) := by
  unfold kd
  repeat rw [if_neg (by omega)]
  rw [if_pos (by omega)]
theorem S0_z {j : Int} (h : j ≠ 579) : S0 j = zc := by unfold S0; rw [if_neg h]
section
variable {G : gG} {b : Nat} {j : Int}
theorem C0_desk0 (h : 1 ≤ j ∧ j < 85) : deskF G b 1 (j - 1) = wM G b C0 S0 j := by
  rw [wM_at rfl, S0_z (by omega), kd_desk0 (by omega)]
  unfold deskF C0
  rw [if_neg (by omega), if_pos (by omega), show (j - 1) % 84 = j - 1 by omega, show (1 : Int) + (j - 1) = j by omega]
theorem C0_desk1 (h : 85 ≤ j ∧ j < 169) : deskF G b 85 (j - 85) = wM G b C0 S0 j := by
  rw [wM_at rfl, S0_z (by omega), kd_desk0 (by omega)]
  unfold deskF C0
  rw [if_neg (by omega), if_pos (by omega), show (j - 1) % 84 = j - 85 by omega, show (85 : Int) + (j - 85) = j by omega]
theorem C0_his (h : 169 ≤ j ∧ j < 507) : hisF G b 169 (j - 169) = wM G b C0 S0 j := by
  unfold hisF
  rcases (show j = 169 ∨ j = 170 ∨ 171 ≤ j by omega) with rfl | rfl | h2
  · rfl
  · rfl
  · rw [if_neg (by omega), if_neg (by omega), wM_at rfl, S0_z (by omega), kd_his (by omega)]
    unfold C0
    rw [if_neg (by omega), if_neg (by omega), if_neg (by omega), if_pos (by omega), show j - 169 - 2 = j - 171 by omega, show (169 : Int) + (j - 169) = j by omega]
theorem C0_txt (h : 507 ≤ j ∧ j < 570) : txtF G b 507 (j - 507) = wM G b C0 S0 j := by
  unfold txtF
  rcases (show j = 507 ∨ j = 508 ∨ j = 509 ∨ 510 ≤ j by omega) with rfl | rfl | rfl | h2
  · rfl
  · rfl
  · rfl
  · rw [if_neg (by omega), wM_at rfl, S0_z (by omega), kd_txt (by omega)]
    unfold C0
    rw [if_neg (by omega), if_neg (by omega), if_neg (by omega), if_neg (by omega), if_neg (by omega), if_pos (by omega), show j - 507 - 3 = j - 510 by omega, show (507 : Int) + (j - 507) = j by omega]
theorem C0_rk (h : 570 ≤ j ∧ j < 573) : rkF G b 570 (j - 570) = wM G b C0 S0 j := by
  rcases (show j = 570 ∨ j = 571 ∨ j = 572 by omega) with rfl | rfl | rfl <;> rfl
theorem C0_pg (h : 573 ≤ j ∧ j < 578) : pgF0 G b 573 (j - 573) = wM G b C0 S0 j := by
  rcases (show j = 573 ∨ j = 574 ∨ j = 575 ∨ j = 576 ∨ j = 577 by omega) with rfl | rfl | rfl | rfl | rfl <;> rfl
end
set_option maxHeartbeats 4000000 in
theorem iX6 (l : Launch) (G : gG) (b : Nat) (w : Int → va_E) (hw : w 0 = .inr (6, frX6)) : Ct l G b yX6_init cX6_init 1 none rmI6 [.ref (ad b 0)] 1 w (fun r n w1 => r = none ∧ n = 578 ∧ ∀ j : Int, 0 ≤ j → j < 578 → w1 j = wM G b C0 S0 j) := by
  refine CtK_of (by decide) (Nat.le_of_ble_eq_true rfl) q16 ?_
  intro x hl hB hE _
  subst hl
  have hB : Bx x G b RX6 cX6_init 1 none rmI6 "<init>" := hB
  show Y x G b 0 0 1 w 0 [(0, .ref (ad b 0))] []
  refine y_aload_n hB 0 dX6_init_0 rfl rfl ?_
  refine y_objInit hB q17 q18 q19 dX6_init_1 (Nat.le_of_ble_eq_true rfl) (Nat.le_of_ble_eq_true rfl) ?_
  refine y_aload_n hB 0 dX6_init_4 rfl rfl ?_
  refine y_new hB (C := RX0) (T := TX0) (N := 7) (ci := 0) tyX0 tyX0_ok inX0 q20 q21 q4 rfl (fs := frX0) frX0_ok (Nat.le_of_ble_eq_true rfl) (Nat.le_of_ble_eq_true rfl) dX6_init_5 ?_
  refine y_dup hB dX6_init_8 rfl ?_
  refine y_callI hB msX0_init q22 (iX0 _ G b (1) _ (by omega) (upW_self _ _ _)) rfl rfl ⟨Nat.le_of_ble_eq_true rfl, Nat.le_of_ble_eq_true rfl⟩ (Nat.le_of_ble_eq_true rfl) ⟨Nat.le_of_ble_eq_true rfl, Nat.le_of_ble_eq_true rfl⟩ dX6_init_9 (fun r_9 n_9 w_9 h_9 => ?_)
  obtain ⟨rfl, rfl, hlo_9, hhi_9⟩ := h_9
  have hs_9 := (congrArg w_9 (Int.add_zero (1))).symm.trans (hhi_9 0 (by omega) (by omega))
  show Y x G b _ _ (1 + 84) w_9 12 [(0, .ref (ad b (0)))] (.ref (ad b (1)) :: .ref (ad b (0)) :: [])
  rw [show (1 + 84 : Int) = 85 by omega]
  refine y_putF hB (T := TX6) (N := 7) tyX6 tyX6_ok nmX6 inX6 ⟨by omega, by omega⟩ ((hlo_9 _ (by omega) (by omega)).trans ((upW_ne _ _ (by omega)).trans hw)) rfl 0 (by decide) q166 rfl rfl rfl rfl (Nat.le_of_ble_eq_true rfl) dX6_init_12 ?_
  refine y_aload_n hB 0 dX6_init_15 rfl rfl ?_
  refine y_new hB (C := RX0) (T := TX0) (N := 7) (ci := 0) tyX0 tyX0_ok inX0 q20 q21 q4 rfl (fs := frX0) frX0_ok (Nat.le_of_ble_eq_true rfl) (Nat.le_of_ble_eq_true rfl) dX6_init_16 ?_
  refine y_dup hB dX6_init_19 rfl ?_
  refine y_callI hB msX0_init q22 (iX0 _ G b (85) _ (by omega) (upW_self _ _ _)) rfl rfl ⟨Nat.le_of_ble_eq_true rfl, Nat.le_of_ble_eq_true rfl⟩ (Nat.le_of_ble_eq_true rfl) ⟨Nat.le_of_ble_eq_true rfl, Nat.le_of_ble_eq_true rfl⟩ dX6_init_20 (fun r_20 n_20 w_20 h_20 => ?_)
  obtain ⟨rfl, rfl, hlo_20, hhi_20⟩ := h_20
  have hs_20 := (congrArg w_20 (Int.add_zero (85))).symm.trans (hhi_20 0 (by omega) (by omega))
  show Y x G b _ _ (85 + 84) w_20 23 [(0, .ref (ad b (0)))] (.ref (ad b (85)) :: .ref (ad b (0)) :: [])
  rw [show (85 + 84 : Int) = 169 by omega]
  refine y_putF hB (T := TX6) (N := 7) tyX6 tyX6_ok nmX6 inX6 ⟨by omega, by omega⟩ ((hlo_20 _ (by omega) (by omega)).trans ((upW_ne _ _ (by omega)).trans (upW_hit _ _ (by omega)))) rfl 1 (by decide) q167 rfl rfl rfl rfl (Nat.le_of_ble_eq_true rfl) dX6_init_23 ?_
  refine y_aload_n hB 0 dX6_init_26 rfl rfl ?_
  refine y_new hB (C := RX1) (T := TX1) (N := 3) (ci := 1) tyX1 tyX1_ok inX1 q87 q88 q6 rfl (fs := frX1) frX1_ok (Nat.le_of_ble_eq_true rfl) (Nat.le_of_ble_eq_true rfl) dX6_init_27 ?_
  refine y_dup hB dX6_init_30 rfl ?_
  refine y_callI hB msX1_init q89 (iX1 _ G b (169) _ (by omega) (upW_self _ _ _)) rfl rfl ⟨Nat.le_of_ble_eq_true rfl, Nat.le_of_ble_eq_true rfl⟩ (Nat.le_of_ble_eq_true rfl) ⟨Nat.le_of_ble_eq_true rfl, Nat.le_of_ble_eq_true rfl⟩ dX6_init_31 (fun r_31 n_31 w_31 h_31 => ?_)
  obtain ⟨rfl, rfl, hlo_31, hhi_31⟩ := h_31
  have hs_31 := (congrArg w_31 (Int.add_zero (169))).symm.trans (hhi_31 0 (by omega) (by omega))
  show Y x G b _ _ (169 + 338) w_31 34 [(0, .ref (ad b (0)))] (.ref (ad b (169)) :: .ref (ad b (0)) :: [])
  rw [show (169 + 338 : Int) = 507 by omega]
  refine y_putF hB (T := TX6) (N := 7) tyX6 tyX6_ok nmX6 inX6 ⟨by omega, by omega⟩ ((hlo_31 _ (by omega) (by omega)).trans ((upW_ne _ _ (by omega)).trans (upW_hit _ _ (by omega)))) rfl 3 (by decide) q169 rfl rfl rfl rfl (Nat.le_of_ble_eq_true rfl) dX6_init_34 ?_
  refine y_aload_n hB 0 dX6_init_37 rfl rfl ?_
  refine y_new hB (C := RX4) (T := TX4) (N := 5) (ci := 4) tyX4 tyX4_ok inX4 q106 q107 q7 rfl (fs := frX4) frX4_ok (Nat.le_of_ble_eq_true rfl) (Nat.le_of_ble_eq_true rfl) dX6_init_38 ?_
  refine y_dup hB dX6_init_41 rfl ?_
  refine y_callI hB msX4_init q108 (iX4 _ G b (507) _ (by omega) (upW_self _ _ _)) rfl rfl ⟨Nat.le_of_ble_eq_true rfl, Nat.le_of_ble_eq_true rfl⟩ (Nat.le_of_ble_eq_true rfl) ⟨Nat.le_of_ble_eq_true rfl, Nat.le_of_ble_eq_true rfl⟩ dX6_init_42 (fun r_42 n_42 w_42 h_42 => ?_)
  obtain ⟨rfl, rfl, hlo_42, hhi_42⟩ := h_42
  have hs_42 := (congrArg w_42 (Int.add_zero (507))).symm.trans (hhi_42 0 (by omega) (by omega))
  show Y x G b _ _ (507 + 63) w_42 45 [(0, .ref (ad b (0)))] (.ref (ad b (507)) :: .ref (ad b (0)) :: [])
  rw [show (507 + 63 : Int) = 570 by omega]
  refine y_putF hB (T := TX6) (N := 7) tyX6 tyX6_ok nmX6 inX6 ⟨by omega, by omega⟩ ((hlo_42 _ (by omega) (by omega)).trans ((upW_ne _ _ (by omega)).trans (upW_hit _ _ (by omega)))) rfl 4 (by decide) q170 rfl rfl rfl rfl (Nat.le_of_ble_eq_true rfl) dX6_init_45 ?_
  refine y_aload_n hB 0 dX6_init_48 rfl rfl ?_
  refine y_new hB (C := RX5) (T := TX5) (N := 3) (ci := 5) tyX5 tyX5_ok inX5 q129 q130 q8 rfl (fs := frX5) frX5_ok (Nat.le_of_ble_eq_true rfl) (Nat.le_of_ble_eq_true rfl) dX6_init_49 ?_
  refine y_dup hB dX6_init_52 rfl ?_
  refine y_callIN hB msX5_init nw2 (iX5 _ G b (570) _ (by omega) (upW_self _ _ _)) rfl rfl ⟨Nat.le_of_ble_eq_true rfl, Nat.le_of_ble_eq_true rfl⟩ (Nat.le_of_ble_eq_true rfl) ⟨Nat.le_of_ble_eq_true rfl, Nat.le_of_ble_eq_true rfl⟩ dX6_init_53 (fun r_53 n_53 w_53 h_53 => ?_)
  obtain ⟨rfl, rfl, hlo_53, hhi_53⟩ := h_53
  have hs_53 := (congrArg w_53 (Int.add_zero (570))).symm.trans (hhi_53 0 (by omega) (by omega))
  show Y x G b _ _ (570 + 3) w_53 56 [(0, .ref (ad b (0)))] (.ref (ad b (570)) :: .ref (ad b (0)) :: [])
  rw [show (570 + 3 : Int) = 573 by omega]
  refine y_putF hB (T := TX6) (N := 7) tyX6 tyX6_ok nmX6 inX6 ⟨by omega, by omega⟩ ((hlo_53 _ (by omega) (by omega)).trans ((upW_ne _ _ (by omega)).trans (upW_hit _ _ (by omega)))) rfl 5 (by decide) q171 rfl rfl rfl rfl (Nat.le_of_ble_eq_true rfl) dX6_init_56 ?_
  refine y_aload_n hB 0 dX6_init_59 rfl rfl ?_
  refine y_new hB (C := RX3) (T := TX3) (N := 4) (ci := 3) tyX3 tyX3_ok inX3 q145 q146 q9 rfl (fs := frX3) frX3_ok (Nat.le_of_ble_eq_true rfl) (Nat.le_of_ble_eq_true rfl) dX6_init_60 ?_
  refine y_dup hB dX6_init_63 rfl ?_
  refine y_callIN hB msX3_init nw3 (iX3 _ G b (573) _ (by omega) (upW_self _ _ _)) rfl rfl ⟨Nat.le_of_ble_eq_true rfl, Nat.le_of_ble_eq_true rfl⟩ (Nat.le_of_ble_eq_true rfl) ⟨Nat.le_of_ble_eq_true rfl, Nat.le_of_ble_eq_true rfl⟩ dX6_init_64 (fun r_64 n_64 w_64 h_64 => ?_)
  obtain ⟨rfl, rfl, hlo_64, hhi_64⟩ := h_64
  have hs_64 := (congrArg w_64 (Int.add_zero (573))).symm.trans (hhi_64 0 (by omega) (by omega))
  show Y x G b _ _ (573 + 5) w_64 67 [(0, .ref (ad b (0)))] (.ref (ad b (573)) :: .ref (ad b (0)) :: [])
  rw [show (573 + 5 : Int) = 578 by omega]
  refine y_putF hB (T := TX6) (N := 7) tyX6 tyX6_ok nmX6 inX6 ⟨by omega, by omega⟩ ((hlo_64 _ (by omega) (by omega)).trans ((upW_ne _ _ (by omega)).trans (upW_hit _ _ (by omega)))) rfl 6 (by decide) q172 rfl rfl rfl rfl (Nat.le_of_ble_eq_true rfl) dX6_init_67 ?_
  refine y_vret hB hE dX6_init_70 ⟨rfl, rfl, fun j h0 h1 => ?_⟩
  rcases (show j = 0 ∨ (1 ≤ j ∧ j < 85) ∨ (85 ≤ j ∧ j < 169) ∨ (169 ≤ j ∧ j < 507) ∨ (507 ≤ j ∧ j < 570) ∨ (570 ≤ j ∧ j < 573) ∨ (573 ≤ j ∧ j < 578) by omega) with rfl | h9 | h9 | h9 | h9 | h9 | h9
  · exact (upW_hit _ _ (by omega)).trans rfl
  · have h8 := hhi_9 (j - 1) (by omega) (by omega)
    rw [show (1 : Int) + (j - 1) = j by omega] at h8
    exact ((upW_ne _ _ (by omega)).trans ((hlo_64 _ (by omega) (by omega)).trans ((upW_ne _ _ (by omega)).trans ((upW_ne _ _ (by omega)).trans ((hlo_53 _ (by omega) (by omega)).trans ((upW_ne _ _ (by omega)).trans ((upW_ne _ _ (by omega)).trans ((hlo_42 _ (by omega) (by omega)).trans ((upW_ne _ _ (by omega)).trans ((upW_ne _ _ (by omega)).trans ((hlo_31 _ (by omega) (by omega)).trans ((upW_ne _ _ (by omega)).trans ((upW_ne _ _ (by omega)).trans ((hlo_20 _ (by omega) (by omega)).trans ((upW_ne _ _ (by omega)).trans ((upW_ne _ _ (by omega)).trans (h8.trans (C0_desk0 h9))))))))))))))))))
  · have h8 := hhi_20 (j - 85) (by omega) (by omega)
    rw [show (85 : Int) + (j - 85) = j by omega] at h8
    exact ((upW_ne _ _ (by omega)).trans ((hlo_64 _ (by omega) (by omega)).trans ((upW_ne _ _ (by omega)).trans ((upW_ne _ _ (by omega)).trans ((hlo_53 _ (by omega) (by omega)).trans ((upW_ne _ _ (by omega)).trans ((upW_ne _ _ (by omega)).trans ((hlo_42 _ (by omega) (by omega)).trans ((upW_ne _ _ (by omega)).trans ((upW_ne _ _ (by omega)).trans ((hlo_31 _ (by omega) (by omega)).trans ((upW_ne _ _ (by omega)).trans ((upW_ne _ _ (by omega)).trans (h8.trans (C0_desk1 h9)))))))))))))))
  · have h8 := hhi_31 (j - 169) (by omega) (by omega)
    rw [show (169 : Int) + (j - 169) = j by omega] at h8
    exact ((upW_ne _ _ (by omega)).trans ((hlo_64 _ (by omega) (by omega)).trans ((upW_ne _ _ (by omega)).trans ((upW_ne _ _ (by omega)).trans ((hlo_53 _ (by omega) (by omega)).trans ((upW_ne _ _ (by omega)).trans ((upW_ne _ _ (by omega)).trans ((hlo_42 _ (by omega) (by omega)).trans ((upW_ne _ _ (by omega)).trans ((upW_ne _ _ (by omega)).trans (h8.trans (C0_his h9))))))))))))
  · have h8 := hhi_42 (j - 507) (by omega) (by omega)
    rw [show (507 : Int) + (j - 507) = j by omega] at h8
    exact ((upW_ne _ _ (by omega)).trans ((hlo_64 _ (by omega) (by omega)).trans ((upW_ne _ _ (by omega)).trans ((upW_ne _ _ (by omega)).trans ((hlo_53 _ (by omega) (by omega)).trans ((upW_ne _ _ (by omega)).trans ((upW_ne _ _ (by omega)).trans (h8.trans (C0_txt h9)))))))))
  · have h8 := hhi_53 (j - 570) (by omega) (by omega)
    rw [show (570 : Int) + (j - 570) = j by omega] at h8
    exact ((upW_ne _ _ (by omega)).trans ((hlo_64 _ (by omega) (by omega)).trans ((upW_ne _ _ (by omega)).trans ((upW_ne _ _ (by omega)).trans (h8.trans (C0_rk h9))))))
  · have h8 := hhi_64 (j - 573) (by omega) (by omega)
    rw [show (573 : Int) + (j - 573) = j by omega] at h8
    exact ((upW_ne _ _ (by omega)).trans (h8.trans (C0_pg h9)))
