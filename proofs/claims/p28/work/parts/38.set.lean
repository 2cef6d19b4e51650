/-! the other class's fact; setting a setting -/
theorem nan_no {x : UInt32} (h : fin32 x) : cmpI (FP.fcmp x x) .l = 0 := by
  rw [show FP.fcmp x x = some .eq from FP.Core.fcmp_self (pos_ne (fin_pos h))]
  rfl
section
variable {x : gX} {G : gG} {b cl sl nL : Nat} {own nm : String} {cc : ByteArray} {ret : Option FieldType} {rm : Room} {n : Int} {w : Int → va_E} {pc : Nat} {lv : List (Nat × Value)} {st : List Value}
/-- the two rows of the settings' bounds, as they stand at the start -/
def loT (j : Nat) : Int := if j = 0 then 1 else if j = 1 then 10 else if j = 2 then 0 else 1
def hiT (j : Nat) : Int := if j = 0 then 24 else if j = 1 then 200 else if j = 2 then 100 else if j = 3 then 3 else 9
def Zs (b : Nat) (U : State) : Prop := (∃ t0 : Nat, va_Z RX6 "LEAST_OF_SETTING" "[I" (.ref t0) (fun q => b ≤ q) U U.heap ∧ va_T .int t0 5 (fun j => .int (iI (loT j))) (fun q => b ≤ q) U U.heap) ∧ ∃ t1 : Nat, va_Z RX6 "MOST_OF_SETTING" "[I" (.ref t1) (fun q => b ≤ q) U U.heap ∧ va_T .int t1 5 (fun j => .int (iI (hiT j))) (fun q => b ≤ q) U U.heap
theorem Zs_call {b : Nat} (U : State) (g : JFrame) (mk : MethodId) (a : Array Value) (h : Zs b U) : Zs b (U.calling g mk a) := h
theorem Zs_warm {b : Nat} {s : State} (h : Zs b s) (H : Heap) (locs : List Loc) (U : State) (hS : va_S (fun q => b ≤ q) s.heap H locs) (hU : U.heap = H) (hW : s.WarmedH U.vm) : Zs b U := by
  subst hU
  obtain ⟨⟨t0, h1, h2⟩, t1, h3, h4⟩ := h
  have hk : ∀ a : Nat, a < s.heap.size → ¬ b ≤ a → U.heap[a]? = s.heap[a]? := fun a h1 h2 => hS.2.1 a h1 h2
  exact ⟨⟨t0, (h1.moved hW.alike).kept hk, (h2.moved hW.alike).kept hk⟩, t1, (h3.moved hW.alike).kept hk, (h4.moved hW.alike).kept hk⟩
theorem y_sget (hB : Bx x G b RX6 cc nL ret rm nm) {index : Nat} {nn : String} {t0 : Nat} (hZ : va_Z RX6 nn "[I" (.ref t0) (fun q => b ≤ q) (gs x) (gs x).heap) (q1 : (.fieldLink RX6 index RX6 nn "[I" : Cond) ∈ lw_g) (d : decode cc pc = .ok (.getstatic index, 3)) (kk : Y x G b cl sl n w (pc + 3) lv (.ref t0 :: st)) : Y x G b cl sl n w pc lv st := by
  obtain ⟨hx, hb, hml, hown, hts, hK, hbs, hlk, hrt, hR, hnm⟩ := hB
  intro H locs ls hRp hS hL
  exact va_gets hx hb hZ hS hown (hts _ q1) (fun _ h => h) d (kk H locs ls hRp hS hL)
theorem y_stab (hB : Bx x G b own cc nL ret rm nm) {t0 : Nat} {f : Nat → Int} (hT : va_T .int t0 5 (fun j => .int (iI (f j))) (fun q => b ≤ q) (gs x) (gs x).heap) {i : Int} (hi : 0 ≤ i ∧ i < 5) (d : decode cc pc = .ok (.iaload, 1)) (kk : Y x G b cl sl n w (pc + 1) lv (.int (iI (f i.toNat)) :: st)) : Y x G b cl sl n w pc lv (.int (iI i) :: .ref t0 :: st) := by
  obtain ⟨hx, hb, hml, hown, hts, hK, hbs, hlk, hrt, hR, hnm⟩ := hB
  intro H locs ls hRp hS hL
  exact va_ti hx hb hT hS (iI_in (by omega) (by decide)) (by rw [iI_cl (by omega)]) d (kk H locs ls hRp hS hL)
end
theorem set_ok {u t : Int} (hu : 0 ≤ u ∧ u < 5) : (loT u.toNat ≤ t ∧ t ≤ hiT u.toNat) ↔ ((u = 0 ∧ 1 ≤ t ∧ t ≤ 24) ∨ (u = 1 ∧ 10 ≤ t ∧ t ≤ 200) ∨ (u = 2 ∧ 0 ≤ t ∧ t ≤ 100) ∨ (u = 3 ∧ 1 ≤ t ∧ t ≤ 3) ∨ (u = 4 ∧ 1 ≤ t ∧ t ≤ 9)) := by
  rcases (show u = 0 ∨ u = 1 ∨ u = 2 ∨ u = 3 ∨ u = 4 by omega) with rfl | rfl | rfl | rfl | rfl
  · show (1 ≤ t ∧ t ≤ 24) ↔ _
    omega
  · show (10 ≤ t ∧ t ≤ 200) ↔ _
    omega
  · show (0 ≤ t ∧ t ≤ 100) ↔ _
    omega
  · show (1 ≤ t ∧ t ≤ 3) ↔ _
    omega
  · show (1 ≤ t ∧ t ≤ 9) ↔ _
    omega
theorem set_b {u : Int} (hu : 0 ≤ u ∧ u < 5) : (0 ≤ loT u.toNat ∧ loT u.toNat ≤ 10) ∧ 1 ≤ hiT u.toNat ∧ hiT u.toNat ≤ 200 := by
  rcases (show u = 0 ∨ u = 1 ∨ u = 2 ∨ u = 3 ∨ u = 4 by omega) with rfl | rfl | rfl | rfl | rfl <;> decide
set_option maxHeartbeats 4000000 in
theorem tX6_set (l : Launch) (G : gG) (b : Nat) (C S : gM) (u t N : Int) (hu : -2147483648 ≤ u ∧ u ≤ 2147483647) (ht : -2147483648 ≤ t ∧ t ≤ 2147483647) (hD : DkOk C 1 N) (hN : N ≤ 512) (hhf : 0 ≤ C 169 1 ∧ C 169 1 < 4) (hhs : 0 ≤ C 169 2 ∧ C 169 2 ≤ 4) : CtK l G b (Zs b) yX6_set cX6_set 4 (some .int) rmX6_set [.ref (ad b (0)), .int (iI (u)), .int (iI (t))] 578 (wM G b C S) (WI G b S (fun v C' => ((¬ ((u = 0 ∧ 1 ≤ t ∧ t ≤ 24) ∨ (u = 1 ∧ 10 ≤ t ∧ t ≤ 200) ∨ (u = 2 ∧ 0 ≤ t ∧ t ≤ 100) ∨ (u = 3 ∧ 1 ≤ t ∧ t ≤ 3) ∨ (u = 4 ∧ 1 ≤ t ∧ t ≤ 9))) ∧ v = -2 ∧ C' = C) ∨ ((((u = 0 ∧ 1 ≤ t ∧ t ≤ 24) ∨ (u = 1 ∧ 10 ≤ t ∧ t ≤ 200) ∨ (u = 2 ∧ 0 ≤ t ∧ t ≤ 100) ∨ (u = 3 ∧ 1 ≤ t ∧ t ≤ 3) ∨ (u = 4 ∧ 1 ≤ t ∧ t ≤ 9)) ∧ C 2 u = t) ∧ v = -5 ∧ C' = C) ∨ ((((u = 0 ∧ 1 ≤ t ∧ t ≤ 24) ∨ (u = 1 ∧ 10 ≤ t ∧ t ≤ 200) ∨ (u = 2 ∧ 0 ≤ t ∧ t ≤ 100) ∨ (u = 3 ∧ 1 ≤ t ∧ t ≤ 3) ∨ (u = 4 ∧ 1 ≤ t ∧ t ≤ 9)) ∧ ¬ C 2 u = t) ∧ v = C 2 u ∧ C' = up2 (remC C) 2 u t))) := by
  refine CtK_of (by decide) (Nat.le_of_ble_eq_true rfl) q328 ?_
  intro x hl hB hE hKK
  subst hl
  show YM x G b 0 0 C S 0 [(0, .ref (ad b (0))), (1, .int (iI (u))), (2, .int (iI (t)))] []
  obtain ⟨hd3, hd4, hd5, hd6, hs0, hs1, hs2, hs3, hs4, htr, hlv⟩ := id hD
  obtain ⟨⟨t0, hZ0, hT0⟩, t1, hZ1, hT1⟩ := hKK
  refine y_iload_n hB 1 dX6_set_0 rfl rfl ?_
  refine m_S hB msX6_isSetting q329 (tX6_isSetting _ G b C S u (by omega)) rfl rfl ⟨Nat.le_of_ble_eq_true rfl, Nat.le_of_ble_eq_true rfl⟩ (Nat.le_of_ble_eq_true rfl) ⟨rfl, rfl⟩ ⟨Nat.le_of_ble_eq_true rfl, Nat.le_of_ble_eq_true rfl⟩ dX6_set_1 (k_RI (fun v_1 h_1 => ?_))
  refine y_if_eq hB 24 dX6_set_4 (by decide) (by omega) (fun c_4 => ?_) (fun c_4 => ?_)
  · refine y_bipush (v := -2) hB dX6_set_24 (by decide) ?_
    exact m_wi hB hE dX6_set_26 rfl (Or.inl (⟨by omega, rfl, rfl⟩))
  · have hsb := set_b (u := u) (by omega)
    have hso := set_ok (u := u) (t := t) (by omega)
    refine y_iload_n hB 2 dX6_set_7 rfl rfl ?_
    refine y_sget hB hZ0 q330 dX6_set_8 ?_
    refine y_iload_n hB 1 dX6_set_11 rfl rfl ?_
    refine y_stab hB hT0 (i := u) (by omega) dX6_set_12 ?_
    refine y_sget hB hZ1 q332 dX6_set_13 ?_
    refine y_iload_n hB 1 dX6_set_16 rfl rfl ?_
    refine y_stab hB hT1 (i := u) (by omega) dX6_set_17 ?_
    refine m_S hB msX6_isWithin q192 (tX6_isWithin _ G b C S t (loT u.toNat) (hiT u.toNat) (by omega) (by omega) (by omega)) rfl rfl ⟨Nat.le_of_ble_eq_true rfl, Nat.le_of_ble_eq_true rfl⟩ (Nat.le_of_ble_eq_true rfl) ⟨rfl, rfl⟩ ⟨Nat.le_of_ble_eq_true rfl, Nat.le_of_ble_eq_true rfl⟩ dX6_set_18 (k_RI (fun v_18 h_18 => ?_))
    refine y_if_ne hB 27 dX6_set_21 (by decide) (by omega) (fun c_21 => ?_) (fun c_21 => ?_)
    · have hok := hso.mp (by omega)
      refine y_aload_n hB 0 dX6_set_27 rfl rfl ?_
      refine gt_6_0 hB (by decide) (t1 := 1) (by omega) dX6_set_28 ?_
      refine y_iload_n hB 1 dX6_set_31 rfl rfl ?_
      refine m_V hB msX0_setting q334 (tX0_setting _ G b C S 1 u desk_1 (by omega)) (t := 1) (desk_1).1 (by decide) rfl rfl rfl rfl rfl ⟨Nat.le_of_ble_eq_true rfl, Nat.le_of_ble_eq_true rfl⟩ (Nat.le_of_ble_eq_true rfl) ⟨rfl, rfl⟩ ⟨Nat.le_of_ble_eq_true rfl, Nat.le_of_ble_eq_true rfl⟩ dX6_set_32 (k_RI (fun v_32 h_32 => ?_))
      rw [show (1 : Int) + 1 = 2 by omega] at h_32
      have hs9 : 0 ≤ C 2 u ∧ C 2 u ≤ 200 := by have g0 := hs0; have g1 := hs1; have g2 := hs2; have g3 := hs3; have g4 := hs4; rw [show (1 : Int) + 1 = 2 by omega] at g0 g1 g2 g3 g4; rcases (show u = 0 ∨ u = 1 ∨ u = 2 ∨ u = 3 ∨ u = 4 by omega) with g | g | g | g | g <;> rw [g] <;> omega
      refine y_istore_n (lv' := [(3, .int (iI (v_32))), (0, .ref (ad b (0))), (1, .int (iI (u))), (2, .int (iI (t)))]) hB dX6_set_35 rfl (by decide) rfl ?_
      refine y_iload_n hB 0 dX6_set_36 rfl rfl ?_
      refine y_iload_n hB 3 dX6_set_37 rfl rfl ?_
      refine y_icmp_ne hB 44 dX6_set_38 (by decide) (by omega) (by omega) (fun c_38 => ?_) (fun c_38 => ?_)
      · refine y_aload_n hB 1 dX6_set_44 rfl rfl ?_
        refine gt_6_3 hB (by decide) (t1 := 169) (by omega) dX6_set_45 ?_
        refine y_aload_n hB 1 dX6_set_48 rfl rfl ?_
        refine gt_6_0 hB (by decide) (t1 := 1) (by omega) dX6_set_49 ?_
        refine m_V hB msX1_remember q199 (tX1_remember _ G b C S hhf hhs hd3) (t := 7) (by decide) (by decide) rfl rfl rfl rfl rfl ⟨Nat.le_of_ble_eq_true rfl, Nat.le_of_ble_eq_true rfl⟩ (Nat.le_of_ble_eq_true rfl) ⟨rfl, rfl⟩ ⟨Nat.le_of_ble_eq_true rfl, Nat.le_of_ble_eq_true rfl⟩ dX6_set_52 (k_WV (fun C_52 h_52 => ?_))
        obtain rfl := h_52
        have agR := remC_ag hd3
        have hDR := DkOk_ag agR hD
        have er := agR 1 (by omega) (by omega)
        have e3 : (remC C) 1 3 = C 1 3 := by rw [er]
        have e4 : (remC C) 1 4 = C 1 4 := by rw [er]
        have e5 : (remC C) 1 5 = C 1 5 := by rw [er]
        have e6 : (remC C) 1 6 = C 1 6 := by rw [er]
        refine y_aload_n hB 1 dX6_set_55 rfl rfl ?_
        refine gt_6_0 hB (by decide) (t1 := 1) (by omega) dX6_set_56 ?_
        refine y_iload_n hB 2 dX6_set_59 rfl rfl ?_
        refine y_iload_n hB 3 dX6_set_60 rfl rfl ?_
        refine m_V hB msX0_changeSetting q335 (tX0_changeSetting _ G b (remC C) S 1 u t desk_1 (by omega)) (t := 1) (desk_1).1 (by decide) rfl rfl rfl rfl rfl ⟨Nat.le_of_ble_eq_true rfl, Nat.le_of_ble_eq_true rfl⟩ (Nat.le_of_ble_eq_true rfl) ⟨rfl, rfl⟩ ⟨Nat.le_of_ble_eq_true rfl, Nat.le_of_ble_eq_true rfl⟩ dX6_set_61 (k_WV (fun C_61 h_61 => ?_))
        obtain rfl := h_61
        refine y_iload_n hB 0 dX6_set_64 rfl rfl ?_
        exact m_wi hB hE dX6_set_65 rfl (Or.inr (Or.inr (⟨⟨hok, by omega⟩, h_32, rfl⟩)))
      · refine y_bipush (v := -5) hB dX6_set_41 (by decide) ?_
        exact m_wi hB hE dX6_set_43 rfl (Or.inr (Or.inl (⟨⟨hok, by omega⟩, rfl, rfl⟩)))
    · refine y_bipush (v := -2) hB dX6_set_24 (by decide) ?_
      exact m_wi hB hE dX6_set_26 rfl (Or.inl (⟨fun z => absurd (hso.mpr z) (by omega), rfl, rfl⟩))
