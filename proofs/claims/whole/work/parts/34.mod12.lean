/-! the other class: the persons of the text, joined -/
def rowJ (D M : gM) (b0 : Int) (p : PR) (d m : Int) : Prop := M 579 (b0 + 16) = p.age ∧ M 579 (b0 + 17) = p.rank ∧ M 579 (b0 + 22) = -5 ∧ M 579 (b0 + 19) = m ∧ (M 579 (b0 + 18) = D 579 (b0 + 18) ∧ M 579 (b0 + 20) = D 579 (b0 + 20) ∧ M 579 (b0 + 21) = D 579 (b0 + 21)) ∧ ∀ j : Int, 0 ≤ j → j < m → M 579 (b0 + 3 * j + 24) = p.s j ∧ M 579 (b0 + 3 * j + 25) = p.l j ∧ M 579 (b0 + 3 * j + 26) = d
def JmI (D M : gM) (r : Int → PR) (n0 k : Int) : Prop := (∀ x : Int, x ≠ 579 → M x = D x) ∧ M 579 1 = n0 + k ∧ (∀ j : Int, j ≠ 1 → (j < 32 * n0 + 16 ∨ 32 * (n0 + k) + 16 ≤ j) → M 579 j = D 579 j) ∧ ∀ i : Int, 0 ≤ i → i < k → rowJ D M (32 * (n0 + i)) (r i) (D 579 0) (r i).m
def Jm2 (D M : gM) (r : Int → PR) (n0 k m : Int) : Prop := (∀ x : Int, x ≠ 579 → M x = D x) ∧ M 579 1 = n0 + k + 1 ∧ (∀ j : Int, j ≠ 1 → (j < 32 * n0 + 16 ∨ 32 * (n0 + k + 1) + 16 ≤ j) → M 579 j = D 579 j) ∧ (∀ i : Int, 0 ≤ i → i < k → rowJ D M (32 * (n0 + i)) (r i) (D 579 0) (r i).m) ∧ rowJ D M (32 * (n0 + k)) (r k) (D 579 0) m
section
variable {D M M' : gM} {r : Int → PR} {n0 k m : Int}
theorem rowJ_e {b0 d : Int} {p : PR} (h : rowJ D M b0 p d m) (hm : m ≤ 8) (e : ∀ j : Int, b0 + 16 ≤ j → j < b0 + 48 → M' 579 j = M 579 j) : rowJ D M' b0 p d m := by
  obtain ⟨h1, h2, h3, h4, h5, h6⟩ := h
  refine ⟨(e _ (by omega) (by omega)).trans h1, (e _ (by omega) (by omega)).trans h2, (e _ (by omega) (by omega)).trans h3, (e _ (by omega) (by omega)).trans h4, ⟨(e _ (by omega) (by omega)).trans h5.1, (e _ (by omega) (by omega)).trans h5.2.1, (e _ (by omega) (by omega)).trans h5.2.2⟩, fun j a1 a2 => ?_⟩
  obtain ⟨g1, g2, g3⟩ := h6 j a1 a2
  exact ⟨(e _ (by omega) (by omega)).trans g1, (e _ (by omega) (by omega)).trans g2, (e _ (by omega) (by omega)).trans g3⟩
theorem JmI_0 (h : D 579 1 = n0) : JmI D D r n0 0 := ⟨fun _ _ => rfl, by omega, fun _ _ _ => rfl, fun i a1 a2 => by omega⟩
theorem Jm_come (h : JmI D M r n0 k) (h0 : 0 ≤ n0 ∧ 0 ≤ k) (hz : D 579 (32 * (n0 + k) + 19) = 0) (hm : ∀ i : Int, 0 ≤ i → i < k → (r i).m ≤ 8) {u t : Int} (hu : u = (r k).age) (ht : t = (r k).rank) : Jm2 D (up2 (up2 (up2 (up2 M 579 (32 * M 579 1 + 16) u) 579 (32 * M 579 1 + 17) t) 579 (32 * M 579 1 + 22) (-5)) 579 1 (M 579 1 + 1)) r n0 k 0 := by
  obtain ⟨h1, h2, h3, h4⟩ := h
  rw [h2]
  have O : ∀ j : Int, j ≠ 1 → j ≠ 32 * (n0 + k) + 16 → j ≠ 32 * (n0 + k) + 17 → j ≠ 32 * (n0 + k) + 22 → up2 (up2 (up2 (up2 M 579 (32 * (n0 + k) + 16) u) 579 (32 * (n0 + k) + 17) t) 579 (32 * (n0 + k) + 22) (-5)) 579 1 (n0 + k + 1) 579 j = M 579 j := fun j a1 a2 a3 a4 => by rw [rd_i a1, rd_i a4, rd_i a3, rd_i a2]
  refine ⟨fun x hx => ?_, ?_, fun j a1 a2 => ?_, fun i a1 a2 => ?_, ?_, ?_, ?_, ?_, ?_, fun j a1 a2 => by omega⟩
  · rw [up2_ne _ _ _ hx, up2_ne _ _ _ hx, up2_ne _ _ _ hx, up2_ne _ _ _ hx]; exact h1 x hx
  · rw [rd_hit rfl rfl]
  · rw [O j a1 (by omega) (by omega) (by omega)]; exact h3 j a1 (by omega)
  · exact rowJ_e (h4 i a1 a2) (hm i a1 a2) (fun j b1 b2 => O j (by omega) (by omega) (by omega) (by omega))
  · rw [rd_i (by omega), rd_i (by omega), rd_i (by omega), rd_hit rfl rfl]; exact hu
  · rw [rd_i (by omega), rd_i (by omega), rd_hit rfl rfl]; exact ht
  · rw [rd_i (by omega), rd_hit rfl rfl]
  · rw [O _ (by omega) (by omega) (by omega) (by omega), h3 _ (by omega) (by omega)]; exact hz
  · exact ⟨(O _ (by omega) (by omega) (by omega) (by omega)).trans (h3 _ (by omega) (by omega)), (O _ (by omega) (by omega) (by omega) (by omega)).trans (h3 _ (by omega) (by omega)), (O _ (by omega) (by omega) (by omega) (by omega)).trans (h3 _ (by omega) (by omega))⟩
theorem Jm_add (h : Jm2 D M r n0 k m) (h0 : 0 ≤ n0 ∧ 0 ≤ k) (hm8 : 0 ≤ m ∧ m < 8) (hm : ∀ i : Int, 0 ≤ i → i < k → (r i).m ≤ 8) {p N u t d : Int} (hp : p = n0 + k) (hN : N = m) (hu : u = (r k).s m) (ht : t = (r k).l m) (hd : d = D 579 0) : Jm2 D (up2 (up2 (up2 (up2 M 579 (32 * p + 3 * N + 24) u) 579 (32 * p + 3 * N + 25) t) 579 (32 * p + 3 * N + 26) d) 579 (32 * p + 19) (N + 1)) r n0 k (m + 1) := by
  subst hp
  subst hN
  obtain ⟨h1, h2, h3, h4, h5⟩ := h
  have O : ∀ j : Int, j ≠ 32 * (n0 + k) + 3 * N + 24 → j ≠ 32 * (n0 + k) + 3 * N + 25 → j ≠ 32 * (n0 + k) + 3 * N + 26 → j ≠ 32 * (n0 + k) + 19 → up2 (up2 (up2 (up2 M 579 (32 * (n0 + k) + 3 * N + 24) u) 579 (32 * (n0 + k) + 3 * N + 25) t) 579 (32 * (n0 + k) + 3 * N + 26) d) 579 (32 * (n0 + k) + 19) (N + 1) 579 j = M 579 j := fun j a1 a2 a3 a4 => by rw [rd_i a4, rd_i a3, rd_i a2, rd_i a1]
  obtain ⟨g1, g2, g3, g4, g5, g6⟩ := h5
  refine ⟨fun x hx => ?_, ?_, fun j a1 a2 => ?_, fun i a1 a2 => ?_, ?_, ?_, ?_, ?_, ?_, fun j a1 a2 => ?_⟩
  · rw [up2_ne _ _ _ hx, up2_ne _ _ _ hx, up2_ne _ _ _ hx, up2_ne _ _ _ hx]; exact h1 x hx
  · rw [O 1 (by omega) (by omega) (by omega) (by omega)]; exact h2
  · rw [O j (by omega) (by omega) (by omega) (by omega)]; exact h3 j a1 a2
  · exact rowJ_e (h4 i a1 a2) (hm i a1 a2) (fun j b1 b2 => O j (by omega) (by omega) (by omega) (by omega))
  · rw [O _ (by omega) (by omega) (by omega) (by omega)]; exact g1
  · rw [O _ (by omega) (by omega) (by omega) (by omega)]; exact g2
  · rw [O _ (by omega) (by omega) (by omega) (by omega)]; exact g3
  · rw [rd_hit rfl rfl]
  · exact ⟨(O _ (by omega) (by omega) (by omega) (by omega)).trans g5.1, (O _ (by omega) (by omega) (by omega) (by omega)).trans g5.2.1, (O _ (by omega) (by omega) (by omega) (by omega)).trans g5.2.2⟩
  · by_cases hj : j = N
    · subst hj
      refine ⟨?_, ?_, ?_⟩
      · rw [rd_i (by omega), rd_i (by omega), rd_i (by omega), rd_hit rfl rfl]; exact hu
      · rw [rd_i (by omega), rd_i (by omega), rd_hit rfl rfl]; exact ht
      · rw [rd_i (by omega), rd_hit rfl rfl]; exact hd
    · obtain ⟨f1, f2, f3⟩ := g6 j a1 (by omega)
      refine ⟨?_, ?_, ?_⟩
      · rw [O _ (by omega) (by omega) (by omega) (by omega)]; exact f1
      · rw [O _ (by omega) (by omega) (by omega) (by omega)]; exact f2
      · rw [O _ (by omega) (by omega) (by omega) (by omega)]; exact f3
theorem Jm_end (h : Jm2 D M r n0 k m) (hm : m = (r k).m) : JmI D M r n0 (k + 1) := by
  subst hm
  obtain ⟨h1, h2, h3, h4, h5⟩ := h
  refine ⟨h1, by omega, fun j a1 a2 => h3 j a1 (by omega), fun i a1 a2 => ?_⟩
  by_cases hi : i = k
  · subst hi; exact h5
  · exact h4 i a1 (by omega)
end
theorem recS_578 {S : gM} {j : Int} (h : j ≠ 9) : recS S 578 j = S 578 j := by
  unfold recS recB
  rw [rd_i h, cpB_ne (by omega)]
  by_cases c : S 578 9 = 4
  · rw [if_pos c, rd_i h, shf_ne (by omega)]
  · rw [if_neg c]
set_option maxHeartbeats 4000000 in
theorem tX7_addPersons (l : Launch) (G : gG) (b : Nat) (C S : gM) (t : Int → Int) (n a N : Int) (hM : MO (S 579) N) (hN : N ≤ 512) (h4 : 0 ≤ S 578 9 ∧ S 578 9 ≤ 4) (htx : TyS S t n a) (hb : TxB t n) (ha0 : 0 ≤ a ∧ a ≤ 60) : Ct l G b yX7_addPersons cX7_addPersons 5 (some .int) rmX7_addPersons [.ref (ad b (578))] 586 (wM G b C S) (SI G b C (fun v S' => ((txP t n).ok = 0 ∧ v = -100 - (txP t n).a ∧ FoP S S' t n (txP t n).a) ∨ ((txP t n).ok = 1 ∧ 20 < S 579 1 + (txP t n).k ∧ v = -3 ∧ FoP S S' t n (-1)) ∨ ((txP t n).ok = 1 ∧ S 579 1 + (txP t n).k ≤ 20 ∧ v = (txP t n).k ∧ ∃ M, FoP S M t n (-1) ∧ JmI (recS M) S' (txP t n).r (S 579 1) (txP t n).k))) := by
  refine CtK_of (by decide) (Nat.le_of_ble_eq_true rfl) q809 ?_
  intro x hl hB hE _
  subst hl
  show YM x G b 0 0 C S 0 [(0, .ref (ad b (578)))] []
  obtain ⟨hm1, hm0, hm2, hm3, hm4, hm5, hm6, hm7, hm8, hmt, hmp, hmz⟩ := id hM
  obtain ⟨ht, hn, ha⟩ := id htx
  have hn60 := hb.1
  refine y_aload_n hB 0 dX7_addPersons_0 rfl rfl ?_
  refine m_V hB msX7_faultOf q810 (tX7_faultOf _ G b C S t n a (htx) hb (by omega)) (t := 20) (by decide) (by decide) rfl rfl rfl rfl rfl ⟨Nat.le_of_ble_eq_true rfl, Nat.le_of_ble_eq_true rfl⟩ (Nat.le_of_ble_eq_true rfl) ⟨rfl, rfl⟩ ⟨Nat.le_of_ble_eq_true rfl, Nat.le_of_ble_eq_true rfl⟩ dX7_addPersons_1 (k_SI (fun v_1 S_1 h_1 => ?_))
  have hb_1 := txP_b t hb.1
  have e579 : S_1 579 = S 579 := h_1.2.1.1 579 (by omega) (by omega)
  have e11 : S_1 579 1 = S 579 1 := by rw [e579]
  have e9 : S_1 578 9 = S 578 9 := h_1.2.1.2 9 (by omega) (by omega)
  have hv_1 := h_1.1
  refine y_istore_n (lv' := [(1, .int (iI (v_1))), (0, .ref (ad b (578)))]) hB dX7_addPersons_4 rfl (by decide) rfl ?_
  refine y_iload_n hB 0 dX7_addPersons_5 rfl rfl ?_
  refine y_if_lt hB 14 dX7_addPersons_6 (by decide) (by omega) (fun c_6 => ?_) (fun c_6 => ?_)
  · have hok : (txP t n).ok = 1 := by omega
    have hg := h_1.2.2.1 hok
    have hg1 := hg.1
    have hF : FoP S S_1 t n (-1) := by have h9 := h_1; rwa [show v_1 = -1 by omega] at h9
    refine y_aload_n hB 1 dX7_addPersons_14 rfl rfl ?_
    refine gt_7_0 hB (by decide) (t1 := 579) (by omega) dX7_addPersons_15 ?_
    refine y_iconst (v := 1) hB dX7_addPersons_18 rfl ?_
    refine ald_21 hB (by decide) (t1 := S_1 579 1) (by omega) rfl dX7_addPersons_19 ?_
    refine y_aload_n hB 1 dX7_addPersons_20 rfl rfl ?_
    refine gt_7_13 hB (by decide) (t1 := S_1 578 13) rfl dX7_addPersons_21 ?_
    refine y_iadd (t := S_1 578 13 + S_1 579 1) hB dX7_addPersons_24 (by omega) ?_
    refine y_bipush (v := 20) hB dX7_addPersons_25 (by decide) ?_
    refine y_icmp_le hB 33 dX7_addPersons_27 (by decide) (by omega) (by omega) (fun c_27 => ?_) (fun c_27 => ?_)
    · refine y_aload_n hB 1 dX7_addPersons_33 rfl rfl ?_
      refine m_V hB msX7_record q795 (tX7_record _ G b C S_1 (by omega)) (t := 20) (by decide) (by decide) rfl rfl rfl rfl rfl ⟨Nat.le_of_ble_eq_true rfl, Nat.le_of_ble_eq_true rfl⟩ (Nat.le_of_ble_eq_true rfl) ⟨rfl, rfl⟩ ⟨Nat.le_of_ble_eq_true rfl, Nat.le_of_ble_eq_true rfl⟩ dX7_addPersons_34 (k_SV (fun S_34 h_34 => ?_))
      obtain rfl := h_34
      have er : (recS S_1) 579 = S_1 579 := recS_out (by omega)
      have er585 : (recS S_1) 585 = S_1 585 := recS_out (by omega)
      have er13 : (recS S_1) 578 13 = S_1 578 13 := recS_578 (by omega)
      refine y_iconst (v := 0) hB dX7_addPersons_37 rfl ?_
      refine y_istore_n (lv' := [(2, .int (iI (0))), (1, .int (iI (v_1))), (0, .ref (ad b (578)))]) hB dX7_addPersons_38 rfl (by decide) rfl ?_
      have LOOP_39 : ∀ (fu : Nat) (i : Int) (SM : gM), (0 ≤ i ∧ i ≤ (txP t n).k) → (JmI (recS S_1) SM (txP t n).r (S 579 1) i) → (txP t n).k - i < (fu : Int) → YM x G b 0 0 C SM 39 [(0, .ref (ad b (578))), (2, .int (iI (i)))] [] := by
        intro fu
        induction fu with
        | zero => intro i SM hi hJ hm_39; exfalso; omega
        | succ fu ih_39 =>
          intro i SM hi hJ hm_39
          have e13 : SM 578 13 = (txP t n).k := by rw [hJ.1 578 (by omega), er13]; exact hg1
          have e585 : SM 585 = S_1 585 := by rw [hJ.1 585 (by omega)]; exact er585
          have e1 : SM 579 1 = S 579 1 + i := hJ.2.1
          refine y_iload_n hB 1 dX7_addPersons_39 rfl rfl ?_
          refine y_aload_n hB 0 dX7_addPersons_40 rfl rfl ?_
          refine gt_7_13 hB (by decide) (t1 := SM 578 13) rfl dX7_addPersons_41 ?_
          refine y_icmp_ge hB 140 dX7_addPersons_44 (by decide) (by omega) (by omega) (fun c_44 => ?_) (fun c_44 => ?_)
          · refine y_aload_n hB 0 dX7_addPersons_140 rfl rfl ?_
            refine gt_7_13 hB (by decide) (t1 := SM 578 13) rfl dX7_addPersons_141 ?_
            exact m_si hB hE dX7_addPersons_144 rfl (Or.inr (Or.inr ⟨hok, by omega, by omega, S_1, hF, by rw [show (txP t n).k = i by omega]; exact hJ⟩))
          · have hPR := hb_1.2.2.2 i hi.1 (by omega)
            have hPm := hPR.2.2.1
            obtain ⟨w1, w2, w3, w4⟩ := id (hg.2 i hi.1 (by omega))
            have u1 : SM 585 (20 * i) = ((txP t n).r i).age := by rw [e585]; exact w1
            have u2 : SM 585 (20 * i + 1) = ((txP t n).r i).rank := by rw [e585]; exact w2
            have hz : (recS S_1) 579 (32 * (S 579 1 + i) + 19) = 0 := by rw [er, e579]; exact (hmz (S 579 1 + i) (by omega) (by omega)).2
            have hm8 : ∀ j : Int, 0 ≤ j → j < i → ((txP t n).r j).m ≤ 8 := fun j a1 a2 => (hb_1.2.2.2 j a1 (by omega)).2.2.1.2
            refine y_aload_n hB 0 dX7_addPersons_47 rfl rfl ?_
            refine y_aload_n hB 0 dX7_addPersons_48 rfl rfl ?_
            refine gt_7_11 hB (by decide) (t1 := 585) (by omega) dX7_addPersons_49 ?_
            refine y_bipush (v := 20) hB dX7_addPersons_52 (by decide) ?_
            refine y_iload_n hB 1 dX7_addPersons_54 rfl rfl ?_
            refine y_imul (t := 20 * i) hB dX7_addPersons_55 (by omega) ?_
            refine ald_27 hB (by decide) (t1 := SM 585 (20 * i)) (by omega) rfl dX7_addPersons_56 ?_
            refine y_aload_n hB 0 dX7_addPersons_57 rfl rfl ?_
            refine gt_7_11 hB (by decide) (t1 := 585) (by omega) dX7_addPersons_58 ?_
            refine y_bipush (v := 20) hB dX7_addPersons_61 (by decide) ?_
            refine y_iload_n hB 1 dX7_addPersons_63 rfl rfl ?_
            refine y_imul (t := 20 * i) hB dX7_addPersons_64 (by omega) ?_
            refine y_iconst (v := 1) hB dX7_addPersons_65 rfl ?_
            refine y_iadd (t := 20 * i + 1) hB dX7_addPersons_66 (by omega) ?_
            refine ald_27 hB (by decide) (t1 := SM 585 (20 * i + 1)) (by omega) rfl dX7_addPersons_67 ?_
            refine m_V hB msX7_come q799 (tX7_come _ G b C SM (SM 585 (20 * i)) (SM 585 (20 * i + 1)) (SM 579 1) rfl (by omega)) (t := 20) (by decide) (by decide) rfl rfl rfl rfl rfl ⟨Nat.le_of_ble_eq_true rfl, Nat.le_of_ble_eq_true rfl⟩ (Nat.le_of_ble_eq_true rfl) ⟨rfl, rfl⟩ ⟨Nat.le_of_ble_eq_true rfl, Nat.le_of_ble_eq_true rfl⟩ dX7_addPersons_68 (k_SI (fun v_68 S_68 h_68 => ?_))
            obtain ⟨rfl, rfl⟩ := h_68
            have hJ2 := Jm_come hJ (by omega) hz hm8 u1 u2
            refine y_istore_n (lv' := [(3, .int (iI (SM 579 1))), (0, .ref (ad b (578))), (2, .int (iI (i)))]) hB dX7_addPersons_71 rfl (by decide) rfl ?_
            refine y_iconst (v := 0) hB dX7_addPersons_72 rfl ?_
            refine y_istore (lv' := [(4, .int (iI (0))), (3, .int (iI (SM 579 1))), (0, .ref (ad b (578))), (2, .int (iI (i)))]) hB dX7_addPersons_73 (by decide) rfl ?_
            have LOOP_75 : ∀ (fu : Nat) (pp m : Int) (SN : gM), (pp = S 579 1 + i) → (0 ≤ m ∧ m ≤ ((txP t n).r i).m) → (Jm2 (recS S_1) SN (txP t n).r (S 579 1) i m) → ((txP t n).r i).m - m < (fu : Int) → YM x G b 0 0 C SN 75 [(0, .ref (ad b (578))), (2, .int (iI (i))), (3, .int (iI (pp))), (4, .int (iI (m)))] [] := by
              intro fu
              induction fu with
              | zero => intro pp m SN hpp hmr hJ3 hm_75; exfalso; omega
              | succ fu ih_75 =>
                intro pp m SN hpp hmr hJ3 hm_75
                have f585 : SN 585 = S_1 585 := by rw [hJ3.1 585 (by omega)]; exact er585
                have x2 : SN 585 (20 * i + 2) = ((txP t n).r i).m := by rw [f585]; exact w3
                have x19 : SN 579 (32 * pp + 19) = m := by rw [hpp]; exact hJ3.2.2.2.2.2.2.2.1
                have x0 : SN 579 0 = (recS S_1) 579 0 := hJ3.2.2.1 0 (by omega) (by omega)
                refine y_iload hB 3 dX7_addPersons_75 rfl ?_
                refine y_aload_n hB 0 dX7_addPersons_77 rfl rfl ?_
                refine gt_7_11 hB (by decide) (t1 := 585) (by omega) dX7_addPersons_78 ?_
                refine y_bipush (v := 20) hB dX7_addPersons_81 (by decide) ?_
                refine y_iload_n hB 1 dX7_addPersons_83 rfl rfl ?_
                refine y_imul (t := 20 * i) hB dX7_addPersons_84 (by omega) ?_
                refine y_iconst (v := 2) hB dX7_addPersons_85 rfl ?_
                refine y_iadd (t := 20 * i + 2) hB dX7_addPersons_86 (by omega) ?_
                refine ald_27 hB (by decide) (t1 := SN 585 (20 * i + 2)) (by omega) rfl dX7_addPersons_87 ?_
                refine y_icmp_ge hB 134 dX7_addPersons_88 (by decide) (by omega) (by omega) (fun c_88 => ?_) (fun c_88 => ?_)
                · refine y_iinc (v := i + 1) (lv' := [(2, .int (iI (i + 1))), (0, .ref (ad b (578))), (3, .int (iI (pp))), (4, .int (iI (m)))]) hB 1 dX7_addPersons_134 rfl (by omega) (by decide) rfl ?_
                  refine y_goto hB 39 dX7_addPersons_137 (by decide) ?_
                  refine y_sub (lv' := [(0, .ref (ad b (578))), (2, .int (iI (i + 1)))]) [1, 0] rfl ?_
                  exact ih_39 (i + 1) _ (by omega) (Jm_end hJ3 (by omega)) (by omega)
                · have hwm := w4 m hmr.1 (by omega)
                  have x3 : SN 585 (20 * i + 2 * m + 3) = ((txP t n).r i).s m := by rw [f585, show 20 * i + 2 * m + 3 = 2 * m + 20 * i + 3 by omega]; exact hwm.1
                  have x4 : SN 585 (20 * i + 2 * m + 4) = ((txP t n).r i).l m := by rw [f585, show 20 * i + 2 * m + 4 = 2 * m + 20 * i + 4 by omega]; exact hwm.2
                  refine y_aload_n hB 0 dX7_addPersons_91 rfl rfl ?_
                  refine y_iload_n hB 2 dX7_addPersons_92 rfl rfl ?_
                  refine y_aload_n hB 0 dX7_addPersons_93 rfl rfl ?_
                  refine gt_7_11 hB (by decide) (t1 := 585) (by omega) dX7_addPersons_94 ?_
                  refine y_bipush (v := 20) hB dX7_addPersons_97 (by decide) ?_
                  refine y_iload_n hB 1 dX7_addPersons_99 rfl rfl ?_
                  refine y_imul (t := 20 * i) hB dX7_addPersons_100 (by omega) ?_
                  refine y_iconst (v := 3) hB dX7_addPersons_101 rfl ?_
                  refine y_iadd (t := 20 * i + 3) hB dX7_addPersons_102 (by omega) ?_
                  refine y_iconst (v := 2) hB dX7_addPersons_103 rfl ?_
                  refine y_iload hB 3 dX7_addPersons_104 rfl ?_
                  refine y_imul (t := 2 * m) hB dX7_addPersons_106 (by omega) ?_
                  refine y_iadd (t := 20 * i + 2 * m + 3) hB dX7_addPersons_107 (by omega) ?_
                  refine ald_27 hB (by decide) (t1 := SN 585 (20 * i + 2 * m + 3)) (by omega) rfl dX7_addPersons_108 ?_
                  refine y_aload_n hB 0 dX7_addPersons_109 rfl rfl ?_
                  refine gt_7_11 hB (by decide) (t1 := 585) (by omega) dX7_addPersons_110 ?_
                  refine y_bipush (v := 20) hB dX7_addPersons_113 (by decide) ?_
                  refine y_iload_n hB 1 dX7_addPersons_115 rfl rfl ?_
                  refine y_imul (t := 20 * i) hB dX7_addPersons_116 (by omega) ?_
                  refine y_iconst (v := 4) hB dX7_addPersons_117 rfl ?_
                  refine y_iadd (t := 20 * i + 4) hB dX7_addPersons_118 (by omega) ?_
                  refine y_iconst (v := 2) hB dX7_addPersons_119 rfl ?_
                  refine y_iload hB 3 dX7_addPersons_120 rfl ?_
                  refine y_imul (t := 2 * m) hB dX7_addPersons_122 (by omega) ?_
                  refine y_iadd (t := 20 * i + 2 * m + 4) hB dX7_addPersons_123 (by omega) ?_
                  refine ald_27 hB (by decide) (t1 := SN 585 (20 * i + 2 * m + 4)) (by omega) rfl dX7_addPersons_124 ?_
                  refine m_V hB msX7_add q838 (tX7_add _ G b C SN pp (SN 585 (20 * i + 2 * m + 3)) (SN 585 (20 * i + 2 * m + 4)) (SN 579 (32 * pp + 19)) (by omega) rfl (by omega)) (t := 20) (by decide) (by decide) rfl rfl rfl rfl rfl ⟨Nat.le_of_ble_eq_true rfl, Nat.le_of_ble_eq_true rfl⟩ (Nat.le_of_ble_eq_true rfl) ⟨rfl, rfl⟩ ⟨Nat.le_of_ble_eq_true rfl, Nat.le_of_ble_eq_true rfl⟩ dX7_addPersons_125 (k_SV (fun S_125 h_125 => ?_))
                  obtain rfl := h_125
                  refine y_iinc (v := m + 1) (lv' := [(4, .int (iI (m + 1))), (0, .ref (ad b (578))), (2, .int (iI (i))), (3, .int (iI (pp)))]) hB 3 dX7_addPersons_128 rfl (by omega) (by decide) rfl ?_
                  refine y_goto hB 75 dX7_addPersons_131 (by decide) ?_
                  refine y_sub (lv' := [(0, .ref (ad b (578))), (2, .int (iI (i))), (3, .int (iI (pp))), (4, .int (iI (m + 1)))]) [1, 2, 3, 0] rfl ?_
                  exact ih_75 pp (m + 1) _ hpp (by omega) (Jm_add hJ3 (by omega) (by omega) hm8 hpp x19 x3 x4 x0) (by omega)
            refine y_sub (lv' := [(0, .ref (ad b (578))), (2, .int (iI (i))), (3, .int (iI (SM 579 1))), (4, .int (iI (0)))]) [2, 3, 1, 0] rfl ?_
            exact LOOP_75 ((((txP t n).r i).m).toNat + 1) (SM 579 1) 0 _ (by omega) (by omega) hJ2 (by omega)
      refine y_sub (lv' := [(0, .ref (ad b (578))), (2, .int (iI (0)))]) [2, 0] rfl ?_
      exact LOOP_39 (((txP t n).k).toNat + 1) 0 _ (by omega) (JmI_0 (by rw [er]; exact e11)) (by omega)
    · refine y_bipush (v := -3) hB dX7_addPersons_30 (by decide) ?_
      exact m_si hB hE dX7_addPersons_32 rfl (Or.inr (Or.inl ⟨hok, by omega, rfl, hF⟩))
  · have hok : (txP t n).ok = 0 := by omega
    have hF : FoP S S_1 t n (txP t n).a := by have h9 := h_1; rwa [show v_1 = (txP t n).a by omega] at h9
    refine y_bipush (v := -100) hB dX7_addPersons_9 (by decide) ?_
    refine y_iload_n hB 0 dX7_addPersons_11 rfl rfl ?_
    refine y_isub (t := -v_1 - 100) hB dX7_addPersons_12 (by omega) ?_
    exact m_si hB hE dX7_addPersons_13 rfl (Or.inl ⟨hok, by omega, hF⟩)
