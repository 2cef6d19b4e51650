/-! reading the text: ages, lives, all persons -/
/-- a contract out of its body, where the class's name is not plain, but the method has no row among the natives -/
theorem met_plainFor {l : Launch} {y : MethodName} {ws ws' : List Cond} {rm : Room} {Pc : Array Value → State → Prop} {Qc : Array Value → State → Outcome → State → Prop} {mc ms : Nat} {free : Addr → Prop} {cc : ByteArray} {maxL : Nat} {ret : Option FieldType} (hy : plainFor y = true) (hw : ws = Cond.code y cc maxL ret :: ws')
    (body : ∀ p e s m args below meth c s₁, BodyLoose p l y (headSpec ws rm) cc maxL ret e s m args below meth c s₁ → c.maxLocals = maxL → Pc args s → W p l e (headSpec ws rm).room s m args below meth c s.heap [] 0 0 (MQ below Qc args s mc ms free) (entryFrame m args maxL)) : Met l y ws rm Pc Qc mc ms free := by
  refine MetFree.of_bodySF (code := cc) (maxLocals := maxL) (ret := ret) hy ?_ ?_
  · intro args s m h hn
    obtain ⟨meth, c, h1, h2, h3, h4, h5, h6, -, -⟩ := Cond.code_spec hn (atoms_spec (ws := ws) h _ (by rw [hw]; exact List.mem_cons_self))
    exact ⟨meth, c, h1, h2, h3, h4, h5, h6⟩
  · intro p e s m args below meth c s₁ B hml hP _
    obtain ⟨t, a1, o, b1, b2, b3⟩ := body p e s m args below meth c s₁ B hml hP s₁ (by rw [B.state]; rfl) (Stand.of_body B)
    exact ⟨t, o, a1, b1, b2, ⟨b3.1, b3.2⟩⟩
theorem CtK_ofF {l : Launch} {G : gG} {b : Nat} {K : State → Prop} {y : MethodName} {cc : ByteArray} {nL : Nat} {ret : Option FieldType} {rm : Room} {av : List Value} {n : Int} {w : Int → va_E} {Po : gP} (hy : plainFor y = true) (ha : (lg_sl av).length ≤ nL) (hw : (Cond.code y cc nL ret : Cond) ∈ lw_g)
    (body : ∀ x : gX, x.1.2.1 = l → Bx x G b y.cls cc nL ret rm y.name → Ex x G b Po rm.cells rm.slots → K (gs x) → Y x G b 0 0 n w 0 (lv_args 0 av) []) : CtK l G b K y cc nL ret rm av n w Po := by
  refine met_plainFor (cc := cc) (maxL := nL) (ret := ret) hy rfl ?_
  intro p e s m args below meth c s₁ B hml hv
  obtain ⟨rfl, hRp, hK, hKs⟩ := hv
  have hts0 := atoms_spec (ws := cw y cc nL ret) B.pre
  have hl := lv_entry av (n := nL) ha
  rw [lg_entry_eq]
  have hsz : ad b n = s.heap.size := hRp.2.1.symm
  refine body ((p, l, e, (headSpec (cw y cc nL ret) rm).room, s), (m, av.toArray, below, meth, c), MQ below (Qx G b Po) av.toArray s rm.cells rm.slots (fun q => b ≤ q)) rfl ⟨B.exec, B.bytes, hml, findClass_of_methodNamed B.named, fun w h => hts0 w (List.mem_cons_of_mem _ h), hK, by show b ≤ s.heap.size; rw [← hsz]; exact Nat.le_add_right _ _, B.notSynchronized, B.returns, rfl, (name_of_methodNamed B.named B.method).1⟩ rfl hKs s.heap [] _ hRp va_S.rf ?_
  show lv_has _ c.maxLocals _
  rw [hml]
  exact hl
theorem ag_fin {t : Int → Int} {n a v p i : Int} (hi : 1 ≤ i ∧ i ≤ 3) (h1 : i = 1 → aV t n (aV t n v p) (aA t n v p) = agV t n a ∧ aA t n (aV t n v p) (aA t n v p) = agA t n a) (h2 : i = 2 → aV t n v p = agV t n a ∧ aA t n v p = agA t n a) (h3 : i = 3 → v = agV t n a ∧ p = agA t n a) (h : i = 3 ∨ ¬ aC t n v p) : v = agV t n a ∧ p = agA t n a := by
  rcases h with h | h
  · exact h3 h
  · have hz := aC_n h
    rcases (show i = 1 ∨ i = 2 ∨ i = 3 by omega) with g | g | g
    · have := h1 g
      rw [hz.1, hz.2, hz.1, hz.2] at this
      exact this
    · have := h2 g
      rw [hz.1, hz.2] at this
      exact this
    · exact h3 g
theorem ag_take {t : Int → Int} {n v p z : Int} (hv : 0 < v) (hz : (z = 9 ∧ 9 ≤ 110 - 10 * v) ∨ (z = 110 - 10 * v ∧ 110 - 10 * v < 9)) (h : ¬ gV t n p 0 z = -5) : aV t n v p = gV t n p 0 z + 10 * v ∧ aA t n v p = gA t n p 0 z := by
  have hg := gV_b t n p 0 z
  have hc : aC t n v p := by unfold aC; omega
  have := aC_y hc
  omega
theorem ag_not {t : Int → Int} {n v p z : Int} (hz : (z = 9 ∧ 9 ≤ 110 - 10 * v) ∨ (z = 110 - 10 * v ∧ 110 - 10 * v < 9)) (h : gV t n p 0 z = -5) (hz0 : v ≤ 110) : ¬ aC t n v p ∧ gA t n p 0 z = p := by
  have hg := gV_b t n p 0 z
  refine ⟨fun hc => ?_, by omega⟩
  unfold aC at hc
  omega
section
variable {t : Int → Int} {n a : Int} {k : Nat} {p m : Int} {s f : Int → Int}
theorem fsP_ok (h1 : hT t n p 44 = 1) (h2 : fOk t n (hA t n p 44) = 1) : fsP t n (k + 1) p m s f = fsP t n k (fA t n (hA t n p 44)) (m + 1) (up1 s m (fS t n (hA t n p 44))) (up1 f m (fL t n (hA t n p 44))) := by
  rw [fsP, if_pos h1, if_pos h2]
theorem fsP_bad (h1 : hT t n p 44 = 1) (h2 : fOk t n (hA t n p 44) = 0) : fsP t n (k + 1) p m s f = ⟨0, fA t n (hA t n p 44), m, s, f⟩ := by
  rw [fsP, if_pos h1, if_neg (by omega)]
theorem fsP_end (h1 : hT t n p 44 = 0) : fsP t n (k + 1) p m s f = ⟨1, hA t n p 44, m, s, f⟩ := by
  rw [fsP, if_neg (by omega)]
theorem pP_1 (h : agV t n a = -5) : pP t n a = ⟨0, agA t n a, 0, 0, 0, fun _ => 0, fun _ => 0⟩ := by unfold pP; rw [if_pos h]
theorem pP_2 (h : ¬ agV t n a = -5) (h2 : hT t n (agA t n a) 114 = 0) : pP t n a = ⟨0, hA t n (agA t n a) 114, 0, 0, 0, fun _ => 0, fun _ => 0⟩ := by unfold pP; rw [if_neg h, if_pos h2]
theorem pP_3 (h : ¬ agV t n a = -5) (h2 : ¬ hT t n (agA t n a) 114 = 0) (h3 : gV t n (hA t n (agA t n a) 114) 1 9 = -5) : pP t n a = ⟨0, gA t n (hA t n (agA t n a) 114) 1 9, 0, 0, 0, fun _ => 0, fun _ => 0⟩ := by unfold pP; rw [if_neg h, if_neg h2, if_pos h3]
theorem pP_4 (h : ¬ agV t n a = -5) (h2 : ¬ hT t n (agA t n a) 114 = 0) (h3 : ¬ gV t n (hA t n (agA t n a) 114) 1 9 = -5) {r : FR} (hr : r = fsP t n 8 (gA t n (hA t n (agA t n a) 114) 1 9) 0 (fun _ => 0) (fun _ => 0)) : pP t n a = ⟨r.ok, r.a, agV t n a, gV t n (hA t n (agA t n a) 114) 1 9, r.m, r.s, r.l⟩ := by subst hr; unfold pP; rw [if_neg h, if_neg h2, if_neg h3]
end
/-- while the facts of a life are read -/
def RdI (C CM : gM) (t : Int → Int) (n q d ag rk i p : Int) (s f : Int → Int) : Prop := TxS CM t n p ∧ CM q 6 = i ∧ (CM q 0 = ag ∧ CM q 1 = rk ∧ CM q 2 = 0 ∧ CM q 3 = -5 ∧ CM q 4 = -5 ∧ CM q 5 = -5) ∧ (∀ j : Int, 0 ≤ j → j < i → CM (q + 1) j = s j ∧ CM (q + 2) j = f j ∧ CM (q + 3) j = d) ∧ (∀ x : Int, x ≠ 507 → (x < q ∨ q + 3 < x) → CM x = C x) ∧ CM 507 3 = C 507 3
section
variable {C CM C' : gM} {t : Int → Int} {n q d ag rk i p p' : Int} {s f : Int → Int}
theorem RdI_at (h : RdI C CM t n q d ag rk i p s f) (hq : 510 ≤ q) : RdI C (up2 CM 507 4 p') t n q d ag rk i p' s f := by
  obtain ⟨h1, h2, h3, h4, h5, h6⟩ := h
  refine ⟨TxS_at h1, ?_, ?_, ?_, ?_, ?_⟩
  · rw [rd_k (by omega)]; exact h2
  · rw [up2_ne _ _ _ (by omega)]; exact h3
  · rw [up2_ne _ _ _ (by omega), up2_ne _ _ _ (by omega), up2_ne _ _ _ (by omega)]; exact h4
  · intro x a1 a2; rw [up2_ne _ _ _ a1]; exact h5 x a1 a2
  · rw [rd_i (by omega)]; exact h6
theorem RdI_0 (h : TxS C t n p) (hq : 510 ≤ q) : RdI C (up2 (up2 (up2 (up2 (up2 (up2 (up2 (up2 C 507 4 p') q 0 ag) q 1 rk) q 5 (-5)) q 6 0) q 2 0) q 3 (-5)) q 4 (-5)) t n q d ag rk 0 p' s f := by
  refine ⟨?_, ?_, ⟨?_, ?_, ?_, ?_, ?_, ?_⟩, fun j a1 a2 => by omega, fun x a1 a2 => ?_, ?_⟩
  · exact TxS_k (by omega) (TxS_k (by omega) (TxS_k (by omega) (TxS_k (by omega) (TxS_k (by omega) (TxS_k (by omega) (TxS_k (by omega) (TxS_at h)))))))
  · rw [rd_i (by omega), rd_i (by omega), rd_i (by omega), rd_hit rfl rfl]
  · rw [rd_i (by omega), rd_i (by omega), rd_i (by omega), rd_i (by omega), rd_i (by omega), rd_i (by omega), rd_hit rfl rfl]
  · rw [rd_i (by omega), rd_i (by omega), rd_i (by omega), rd_i (by omega), rd_i (by omega), rd_hit rfl rfl]
  · rw [rd_i (by omega), rd_i (by omega), rd_hit rfl rfl]
  · rw [rd_i (by omega), rd_hit rfl rfl]
  · rw [rd_hit rfl rfl]
  · rw [rd_i (by omega), rd_i (by omega), rd_i (by omega), rd_i (by omega), rd_hit rfl rfl]
  · rw [up2_ne _ _ _ (by omega), up2_ne _ _ _ (by omega), up2_ne _ _ _ (by omega), up2_ne _ _ _ (by omega), up2_ne _ _ _ (by omega), up2_ne _ _ _ (by omega), up2_ne _ _ _ (by omega), up2_ne _ _ _ a1]
  · rw [rd_k (by omega), rd_k (by omega), rd_k (by omega), rd_k (by omega), rd_k (by omega), rd_k (by omega), rd_k (by omega), rd_i (by omega)]
theorem RdI_fact (h : RdI C CM t n q d ag rk i p s f) (hq : 510 ≤ q) (hi : 0 ≤ i) {u v : Int} (e : C' = up2 (up2 (up2 (up2 (up2 CM 507 4 p') (q + 1) (CM q 6) u) (q + 2) (CM q 6) v) (q + 3) (CM q 6) d) q 6 (CM q 6 + 1)) : RdI C C' t n q d ag rk (i + 1) p' (up1 s i u) (up1 f i v) := by
  obtain ⟨h1, h2, ⟨g0, g1, g2, g3, g4, g5⟩, h4, h5, h6⟩ := h
  rw [h2] at e
  subst e
  refine ⟨?_, ?_, ⟨?_, ?_, ?_, ?_, ?_, ?_⟩, fun j a1 a2 => ?_, fun x a1 a2 => ?_, ?_⟩
  · exact TxS_k (by omega) (TxS_k (by omega) (TxS_k (by omega) (TxS_k (by omega) (TxS_at h1))))
  · rw [rd_hit rfl rfl]
  · rw [rd_i (by omega), rd_k (by omega), rd_k (by omega), rd_k (by omega), rd_k (by omega)]; exact g0
  · rw [rd_i (by omega), rd_k (by omega), rd_k (by omega), rd_k (by omega), rd_k (by omega)]; exact g1
  · rw [rd_i (by omega), rd_k (by omega), rd_k (by omega), rd_k (by omega), rd_k (by omega)]; exact g2
  · rw [rd_i (by omega), rd_k (by omega), rd_k (by omega), rd_k (by omega), rd_k (by omega)]; exact g3
  · rw [rd_i (by omega), rd_k (by omega), rd_k (by omega), rd_k (by omega), rd_k (by omega)]; exact g4
  · rw [rd_i (by omega), rd_k (by omega), rd_k (by omega), rd_k (by omega), rd_k (by omega)]; exact g5
  · by_cases hj : j = i
    · subst hj
      refine ⟨?_, ?_, ?_⟩
      · rw [rd_k (by omega), rd_k (by omega), rd_k (by omega), rd_hit rfl rfl]; unfold up1; rw [if_pos rfl]
      · rw [rd_k (by omega), rd_k (by omega), rd_hit rfl rfl]; unfold up1; rw [if_pos rfl]
      · rw [rd_k (by omega), rd_hit rfl rfl]
    · have := h4 j a1 (by omega)
      refine ⟨?_, ?_, ?_⟩
      · rw [rd_k (by omega), rd_k (by omega), rd_k (by omega), rd_i hj, rd_k (by omega)]; unfold up1; rw [if_neg hj]; exact this.1
      · rw [rd_k (by omega), rd_k (by omega), rd_i hj, rd_k (by omega), rd_k (by omega)]; unfold up1; rw [if_neg hj]; exact this.2.1
      · rw [rd_k (by omega), rd_i hj, rd_k (by omega), rd_k (by omega), rd_k (by omega)]; exact this.2.2
  · rw [up2_ne _ _ _ (by omega), up2_ne _ _ _ (by omega), up2_ne _ _ _ (by omega), up2_ne _ _ _ (by omega), up2_ne _ _ _ a1]; exact h5 x a1 a2
  · rw [rd_k (by omega), rd_k (by omega), rd_k (by omega), rd_k (by omega), rd_i (by omega)]; exact h6
end
/-- a life was read, or not -/
def PsI (C C' : gM) (t : Int → Int) (n q d : Int) (R : PR) (v : Int) : Prop := v = R.ok ∧ TxS C' t n R.a ∧ (v = 1 → Row C' q R d) ∧ (∀ x : Int, x ≠ 507 → (x < q ∨ q + 3 < x) → C' x = C x) ∧ C' 507 3 = C 507 3
theorem PsI_bad {C : gM} {t : Int → Int} {n a p q d : Int} {R : PR} (h : TxS C t n a) (ho : R.ok = 0) (ha : R.a = p) : PsI C (up2 C 507 4 p) t n q d R 0 := by
  refine ⟨ho.symm, ha ▸ TxS_at h, fun h => absurd h (by decide), fun x a1 a2 => by rw [up2_ne _ _ _ a1], by rw [rd_i (by omega)]⟩
theorem PsI_of {C CM : gM} {t : Int → Int} {n q d ag rk i p : Int} {s f : Int → Int} {R : PR} (h : RdI C CM t n q d ag rk i p s f) (e : R = ⟨1, p, ag, rk, i, s, f⟩) : PsI C CM t n q d R 1 := by
  subst e
  obtain ⟨h1, h2, h3, h4, h5, h6⟩ := h
  exact ⟨rfl, h1, fun _ => ⟨h3.1, h3.2.1, h3.2.2.1, h3.2.2.2.1, h3.2.2.2.2.1, h3.2.2.2.2.2, h2, h4⟩, h5, h6⟩
theorem PsI_no {C CM : gM} {t : Int → Int} {n q d ag rk i p : Int} {s f : Int → Int} {R : PR} (h : RdI C CM t n q d ag rk i p s f) (ho : R.ok = 0) (ha : R.a = p) : PsI C CM t n q d R 0 := by
  obtain ⟨h1, h2, h3, h4, h5, h6⟩ := h
  exact ⟨ho.symm, ha ▸ h1, fun h => absurd h (by decide), h5, h6⟩
set_option maxHeartbeats 4000000 in
theorem tJ9_min_7cf53 (l : Launch) (G : gG) (b : Nat) (C S : gM) (u t : Int) (hu : -2147483648 ≤ u ∧ u ≤ 2147483647) (ht : -2147483648 ≤ t ∧ t ≤ 2147483647) : Ct l G b yJ9_min_7cf53 cJ9_min_7cf53 2 (some .int) rmJ9_min_7cf53 [.int (iI (u)), .int (iI (t))] 586 (wM G b C S) (RI G b C S (fun v => (v = u ∧ u ≤ t) ∨ (v = t ∧ t < u))) := by
  refine CtK_ofF (by decide +kernel) (Nat.le_of_ble_eq_true rfl) q305 ?_
  intro x hl hB hE _
  subst hl
  show YM x G b 0 0 C S 0 [(0, .int (iI (u))), (1, .int (iI (t)))] []
  refine y_iload_n hB 0 dJ9_min_7cf53_0 rfl rfl ?_
  refine y_iload_n hB 1 dJ9_min_7cf53_1 rfl rfl ?_
  refine y_icmp_gt hB 9 dJ9_min_7cf53_2 (by decide) (by omega) (by omega) (fun c_2 => ?_) (fun c_2 => ?_)
  · refine y_iload_n hB 1 dJ9_min_7cf53_9 rfl rfl ?_
    exact m_ri hB hE dJ9_min_7cf53_10 rfl (by omega)
  · refine y_iload_n hB 0 dJ9_min_7cf53_5 rfl rfl ?_
    refine y_goto hB 10 dJ9_min_7cf53_6 (by decide) ?_
    exact m_ri hB hE dJ9_min_7cf53_10 rfl (by omega)
set_option maxHeartbeats 4000000 in
theorem tX4_takeAge (l : Launch) (G : gG) (b : Nat) (C S : gM) (t : Int → Int) (n a : Int) (htx : TxS C t n a) (hb : TxB t n) (ha0 : 0 ≤ a ∧ a ≤ 60) : Ct l G b yX4_takeAge cX4_takeAge 5 (some .int) rmX4_takeAge [.ref (ad b (507))] 586 (wM G b C S) (WI G b S (fun v C' => v = agV t n a ∧ C' = up2 C 507 4 (agA t n a))) := by
  refine CtK_of (by decide) (Nat.le_of_ble_eq_true rfl) q297 ?_
  intro x hl hB hE _
  subst hl
  show YM x G b 0 0 C S 0 [(0, .ref (ad b (507)))] []
  obtain ⟨ht, hn, ha⟩ := id htx
  have hn60 := hb.1
  refine y_aload_n hB 0 dX4_takeAge_0 rfl rfl ?_
  refine y_iconst (v := 0) hB dX4_takeAge_1 rfl ?_
  refine y_bipush (v := 9) hB dX4_takeAge_2 (by decide) ?_
  refine m_V hB msX4_takeDigit q298 (tX4_takeDigit _ G b C S t n a 0 9 (htx) hb (by omega) (by omega) (by omega)) (t := 9) (by decide) (by decide) rfl rfl rfl rfl rfl ⟨Nat.le_of_ble_eq_true rfl, Nat.le_of_ble_eq_true rfl⟩ (Nat.le_of_ble_eq_true rfl) ⟨rfl, rfl⟩ ⟨Nat.le_of_ble_eq_true rfl, Nat.le_of_ble_eq_true rfl⟩ dX4_takeAge_4 (k_WI (fun v_4 C_4 h_4 => ?_))
  obtain ⟨rfl, rfl⟩ := h_4
  have hg_4 := gV_b t n a 0 9
  refine y_istore_n (lv' := [(1, .int (iI (gV t n a 0 9))), (0, .ref (ad b (507)))]) hB dX4_takeAge_7 rfl (by decide) rfl ?_
  refine y_iload_n hB 0 dX4_takeAge_8 rfl rfl ?_
  refine y_if_le hB 16 dX4_takeAge_9 (by decide) (by omega) (fun c_9 => ?_) (fun c_9 => ?_)
  · refine y_iconst (v := 0) hB dX4_takeAge_16 rfl ?_
    refine y_istore_n (lv' := [(2, .int (iI (0))), (1, .int (iI (gV t n a 0 9))), (0, .ref (ad b (507)))]) hB dX4_takeAge_17 rfl (by decide) rfl ?_
    refine y_iconst (v := 1) hB dX4_takeAge_18 rfl ?_
    refine y_istore_n (lv' := [(3, .int (iI (1))), (2, .int (iI (0))), (1, .int (iI (gV t n a 0 9))), (0, .ref (ad b (507)))]) hB dX4_takeAge_19 rfl (by decide) rfl ?_
    have LOOP_20 : ∀ (fu : Nat) (v p m i : Int), (1 ≤ i ∧ i ≤ 3) → (0 ≤ p ∧ p ≤ 60) → (m = 0 ∨ m = 1) → (-5 ≤ v ∧ v ≤ 110) → (i = 1 → aV t n (aV t n v p) (aA t n v p) = agV t n a ∧ aA t n (aV t n v p) (aA t n v p) = agA t n a) → (i = 2 → aV t n v p = agV t n a ∧ aA t n v p = agA t n a) → (i = 3 → v = agV t n a ∧ p = agA t n a) → (m = 0 → ¬ aC t n v p) → (m = 1 → 0 < v) → 3 - i < (fu : Int) → YM x G b 0 0 (up2 C 507 4 p) S 20 [(0, .ref (ad b (507))), (1, .int (iI (v))), (2, .int (iI (m))), (3, .int (iI (i)))] [] := by
      intro fu
      induction fu with
      | zero => intro v p m i hi hp hm hv h1 h2 h3 hm0 hm1 hm_20; exfalso; omega
      | succ fu ih_20 =>
        intro v p m i hi hp hm hv h1 h2 h3 hm0 hm1 hm_20
        refine y_iload_n hB 3 dX4_takeAge_20 rfl rfl ?_
        refine y_iconst (v := 3) hB dX4_takeAge_21 rfl ?_
        refine y_icmp_ge hB 79 dX4_takeAge_22 (by decide) (by omega) (by omega) (fun c_22 => ?_) (fun c_22 => ?_)
        · have hfin : v = agV t n a ∧ p = agA t n a := ag_fin hi h1 h2 h3 (by first | exact Or.inl (by omega) | exact Or.inr (hm0 (by omega)))
          refine y_iload_n hB 1 dX4_takeAge_79 rfl rfl ?_
          exact m_wi hB hE dX4_takeAge_80 rfl (by rw [hfin.2]; exact ⟨hfin.1, rfl⟩)
        · refine y_iload_n hB 2 dX4_takeAge_25 rfl rfl ?_
          refine y_if_eq hB 79 dX4_takeAge_26 (by decide) (by omega) (fun c_26 => ?_) (fun c_26 => ?_)
          · have hfin : v = agV t n a ∧ p = agA t n a := ag_fin hi h1 h2 h3 (by first | exact Or.inl (by omega) | exact Or.inr (hm0 (by omega)))
            refine y_iload_n hB 1 dX4_takeAge_79 rfl rfl ?_
            exact m_wi hB hE dX4_takeAge_80 rfl (by rw [hfin.2]; exact ⟨hfin.1, rfl⟩)
          · refine y_aload_n hB 0 dX4_takeAge_29 rfl rfl ?_
            refine y_iconst (v := 0) hB dX4_takeAge_30 rfl ?_
            refine y_bipush (v := 9) hB dX4_takeAge_31 (by decide) ?_
            refine y_bipush (v := 110) hB dX4_takeAge_33 (by decide) ?_
            refine y_bipush (v := 10) hB dX4_takeAge_35 (by decide) ?_
            refine y_iload_n hB 1 dX4_takeAge_37 rfl rfl ?_
            refine y_imul (t := 10 * v) hB dX4_takeAge_38 (by omega) ?_
            refine y_isub (t := -(10 * v) + 110) hB dX4_takeAge_39 (by omega) ?_
            refine m_S hB msJ9_min_7cf53 q303 (tJ9_min_7cf53 _ G b (up2 C 507 4 p) S 9 (-(10 * v) + 110) (by omega) (by omega)) rfl rfl ⟨Nat.le_of_ble_eq_true rfl, Nat.le_of_ble_eq_true rfl⟩ (Nat.le_of_ble_eq_true rfl) ⟨rfl, rfl⟩ ⟨Nat.le_of_ble_eq_true rfl, Nat.le_of_ble_eq_true rfl⟩ dX4_takeAge_40 (k_RI (fun v_40 h_40 => ?_))
            refine m_V hB msX4_takeDigit q298 (tX4_takeDigit _ G b (up2 C 507 4 p) S t n p 0 v_40 (TxS_at (htx)) hb (by omega) (by omega) (by omega)) (t := 9) (by decide) (by decide) rfl rfl rfl rfl rfl ⟨Nat.le_of_ble_eq_true rfl, Nat.le_of_ble_eq_true rfl⟩ (Nat.le_of_ble_eq_true rfl) ⟨rfl, rfl⟩ ⟨Nat.le_of_ble_eq_true rfl, Nat.le_of_ble_eq_true rfl⟩ dX4_takeAge_43 (k_WI (fun v_43 C_43 h_43 => ?_))
            obtain ⟨rfl, rfl⟩ := h_43
            rw [up2_2]
            have hg_43 := gV_b t n p 0 v_40
            refine y_istore (lv' := [(4, .int (iI (gV t n p 0 v_40))), (0, .ref (ad b (507))), (1, .int (iI (v))), (2, .int (iI (m))), (3, .int (iI (i)))]) hB dX4_takeAge_46 (by decide) rfl ?_
            refine y_iload hB 0 dX4_takeAge_48 rfl ?_
            refine y_bipush (v := -5) hB dX4_takeAge_50 (by decide) ?_
            refine y_icmp_eq hB 59 dX4_takeAge_52 (by decide) (by omega) (by omega) (fun c_52 => ?_) (fun c_52 => ?_)
            · have hk := ag_not (v := v) (by omega) c_52 (by omega)
              rw [hk.2]
              refine y_iconst (v := 0) hB dX4_takeAge_59 rfl ?_
              refine y_istore_n (lv' := [(2, .int (iI (0))), (4, .int (iI (gV t n p 0 v_40))), (0, .ref (ad b (507))), (1, .int (iI (v))), (3, .int (iI (i)))]) hB dX4_takeAge_60 rfl (by decide) rfl ?_
              refine y_iload_n hB 0 dX4_takeAge_61 rfl rfl ?_
              refine y_if_eq hB 73 dX4_takeAge_62 (by decide) (by omega) (fun c_62 => ?_) (fun c_62 => ?_)
              · refine y_iinc (v := i + 1) (lv' := [(3, .int (iI (i + 1))), (2, .int (iI (0))), (4, .int (iI (gV t n p 0 v_40))), (0, .ref (ad b (507))), (1, .int (iI (v)))]) hB 4 dX4_takeAge_73 rfl (by omega) (by decide) rfl ?_
                refine y_goto hB 20 dX4_takeAge_76 (by decide) ?_
                refine y_sub (lv' := [(0, .ref (ad b (507))), (1, .int (iI (v))), (2, .int (iI (0))), (3, .int (iI (i + 1)))]) [3, 4, 1, 0] rfl ?_
                exact ih_20 v p 0 (i + 1) (by omega) (by omega) (Or.inl rfl) (by omega) (fun h => (by omega)) (fun h => (by have h9 := h1 (by omega); have h8 := aC_n hk.1; rw [h8.1, h8.2] at h9; exact h9)) (fun h => (by have h9 := h2 (by omega); have h8 := aC_n hk.1; rw [h8.1, h8.2] at h9; exact h9)) (fun _ => hk.1) (fun h => absurd h (by decide)) (by omega)
              · exfalso
                omega
            · have hv0 := hm1 (by omega)
              have hk := ag_take hv0 (by omega) c_52
              refine y_iconst (v := 1) hB dX4_takeAge_55 rfl ?_
              refine y_goto hB 60 dX4_takeAge_56 (by decide) ?_
              refine y_istore_n (lv' := [(2, .int (iI (1))), (4, .int (iI (gV t n p 0 v_40))), (0, .ref (ad b (507))), (1, .int (iI (v))), (3, .int (iI (i)))]) hB dX4_takeAge_60 rfl (by decide) rfl ?_
              refine y_iload_n hB 0 dX4_takeAge_61 rfl rfl ?_
              refine y_if_eq hB 73 dX4_takeAge_62 (by decide) (by omega) (fun c_62 => ?_) (fun c_62 => ?_)
              · exfalso
                omega
              · refine y_bipush (v := 10) hB dX4_takeAge_65 (by decide) ?_
                refine y_iload_n hB 3 dX4_takeAge_67 rfl rfl ?_
                refine y_imul (t := 10 * v) hB dX4_takeAge_68 (by omega) ?_
                refine y_iload hB 1 dX4_takeAge_69 rfl ?_
                refine y_iadd (t := gV t n p 0 v_40 + 10 * v) hB dX4_takeAge_71 (by omega) ?_
                refine y_istore_n (lv' := [(1, .int (iI (gV t n p 0 v_40 + 10 * v))), (2, .int (iI (1))), (4, .int (iI (gV t n p 0 v_40))), (0, .ref (ad b (507))), (3, .int (iI (i)))]) hB dX4_takeAge_72 rfl (by decide) rfl ?_
                refine y_iinc (v := i + 1) (lv' := [(3, .int (iI (i + 1))), (1, .int (iI (gV t n p 0 v_40 + 10 * v))), (2, .int (iI (1))), (4, .int (iI (gV t n p 0 v_40))), (0, .ref (ad b (507)))]) hB 4 dX4_takeAge_73 rfl (by omega) (by decide) rfl ?_
                refine y_goto hB 20 dX4_takeAge_76 (by decide) ?_
                refine y_sub (lv' := [(0, .ref (ad b (507))), (1, .int (iI (gV t n p 0 v_40 + 10 * v))), (2, .int (iI (1))), (3, .int (iI (i + 1)))]) [4, 1, 2, 0] rfl ?_
                exact ih_20 (gV t n p 0 v_40 + 10 * v) (gA t n p 0 v_40) 1 (i + 1) (by omega) (by omega) (Or.inr rfl) (by omega) (fun h => (by omega)) (fun h => (by have h9 := h1 (by omega); rw [hk.1, hk.2] at h9; exact h9)) (fun h => (by have h9 := h2 (by omega); rw [hk.1, hk.2] at h9; exact h9)) (fun h => absurd h (by decide)) (fun _ => by omega) (by omega)
    refine y_sub (lv' := [(0, .ref (ad b (507))), (1, .int (iI (gV t n a 0 9))), (2, .int (iI (0))), (3, .int (iI (1)))]) [3, 2, 1, 0] rfl ?_
    exact LOOP_20 (((3 : Int)).toNat + 1) (gV t n a 0 9) (gA t n a 0 9) 0 1 (by omega) (by omega) (Or.inl rfl) (by omega) (fun _ => ⟨rfl, rfl⟩) (fun h => absurd h (by decide)) (fun h => absurd h (by decide)) (fun _ h => (by have h9 := h.1; omega)) (fun h => absurd h (by decide)) (by omega)
  · refine y_iconst (v := 1) hB dX4_takeAge_12 rfl ?_
    refine y_goto hB 17 dX4_takeAge_13 (by decide) ?_
    refine y_istore_n (lv' := [(2, .int (iI (1))), (1, .int (iI (gV t n a 0 9))), (0, .ref (ad b (507)))]) hB dX4_takeAge_17 rfl (by decide) rfl ?_
    refine y_iconst (v := 1) hB dX4_takeAge_18 rfl ?_
    refine y_istore_n (lv' := [(3, .int (iI (1))), (2, .int (iI (1))), (1, .int (iI (gV t n a 0 9))), (0, .ref (ad b (507)))]) hB dX4_takeAge_19 rfl (by decide) rfl ?_
    have LOOP_20 : ∀ (fu : Nat) (v p m i : Int), (1 ≤ i ∧ i ≤ 3) → (0 ≤ p ∧ p ≤ 60) → (m = 0 ∨ m = 1) → (-5 ≤ v ∧ v ≤ 110) → (i = 1 → aV t n (aV t n v p) (aA t n v p) = agV t n a ∧ aA t n (aV t n v p) (aA t n v p) = agA t n a) → (i = 2 → aV t n v p = agV t n a ∧ aA t n v p = agA t n a) → (i = 3 → v = agV t n a ∧ p = agA t n a) → (m = 0 → ¬ aC t n v p) → (m = 1 → 0 < v) → 3 - i < (fu : Int) → YM x G b 0 0 (up2 C 507 4 p) S 20 [(0, .ref (ad b (507))), (1, .int (iI (v))), (2, .int (iI (m))), (3, .int (iI (i)))] [] := by
      intro fu
      induction fu with
      | zero => intro v p m i hi hp hm hv h1 h2 h3 hm0 hm1 hm_20; exfalso; omega
      | succ fu ih_20 =>
        intro v p m i hi hp hm hv h1 h2 h3 hm0 hm1 hm_20
        refine y_iload_n hB 3 dX4_takeAge_20 rfl rfl ?_
        refine y_iconst (v := 3) hB dX4_takeAge_21 rfl ?_
        refine y_icmp_ge hB 79 dX4_takeAge_22 (by decide) (by omega) (by omega) (fun c_22 => ?_) (fun c_22 => ?_)
        · have hfin : v = agV t n a ∧ p = agA t n a := ag_fin hi h1 h2 h3 (by first | exact Or.inl (by omega) | exact Or.inr (hm0 (by omega)))
          refine y_iload_n hB 1 dX4_takeAge_79 rfl rfl ?_
          exact m_wi hB hE dX4_takeAge_80 rfl (by rw [hfin.2]; exact ⟨hfin.1, rfl⟩)
        · refine y_iload_n hB 2 dX4_takeAge_25 rfl rfl ?_
          refine y_if_eq hB 79 dX4_takeAge_26 (by decide) (by omega) (fun c_26 => ?_) (fun c_26 => ?_)
          · have hfin : v = agV t n a ∧ p = agA t n a := ag_fin hi h1 h2 h3 (by first | exact Or.inl (by omega) | exact Or.inr (hm0 (by omega)))
            refine y_iload_n hB 1 dX4_takeAge_79 rfl rfl ?_
            exact m_wi hB hE dX4_takeAge_80 rfl (by rw [hfin.2]; exact ⟨hfin.1, rfl⟩)
          · refine y_aload_n hB 0 dX4_takeAge_29 rfl rfl ?_
            refine y_iconst (v := 0) hB dX4_takeAge_30 rfl ?_
            refine y_bipush (v := 9) hB dX4_takeAge_31 (by decide) ?_
            refine y_bipush (v := 110) hB dX4_takeAge_33 (by decide) ?_
            refine y_bipush (v := 10) hB dX4_takeAge_35 (by decide) ?_
            refine y_iload_n hB 1 dX4_takeAge_37 rfl rfl ?_
            refine y_imul (t := 10 * v) hB dX4_takeAge_38 (by omega) ?_
            refine y_isub (t := -(10 * v) + 110) hB dX4_takeAge_39 (by omega) ?_
            refine m_S hB msJ9_min_7cf53 q303 (tJ9_min_7cf53 _ G b (up2 C 507 4 p) S 9 (-(10 * v) + 110) (by omega) (by omega)) rfl rfl ⟨Nat.le_of_ble_eq_true rfl, Nat.le_of_ble_eq_true rfl⟩ (Nat.le_of_ble_eq_true rfl) ⟨rfl, rfl⟩ ⟨Nat.le_of_ble_eq_true rfl, Nat.le_of_ble_eq_true rfl⟩ dX4_takeAge_40 (k_RI (fun v_40 h_40 => ?_))
            refine m_V hB msX4_takeDigit q298 (tX4_takeDigit _ G b (up2 C 507 4 p) S t n p 0 v_40 (TxS_at (htx)) hb (by omega) (by omega) (by omega)) (t := 9) (by decide) (by decide) rfl rfl rfl rfl rfl ⟨Nat.le_of_ble_eq_true rfl, Nat.le_of_ble_eq_true rfl⟩ (Nat.le_of_ble_eq_true rfl) ⟨rfl, rfl⟩ ⟨Nat.le_of_ble_eq_true rfl, Nat.le_of_ble_eq_true rfl⟩ dX4_takeAge_43 (k_WI (fun v_43 C_43 h_43 => ?_))
            obtain ⟨rfl, rfl⟩ := h_43
            rw [up2_2]
            have hg_43 := gV_b t n p 0 v_40
            refine y_istore (lv' := [(4, .int (iI (gV t n p 0 v_40))), (0, .ref (ad b (507))), (1, .int (iI (v))), (2, .int (iI (m))), (3, .int (iI (i)))]) hB dX4_takeAge_46 (by decide) rfl ?_
            refine y_iload hB 0 dX4_takeAge_48 rfl ?_
            refine y_bipush (v := -5) hB dX4_takeAge_50 (by decide) ?_
            refine y_icmp_eq hB 59 dX4_takeAge_52 (by decide) (by omega) (by omega) (fun c_52 => ?_) (fun c_52 => ?_)
            · have hk := ag_not (v := v) (by omega) c_52 (by omega)
              rw [hk.2]
              refine y_iconst (v := 0) hB dX4_takeAge_59 rfl ?_
              refine y_istore_n (lv' := [(2, .int (iI (0))), (4, .int (iI (gV t n p 0 v_40))), (0, .ref (ad b (507))), (1, .int (iI (v))), (3, .int (iI (i)))]) hB dX4_takeAge_60 rfl (by decide) rfl ?_
              refine y_iload_n hB 0 dX4_takeAge_61 rfl rfl ?_
              refine y_if_eq hB 73 dX4_takeAge_62 (by decide) (by omega) (fun c_62 => ?_) (fun c_62 => ?_)
              · refine y_iinc (v := i + 1) (lv' := [(3, .int (iI (i + 1))), (2, .int (iI (0))), (4, .int (iI (gV t n p 0 v_40))), (0, .ref (ad b (507))), (1, .int (iI (v)))]) hB 4 dX4_takeAge_73 rfl (by omega) (by decide) rfl ?_
                refine y_goto hB 20 dX4_takeAge_76 (by decide) ?_
                refine y_sub (lv' := [(0, .ref (ad b (507))), (1, .int (iI (v))), (2, .int (iI (0))), (3, .int (iI (i + 1)))]) [3, 4, 1, 0] rfl ?_
                exact ih_20 v p 0 (i + 1) (by omega) (by omega) (Or.inl rfl) (by omega) (fun h => (by omega)) (fun h => (by have h9 := h1 (by omega); have h8 := aC_n hk.1; rw [h8.1, h8.2] at h9; exact h9)) (fun h => (by have h9 := h2 (by omega); have h8 := aC_n hk.1; rw [h8.1, h8.2] at h9; exact h9)) (fun _ => hk.1) (fun h => absurd h (by decide)) (by omega)
              · exfalso
                omega
            · have hv0 := hm1 (by omega)
              have hk := ag_take hv0 (by omega) c_52
              refine y_iconst (v := 1) hB dX4_takeAge_55 rfl ?_
              refine y_goto hB 60 dX4_takeAge_56 (by decide) ?_
              refine y_istore_n (lv' := [(2, .int (iI (1))), (4, .int (iI (gV t n p 0 v_40))), (0, .ref (ad b (507))), (1, .int (iI (v))), (3, .int (iI (i)))]) hB dX4_takeAge_60 rfl (by decide) rfl ?_
              refine y_iload_n hB 0 dX4_takeAge_61 rfl rfl ?_
              refine y_if_eq hB 73 dX4_takeAge_62 (by decide) (by omega) (fun c_62 => ?_) (fun c_62 => ?_)
              · exfalso
                omega
              · refine y_bipush (v := 10) hB dX4_takeAge_65 (by decide) ?_
                refine y_iload_n hB 3 dX4_takeAge_67 rfl rfl ?_
                refine y_imul (t := 10 * v) hB dX4_takeAge_68 (by omega) ?_
                refine y_iload hB 1 dX4_takeAge_69 rfl ?_
                refine y_iadd (t := gV t n p 0 v_40 + 10 * v) hB dX4_takeAge_71 (by omega) ?_
                refine y_istore_n (lv' := [(1, .int (iI (gV t n p 0 v_40 + 10 * v))), (2, .int (iI (1))), (4, .int (iI (gV t n p 0 v_40))), (0, .ref (ad b (507))), (3, .int (iI (i)))]) hB dX4_takeAge_72 rfl (by decide) rfl ?_
                refine y_iinc (v := i + 1) (lv' := [(3, .int (iI (i + 1))), (1, .int (iI (gV t n p 0 v_40 + 10 * v))), (2, .int (iI (1))), (4, .int (iI (gV t n p 0 v_40))), (0, .ref (ad b (507)))]) hB 4 dX4_takeAge_73 rfl (by omega) (by decide) rfl ?_
                refine y_goto hB 20 dX4_takeAge_76 (by decide) ?_
                refine y_sub (lv' := [(0, .ref (ad b (507))), (1, .int (iI (gV t n p 0 v_40 + 10 * v))), (2, .int (iI (1))), (3, .int (iI (i + 1)))]) [4, 1, 2, 0] rfl ?_
                exact ih_20 (gV t n p 0 v_40 + 10 * v) (gA t n p 0 v_40) 1 (i + 1) (by omega) (by omega) (Or.inr rfl) (by omega) (fun h => (by omega)) (fun h => (by have h9 := h1 (by omega); rw [hk.1, hk.2] at h9; exact h9)) (fun h => (by have h9 := h2 (by omega); rw [hk.1, hk.2] at h9; exact h9)) (fun h => absurd h (by decide)) (fun _ => by omega) (by omega)
    refine y_sub (lv' := [(0, .ref (ad b (507))), (1, .int (iI (gV t n a 0 9))), (2, .int (iI (1))), (3, .int (iI (1)))]) [3, 2, 1, 0] rfl ?_
    exact LOOP_20 (((3 : Int)).toNat + 1) (gV t n a 0 9) (gA t n a 0 9) 1 1 (by omega) (by omega) (Or.inr rfl) (by omega) (fun _ => ⟨rfl, rfl⟩) (fun h => absurd h (by decide)) (fun h => absurd h (by decide)) (fun h => absurd h (by decide)) (fun _ => by omega) (by omega)
set_option maxHeartbeats 4000000 in
theorem tX4_readPerson (l : Launch) (G : gG) (b : Nat) (C S : gM) (t : Int → Int) (n a q d : Int) (htx : TxS C t n a) (hb : TxB t n) (ha0 : 0 ≤ a ∧ a ≤ 60) (hq : isLife q) (hq5 : 510 ≤ q) : Ct l G b yX4_readPerson cX4_readPerson 6 (some .boolean) rmX4_readPerson [.ref (ad b (507)), .ref (ad b (q)), .int (iI (d))] 586 (wM G b C S) (WI G b S (fun v C' => PsI C C' t n q d (pP t n a) v)) := by
  refine CtK_of (by decide) (Nat.le_of_ble_eq_true rfl) q293 ?_
  intro x hl hB hE _
  subst hl
  show YM x G b 0 0 C S 0 [(0, .ref (ad b (507))), (1, .ref (ad b (q))), (2, .int (iI (d)))] []
  obtain ⟨ht, hn, ha⟩ := id htx
  have hn60 := hb.1
  refine y_aload_n hB 0 dX4_readPerson_0 rfl rfl ?_
  refine m_V hB msX4_takeAge q294 (tX4_takeAge _ G b C S t n a (htx) hb (by omega)) (t := 9) (by decide) (by decide) rfl rfl rfl rfl rfl ⟨Nat.le_of_ble_eq_true rfl, Nat.le_of_ble_eq_true rfl⟩ (Nat.le_of_ble_eq_true rfl) ⟨rfl, rfl⟩ ⟨Nat.le_of_ble_eq_true rfl, Nat.le_of_ble_eq_true rfl⟩ dX4_readPerson_1 (k_WI (fun v_1 C_1 h_1 => ?_))
  obtain ⟨rfl, rfl⟩ := h_1
  have hg_1 := ag_b (t := t) (n := n) (a := a)
  refine y_istore_n (lv' := [(3, .int (iI (agV t n a))), (0, .ref (ad b (507))), (1, .ref (ad b (q))), (2, .int (iI (d)))]) hB dX4_readPerson_4 rfl (by decide) rfl ?_
  refine y_aload_n hB 2 dX4_readPerson_5 rfl rfl ?_
  refine y_ifnull hB dX4_readPerson_6 ?_
  refine y_iload_n hB 0 dX4_readPerson_9 rfl rfl ?_
  refine y_bipush (v := -5) hB dX4_readPerson_10 (by decide) ?_
  refine y_icmp_eq hB 24 dX4_readPerson_12 (by decide) (by omega) (by omega) (fun c_12 => ?_) (fun c_12 => ?_)
  · refine y_iconst (v := 0) hB dX4_readPerson_24 rfl ?_
    exact m_wi hB hE dX4_readPerson_25 rfl (PsI_bad htx (by rw [pP_1 c_12]) (by rw [pP_1 c_12]))
  · refine y_aload_n hB 1 dX4_readPerson_15 rfl rfl ?_
    refine y_bipush (v := 114) hB dX4_readPerson_16 (by decide) ?_
    refine m_V hB msX4_takes q306 (tX4_takes _ G b (up2 C 507 4 (agA t n a)) S t n (agA t n a) 114 (TxS_at (htx)) hb (by omega) (by omega)) (t := 9) (by decide) (by decide) rfl rfl rfl rfl rfl ⟨Nat.le_of_ble_eq_true rfl, Nat.le_of_ble_eq_true rfl⟩ (Nat.le_of_ble_eq_true rfl) ⟨rfl, rfl⟩ ⟨Nat.le_of_ble_eq_true rfl, Nat.le_of_ble_eq_true rfl⟩ dX4_readPerson_18 (k_WI (fun v_18 C_18 h_18 => ?_))
    obtain ⟨rfl, rfl⟩ := h_18
    rw [up2_2]
    have hg_18 := hT_b t n (agA t n a) 114
    refine y_if_ne hB 26 dX4_readPerson_21 (by decide) (by omega) (fun c_21 => ?_) (fun c_21 => ?_)
    · refine y_aload_n hB 1 dX4_readPerson_26 rfl rfl ?_
      refine y_iconst (v := 1) hB dX4_readPerson_27 rfl ?_
      refine y_bipush (v := 9) hB dX4_readPerson_28 (by decide) ?_
      refine m_V hB msX4_takeDigit q298 (tX4_takeDigit _ G b (up2 C 507 4 (hA t n (agA t n a) 114)) S t n (hA t n (agA t n a) 114) 1 9 (TxS_at (htx)) hb (by omega) (by omega) (by omega)) (t := 9) (by decide) (by decide) rfl rfl rfl rfl rfl ⟨Nat.le_of_ble_eq_true rfl, Nat.le_of_ble_eq_true rfl⟩ (Nat.le_of_ble_eq_true rfl) ⟨rfl, rfl⟩ ⟨Nat.le_of_ble_eq_true rfl, Nat.le_of_ble_eq_true rfl⟩ dX4_readPerson_30 (k_WI (fun v_30 C_30 h_30 => ?_))
      obtain ⟨rfl, rfl⟩ := h_30
      rw [up2_2]
      have hg_30 := gV_b t n (hA t n (agA t n a) 114) 1 9
      refine y_istore (lv' := [(4, .int (iI (gV t n (hA t n (agA t n a) 114) 1 9))), (3, .int (iI (agV t n a))), (0, .ref (ad b (507))), (1, .ref (ad b (q))), (2, .int (iI (d)))]) hB dX4_readPerson_33 (by decide) rfl ?_
      refine y_iload hB 0 dX4_readPerson_35 rfl ?_
      refine y_bipush (v := -5) hB dX4_readPerson_37 (by decide) ?_
      refine y_icmp_ne hB 44 dX4_readPerson_39 (by decide) (by omega) (by omega) (fun c_39 => ?_) (fun c_39 => ?_)
      · refine y_aload_n hB 3 dX4_readPerson_44 rfl rfl ?_
        refine y_iload_n hB 1 dX4_readPerson_45 rfl rfl ?_
        refine y_iload hB 0 dX4_readPerson_46 rfl ?_
        refine m_V hB msX2_begin q310 (tX2_begin _ G b (up2 C 507 4 (gA t n (hA t n (agA t n a) 114) 1 9)) S q (agV t n a) (gV t n (hA t n (agA t n a) 114) 1 9) (hq).1) (t := 5) (hq).1 (by decide) rfl rfl rfl rfl rfl ⟨Nat.le_of_ble_eq_true rfl, Nat.le_of_ble_eq_true rfl⟩ (Nat.le_of_ble_eq_true rfl) ⟨rfl, rfl⟩ ⟨Nat.le_of_ble_eq_true rfl, Nat.le_of_ble_eq_true rfl⟩ dX4_readPerson_48 (k_WV (fun C_48 h_48 => ?_))
        obtain rfl := h_48
        refine y_iconst (v := 0) hB dX4_readPerson_51 rfl ?_
        refine y_istore (lv' := [(5, .int (iI (0))), (4, .int (iI (gV t n (hA t n (agA t n a) 114) 1 9))), (3, .int (iI (agV t n a))), (0, .ref (ad b (507))), (1, .ref (ad b (q))), (2, .int (iI (d)))]) hB dX4_readPerson_52 (by decide) rfl ?_
        have LOOP_54 : ∀ (fu : Nat) (i p : Int) (s f : Int → Int) (CM : gM), (0 ≤ i ∧ i ≤ 8) → (0 ≤ p ∧ p ≤ 60) → (fsP t n 8 (gA t n (hA t n (agA t n a) 114) 1 9) 0 (fun _ => 0) (fun _ => 0) = fsP t n (8 - i).toNat p i s f) → (RdI C CM t n q d (agV t n a) (gV t n (hA t n (agA t n a) 114) 1 9) i p s f) → 8 - i < (fu : Int) → YM x G b 0 0 CM S 54 [(0, .ref (ad b (507))), (1, .ref (ad b (q))), (2, .int (iI (d))), (5, .int (iI (i)))] [] := by
          intro fu
          induction fu with
          | zero => intro i p s f CM hi hp hF hR hm_54; exfalso; omega
          | succ fu ih_54 =>
            intro i p s f CM hi hp hF hR hm_54
            have htxM := hR.1
            have hR6 := hR.2.1
            have hf8 : i < 8 → (8 - i).toNat = (8 - (i + 1)).toNat + 1 := fun _ => (by omega)
            refine y_iload hB 3 dX4_readPerson_54 rfl ?_
            refine y_bipush (v := 8) hB dX4_readPerson_56 (by decide) ?_
            refine y_icmp_ge hB 87 dX4_readPerson_58 (by decide) (by omega) (by omega) (fun c_58 => ?_) (fun c_58 => ?_)
            · refine y_iconst (v := 1) hB dX4_readPerson_87 rfl ?_
              exact m_wi hB hE dX4_readPerson_88 rfl (PsI_of hR (by rw [pP_4 c_12 (by omega) c_39 rfl, hF, show (8 - i).toNat = 0 by omega]; rfl))
            · refine y_aload_n hB 0 dX4_readPerson_61 rfl rfl ?_
              refine y_bipush (v := 44) hB dX4_readPerson_62 (by decide) ?_
              refine m_V hB msX4_takes q306 (tX4_takes _ G b CM S t n p 44 (htxM) hb (by omega) (by omega)) (t := 9) (by decide) (by decide) rfl rfl rfl rfl rfl ⟨Nat.le_of_ble_eq_true rfl, Nat.le_of_ble_eq_true rfl⟩ (Nat.le_of_ble_eq_true rfl) ⟨rfl, rfl⟩ ⟨Nat.le_of_ble_eq_true rfl, Nat.le_of_ble_eq_true rfl⟩ dX4_readPerson_64 (k_WI (fun v_64 C_64 h_64 => ?_))
              obtain ⟨rfl, rfl⟩ := h_64
              have hg_64 := hT_b t n p 44
              refine y_if_eq hB 87 dX4_readPerson_67 (by decide) (by omega) (fun c_67 => ?_) (fun c_67 => ?_)
              · refine y_iconst (v := 1) hB dX4_readPerson_87 rfl ?_
                exact m_wi hB hE dX4_readPerson_88 rfl (PsI_of (RdI_at hR hq5) (by rw [pP_4 c_12 (by omega) c_39 rfl, hF, hf8 (by omega), fsP_end (by omega)]))
              · refine y_aload_n hB 0 dX4_readPerson_70 rfl rfl ?_
                refine y_aload_n hB 1 dX4_readPerson_71 rfl rfl ?_
                refine y_iload_n hB 2 dX4_readPerson_72 rfl rfl ?_
                refine m_V hB msX4_readFact q311 (tX4_readFact _ G b (up2 CM 507 4 (hA t n p 44)) S t n (hA t n p 44) q d (TxS_at (htxM)) hb (by omega) hq hq5 (by rw [rd_k (by omega)]; omega)) (t := 9) (by decide) (by decide) rfl rfl rfl rfl rfl ⟨Nat.le_of_ble_eq_true rfl, Nat.le_of_ble_eq_true rfl⟩ (Nat.le_of_ble_eq_true rfl) ⟨rfl, rfl⟩ ⟨Nat.le_of_ble_eq_true rfl, Nat.le_of_ble_eq_true rfl⟩ dX4_readPerson_73 (k_WI (fun v_73 C_73 h_73 => ?_))
                have hfb := f_b t n (hA t n p 44)
                refine y_if_ne hB 81 dX4_readPerson_76 (by decide) (by omega) (fun c_76 => ?_) (fun c_76 => ?_)
                · have hok : fOk t n (hA t n p 44) = 1 := (by rcases h_73 with g | g <;> omega)
                  have hC := (h_73.resolve_right (fun z => by have h9 := z.1; omega)).2.2
                  refine y_iinc (v := i + 1) (lv' := [(5, .int (iI (i + 1))), (0, .ref (ad b (507))), (1, .ref (ad b (q))), (2, .int (iI (d)))]) hB 3 dX4_readPerson_81 rfl (by omega) (by decide) rfl ?_
                  refine y_goto hB 54 dX4_readPerson_84 (by decide) ?_
                  refine y_sub (lv' := [(0, .ref (ad b (507))), (1, .ref (ad b (q))), (2, .int (iI (d))), (5, .int (iI (i + 1)))]) [1, 2, 3, 0] rfl ?_
                  exact ih_54 (i + 1) (fA t n (hA t n p 44)) (up1 s i (fS t n (hA t n p 44))) (up1 f i (fL t n (hA t n p 44))) _ (by omega) (by omega) (by rw [hF, hf8 (by omega), fsP_ok (by omega) hok]) (RdI_fact (RdI_at hR hq5) hq5 hi.1 hC) (by omega)
                · have hok : fOk t n (hA t n p 44) = 0 := (by rcases h_73 with g | g <;> omega)
                  have hC : C_73 = up2 (up2 CM 507 4 (hA t n p 44)) 507 4 (fA t n (hA t n p 44)) := (by rcases h_73 with g | g; exact absurd g.1 (by omega); exact g.2.2)
                  refine y_iconst (v := 0) hB dX4_readPerson_79 rfl ?_
                  exact m_wi hB hE dX4_readPerson_80 rfl (by rw [hC]; exact PsI_no (RdI_at (RdI_at hR hq5) hq5) (by rw [pP_4 c_12 (by omega) c_39 rfl, hF, hf8 (by omega), fsP_bad (by omega) hok]) (by rw [pP_4 c_12 (by omega) c_39 rfl, hF, hf8 (by omega), fsP_bad (by omega) hok]))
        refine y_sub (lv' := [(0, .ref (ad b (507))), (1, .ref (ad b (q))), (2, .int (iI (d))), (5, .int (iI (0)))]) [3, 4, 5, 0] rfl ?_
        exact LOOP_54 (((8 : Int)).toNat + 1) 0 (gA t n (hA t n (agA t n a) 114) 1 9) (fun _ => 0) (fun _ => 0) _ (by omega) (by omega) rfl (RdI_0 htx hq5) (by omega)
      · refine y_iconst (v := 0) hB dX4_readPerson_42 rfl ?_
        exact m_wi hB hE dX4_readPerson_43 rfl (PsI_bad htx (by rw [pP_3 c_12 (by omega) c_39]) (by rw [pP_3 c_12 (by omega) c_39]))
    · refine y_iconst (v := 0) hB dX4_readPerson_24 rfl ?_
      exact m_wi hB hE dX4_readPerson_25 rfl (PsI_bad htx (by rw [pP_2 c_12 (by omega)]) (by rw [pP_2 c_12 (by omega)]))
