set_option maxHeartbeats 4000000 in
theorem tL_isLife (l : Launch) (G : gG) (b : Nat) (C S : gM) (u N : Int) (hI : Iv C N) (hN : N ≤ 500) (hu : 0 ≤ u ∧ u < C 1 3) : Ct l G b yL_isLife cL_isLife 11 (some .boolean) rmL_isLife [.ref (ad b (0)), .int (iI (u))] 578 (wM G b C S) (RI G b C S (fun v => v = 1)) := by
  refine CtK_of (by decide) (Nat.le_of_ble_eq_true rfl) q501 ?_
  intro x hl hB hE _
  subst hl
  show YM x G b 0 0 C S 0 [(0, .ref (ad b (0))), (1, .int (iI (u)))] []
  have hlf := (hI.lf hu).2.2.2.2.2.2.2.2
  have hbT := bc_0 hI
  have hb6 := bp_3 hI hu
  have htr := hI.1.2.2.2.2.2.2.2.2.2.1
  have hL2 := hI.2.2.2 u hu.1 hu.2
  unfold Lf2 at hL2
  have hrd := rd_or C u
  have hur := ur_or C u
  have hL4 : C (4 * u + 5) 2 ≠ 0 → 0 ≤ C (4 * u + 5) 4 := (hI.lf hu).2.2.2.2.2.2.2.1
  have hps : ∀ j : Int, 0 ≤ j → j < C (4 * u + 5) 6 → pos32 ((fun j => FP.fmul (WF (C (1 + 2) (C (4 * u + 5 + 1) j)) (C 1 4 - C (4 * u + 5 + 3) j)) (FP.i2f (iI (C (4 * u + 5 + 2) j)))) j) := fun j a1 a2 => by
    obtain ⟨hf1, hf2, hf3⟩ := hlf j a1 a2
    exact pos_fmul (fin_WF (htr _ hf1) (by omega)) (fin_lines (by omega))
  refine y_fconst0 hB dL_isLife_0 ?_
  refine y_fstore_n (lv' := [(2, .float (FP.fconst0)), (0, .ref (ad b (0))), (1, .int (iI (u)))]) hB dL_isLife_1 rfl (by decide) rfl ?_
  refine y_iconst (v := 0) hB dL_isLife_2 rfl ?_
  refine y_istore_n (lv' := [(3, .int (iI (0))), (2, .float (FP.fconst0)), (0, .ref (ad b (0))), (1, .int (iI (u)))]) hB dL_isLife_3 rfl (by decide) rfl ?_
  refine y_iconst (v := 0) hB dL_isLife_4 rfl ?_
  refine y_istore (lv' := [(4, .int (iI (0))), (3, .int (iI (0))), (2, .float (FP.fconst0)), (0, .ref (ad b (0))), (1, .int (iI (u)))]) hB dL_isLife_5 (by decide) rfl ?_
  refine y_iconst (v := 0) hB dL_isLife_7 rfl ?_
  refine y_istore (lv' := [(5, .int (iI (0))), (4, .int (iI (0))), (3, .int (iI (0))), (2, .float (FP.fconst0)), (0, .ref (ad b (0))), (1, .int (iI (u)))]) hB dL_isLife_8 (by decide) rfl ?_
  refine y_iconst (v := 1) hB dL_isLife_10 rfl ?_
  refine y_istore (lv' := [(6, .int (iI (1))), (5, .int (iI (0))), (4, .int (iI (0))), (3, .int (iI (0))), (2, .float (FP.fconst0)), (0, .ref (ad b (0))), (1, .int (iI (u)))]) hB dL_isLife_11 (by decide) rfl ?_
  refine y_iconst (v := 0) hB dL_isLife_13 rfl ?_
  refine y_istore (lv' := [(7, .int (iI (0))), (6, .int (iI (1))), (5, .int (iI (0))), (4, .int (iI (0))), (3, .int (iI (0))), (2, .float (FP.fconst0)), (0, .ref (ad b (0))), (1, .int (iI (u)))]) hB dL_isLife_14 (by decide) rfl ?_
  have LOOP_16 : ∀ (fu : Nat) (k ln st sr : Int) (w : UInt32), (0 ≤ k ∧ k ≤ C (4 * u + 5) 6) → (w = wsI (fun j => FP.fmul (WF (C (1 + 2) (C (4 * u + 5 + 1) j)) (C 1 4 - C (4 * u + 5 + 3) j)) (FP.i2f (iI (C (4 * u + 5 + 2) j)))) k) → (ln = smI (C (4 * u + 5 + 2)) k) → (st = smI (fst C 1 (4 * u + 5) (C 1 4)) k) → (sr = mkI (C (4 * u + 5 + 1)) k) → C (4 * u + 5) 6 - k < (fu : Int) → YM x G b 0 0 C S 16 [(0, .ref (ad b (0))), (1, .int (iI (u))), (2, .float (w)), (3, .int (iI (ln))), (4, .int (iI (st))), (5, .int (iI (sr))), (6, .int (iI (1))), (7, .int (iI (k)))] [] := by
    intro fu
    induction fu with
    | zero => intro k ln st sr w hk hw hln hst hsr hm_16; exfalso; omega
    | succ fu ih_16 =>
      intro k ln st sr w hk hw hln hst hsr hm_16
      have hsb : 0 ≤ sr ∧ sr < 64 := by rw [hsr]; exact mkI_lt (fun j h1 h2 => (hlf j h1 (by omega)).1)
      refine y_iload hB 7 dL_isLife_16 rfl ?_
      refine y_aload_n hB 0 dL_isLife_18 rfl rfl ?_
      refine y_iload_n hB 1 dL_isLife_19 rfl rfl ?_
      refine y_iconst (v := 3) hB dL_isLife_20 rfl ?_
      refine m_V hB msX6_person q364 (sp_3 _ G b C C S u N (Sc.rf C) hI (by omega) (by omega)) (t := 0) (by decide) (by decide) rfl rfl rfl rfl rfl ⟨Nat.le_of_ble_eq_true rfl, Nat.le_of_ble_eq_true rfl⟩ (Nat.le_of_ble_eq_true rfl) ⟨rfl, rfl⟩ ⟨Nat.le_of_ble_eq_true rfl, Nat.le_of_ble_eq_true rfl⟩ dL_isLife_21 (k_RI (fun v_21 h_21 => ?_))
      have hb_21 := bp_3 hI (u := u) (by omega)
      refine y_icmp_ge hB 200 dL_isLife_24 (by decide) (by omega) (by omega) (fun c_24 => ?_) (fun c_24 => ?_)
      · have hke : k = C (4 * u + 5) 6 := by omega
        have hE1 : w = lwU C u := by rw [hw, hke]; rfl
        have hE4 : ln = lnI C u := by rw [hln, hke]; rfl
        have hE5 : st = stU C u := by rw [hst, hke]; rfl
        have hE6 : sr = mkI (C (4 * u + 5 + 1)) (C (4 * u + 5) 6) := by rw [hsr, hke]
        have hb4 := bp_4 hI hu
        have hb5 := bp_5 hI hu
        refine y_iconst (v := 0) hB dL_isLife_200 rfl ?_
        refine y_istore (lv' := [(7, .int (iI (0))), (0, .ref (ad b (0))), (1, .int (iI (u))), (2, .float (w)), (3, .int (iI (ln))), (4, .int (iI (st))), (5, .int (iI (sr))), (6, .int (iI (1)))]) hB dL_isLife_201 (by decide) rfl ?_
        refine y_iconst (v := 0) hB dL_isLife_203 rfl ?_
        refine y_istore (lv' := [(8, .int (iI (0))), (7, .int (iI (0))), (0, .ref (ad b (0))), (1, .int (iI (u))), (2, .float (w)), (3, .int (iI (ln))), (4, .int (iI (st))), (5, .int (iI (sr))), (6, .int (iI (1)))]) hB dL_isLife_204 (by decide) rfl ?_
        have LOOP_206 : ∀ (fu : Nat) (j s2 : Int), (0 ≤ j ∧ j ≤ 6) → (s2 = smI (fun k => sr / p2 k % 2) j) → 6 - j < (fu : Int) → YM x G b 0 0 C S 206 [(0, .ref (ad b (0))), (1, .int (iI (u))), (2, .float (w)), (3, .int (iI (ln))), (4, .int (iI (st))), (5, .int (iI (sr))), (6, .int (iI (1))), (7, .int (iI (s2))), (8, .int (iI (j)))] [] := by
          intro fu
          induction fu with
          | zero => intro j s2 hj hs2 hm_206; exfalso; omega
          | succ fu ih_206 =>
            intro j s2 hj hs2 hm_206
            refine y_iload hB 8 dL_isLife_206 rfl ?_
            refine y_bipush (v := 6) hB dL_isLife_208 (by decide) ?_
            refine y_icmp_ge hB 231 dL_isLife_210 (by decide) (by omega) (by omega) (fun c_210 => ?_) (fun c_210 => ?_)
            · have hE7 : s2 = scU C u := by rw [hs2, show j = 6 by omega, hE6]; rfl
              have hb6s := bp_6 hI hu
              refine y_iload hB 6 dL_isLife_231 rfl ?_
              refine y_if_eq hB 314 dL_isLife_233 (by decide) (by omega) (fun c_233 => ?_) (fun c_233 => ?_)
              · exfalso
                omega
              · refine y_aload_n hB 0 dL_isLife_236 rfl rfl ?_
                refine y_iload_n hB 1 dL_isLife_237 rfl rfl ?_
                refine m_V hB msX6_worth q537 (s_worth _ G b C C S u N (Sc.rf C) hI (by omega) (by omega)) (t := 0) (by decide) (by decide) rfl rfl rfl rfl rfl ⟨Nat.le_of_ble_eq_true rfl, Nat.le_of_ble_eq_true rfl⟩ (Nat.le_of_ble_eq_true rfl) ⟨rfl, rfl⟩ ⟨Nat.le_of_ble_eq_true rfl, Nat.le_of_ble_eq_true rfl⟩ dL_isLife_238 (k_RF (fun v_238 h_238 => ?_))
                refine y_fload_n hB 2 dL_isLife_241 rfl rfl ?_
                refine y_fcmp hB dL_isLife_242 ?_
                have hcm : cmpI (FP.fcmp v_238 w) .l = 0 := by rw [h_238, hE1]; exact self0 (pos_wsI hps)
                refine y_if_ne hB 314 dL_isLife_243 (by decide) (by omega) (fun c_243 => ?_) (fun c_243 => ?_)
                · exfalso
                  omega
                · refine y_aload_n hB 0 dL_isLife_246 rfl rfl ?_
                  refine y_iload_n hB 1 dL_isLife_247 rfl rfl ?_
                  refine y_iconst (v := 4) hB dL_isLife_248 rfl ?_
                  refine m_V hB msX6_person q364 (sp_4 _ G b C C S u N (Sc.rf C) hI (by omega) (by omega)) (t := 0) (by decide) (by decide) rfl rfl rfl rfl rfl ⟨Nat.le_of_ble_eq_true rfl, Nat.le_of_ble_eq_true rfl⟩ (Nat.le_of_ble_eq_true rfl) ⟨rfl, rfl⟩ ⟨Nat.le_of_ble_eq_true rfl, Nat.le_of_ble_eq_true rfl⟩ dL_isLife_249 (k_RI (fun v_249 h_249 => ?_))
                  have hb_249 := bp_4 hI (u := u) (by omega)
                  refine y_iload_n hB 3 dL_isLife_252 rfl rfl ?_
                  refine y_icmp_ne hB 314 dL_isLife_253 (by decide) (by omega) (by omega) (fun c_253 => ?_) (fun c_253 => ?_)
                  · exfalso
                    omega
                  · refine y_aload_n hB 0 dL_isLife_256 rfl rfl ?_
                    refine y_iload_n hB 1 dL_isLife_257 rfl rfl ?_
                    refine y_iconst (v := 5) hB dL_isLife_258 rfl ?_
                    refine m_V hB msX6_person q364 (sp_5 _ G b C C S u N (Sc.rf C) hI (by omega) (by omega)) (t := 0) (by decide) (by decide) rfl rfl rfl rfl rfl ⟨Nat.le_of_ble_eq_true rfl, Nat.le_of_ble_eq_true rfl⟩ (Nat.le_of_ble_eq_true rfl) ⟨rfl, rfl⟩ ⟨Nat.le_of_ble_eq_true rfl, Nat.le_of_ble_eq_true rfl⟩ dL_isLife_259 (k_RI (fun v_259 h_259 => ?_))
                    have hb_259 := bp_5 hI (u := u) (by omega)
                    refine y_iload hB 4 dL_isLife_262 rfl ?_
                    refine y_icmp_ne hB 314 dL_isLife_264 (by decide) (by omega) (by omega) (fun c_264 => ?_) (fun c_264 => ?_)
                    · exfalso
                      omega
                    · refine y_aload_n hB 0 dL_isLife_267 rfl rfl ?_
                      refine y_iload_n hB 1 dL_isLife_268 rfl rfl ?_
                      refine y_bipush (v := 6) hB dL_isLife_269 (by decide) ?_
                      refine m_V hB msX6_person q364 (sp_6 _ G b C C S u N (Sc.rf C) hI (by omega) (by omega)) (t := 0) (by decide) (by decide) rfl rfl rfl rfl rfl ⟨Nat.le_of_ble_eq_true rfl, Nat.le_of_ble_eq_true rfl⟩ (Nat.le_of_ble_eq_true rfl) ⟨rfl, rfl⟩ ⟨Nat.le_of_ble_eq_true rfl, Nat.le_of_ble_eq_true rfl⟩ dL_isLife_271 (k_RI (fun v_271 h_271 => ?_))
                      have hb_271 := bp_6 hI (u := u) (by omega)
                      refine y_iload hB 7 dL_isLife_274 rfl ?_
                      refine y_icmp_ne hB 314 dL_isLife_276 (by decide) (by omega) (by omega) (fun c_276 => ?_) (fun c_276 => ?_)
                      · exfalso
                        omega
                      · have JOIN_317 : ∀ (_x : Int), YM x G b 0 0 C S 317 [(0, .ref (ad b (0))), (1, .int (iI (u))), (4, .int (iI (st))), (6, .int (iI (1)))] [] := by
                          intro _x 
                          refine y_aload_n hB 0 dL_isLife_317 rfl rfl ?_
                          refine y_iload_n hB 1 dL_isLife_318 rfl rfl ?_
                          refine y_iconst (v := 2) hB dL_isLife_319 rfl ?_
                          refine m_V hB msX6_person q364 (sp_2 _ G b C C S u N (Sc.rf C) hI (by omega) (by omega)) (t := 0) (by decide) (by decide) rfl rfl rfl rfl rfl ⟨Nat.le_of_ble_eq_true rfl, Nat.le_of_ble_eq_true rfl⟩ (Nat.le_of_ble_eq_true rfl) ⟨rfl, rfl⟩ ⟨Nat.le_of_ble_eq_true rfl, Nat.le_of_ble_eq_true rfl⟩ dL_isLife_320 (k_RI (fun v_320 h_320 => ?_))
                          have hb_320 := bp_2 hI (u := u) (by omega)
                          refine y_istore (lv' := [(8, .int (iI (v_320))), (0, .ref (ad b (0))), (1, .int (iI (u))), (4, .int (iI (st))), (6, .int (iI (1)))]) hB dL_isLife_323 (by decide) rfl ?_
                          refine y_iload hB 4 dL_isLife_325 rfl ?_
                          refine y_if_eq hB 452 dL_isLife_327 (by decide) (by omega) (fun c_327 => ?_) (fun c_327 => ?_)
                          · exfalso
                            omega
                          · have JOIN_387 : ∀ (_x : Int), YM x G b 0 0 C S 387 [(0, .ref (ad b (0))), (1, .int (iI (u))), (8, .int (iI (v_320)))] [] := by
                              intro _x 
                              have JOIN_417 : ∀ (_x : Int), YM x G b 0 0 C S 417 [(0, .ref (ad b (0))), (1, .int (iI (u))), (8, .int (iI (v_320)))] [] := by
                                intro _x 
                                refine y_aload_n hB 0 dL_isLife_417 rfl rfl ?_
                                refine y_iload_n hB 1 dL_isLife_418 rfl rfl ?_
                                refine y_bipush (v := 9) hB dL_isLife_419 (by decide) ?_
                                refine m_V hB msX6_person q364 (sp_9 _ G b C C S u N (Sc.rf C) hI (by omega) (by omega)) (t := 0) (by decide) (by decide) rfl rfl rfl rfl rfl ⟨Nat.le_of_ble_eq_true rfl, Nat.le_of_ble_eq_true rfl⟩ (Nat.le_of_ble_eq_true rfl) ⟨rfl, rfl⟩ ⟨Nat.le_of_ble_eq_true rfl, Nat.le_of_ble_eq_true rfl⟩ dL_isLife_421 (k_RI (fun v_421 h_421 => ?_))
                                have hb_421 := bp_9 hI (u := u) (by omega)
                                refine y_bipush (v := -5) hB dL_isLife_424 (by decide) ?_
                                refine y_icmp_ne hB 433 dL_isLife_426 (by decide) (by omega) (by omega) (fun c_426 => ?_) (fun c_426 => ?_)
                                · refine y_iconst (v := 0) hB dL_isLife_433 rfl ?_
                                  refine y_iload hB 2 dL_isLife_434 rfl ?_
                                  refine y_iconst (v := 3) hB dL_isLife_436 rfl ?_
                                  refine y_icmp_ge hB 444 dL_isLife_437 (by decide) (by omega) (by omega) (fun c_437 => ?_) (fun c_437 => ?_)
                                  · refine y_iconst (v := 0) hB dL_isLife_444 rfl ?_
                                    refine y_icmp_ne hB 452 dL_isLife_445 (by decide) (by omega) (by omega) (fun c_445 => ?_) (fun c_445 => ?_)
                                    · exfalso
                                      omega
                                    · refine y_iconst (v := 1) hB dL_isLife_448 rfl ?_
                                      refine y_goto hB 453 dL_isLife_449 (by decide) ?_
                                      exact m_ri hB hE dL_isLife_453 rfl (by omega)
                                  · refine y_iconst (v := 1) hB dL_isLife_440 rfl ?_
                                    refine y_goto hB 445 dL_isLife_441 (by decide) ?_
                                    refine y_icmp_ne hB 452 dL_isLife_445 (by decide) (by omega) (by omega) (fun c_445 => ?_) (fun c_445 => ?_)
                                    · exfalso
                                      omega
                                    · exfalso
                                      omega
                                · refine y_iconst (v := 1) hB dL_isLife_429 rfl ?_
                                  refine y_goto hB 434 dL_isLife_430 (by decide) ?_
                                  refine y_iload hB 2 dL_isLife_434 rfl ?_
                                  refine y_iconst (v := 3) hB dL_isLife_436 rfl ?_
                                  refine y_icmp_ge hB 444 dL_isLife_437 (by decide) (by omega) (by omega) (fun c_437 => ?_) (fun c_437 => ?_)
                                  · refine y_iconst (v := 0) hB dL_isLife_444 rfl ?_
                                    refine y_icmp_ne hB 452 dL_isLife_445 (by decide) (by omega) (by omega) (fun c_445 => ?_) (fun c_445 => ?_)
                                    · exfalso
                                      omega
                                    · exfalso
                                      omega
                                  · refine y_iconst (v := 1) hB dL_isLife_440 rfl ?_
                                    refine y_goto hB 445 dL_isLife_441 (by decide) ?_
                                    refine y_icmp_ne hB 452 dL_isLife_445 (by decide) (by omega) (by omega) (fun c_445 => ?_) (fun c_445 => ?_)
                                    · exfalso
                                      omega
                                    · refine y_iconst (v := 1) hB dL_isLife_448 rfl ?_
                                      refine y_goto hB 453 dL_isLife_449 (by decide) ?_
                                      exact m_ri hB hE dL_isLife_453 rfl (by omega)
                              refine y_aload_n hB 0 dL_isLife_387 rfl rfl ?_
                              refine y_iload_n hB 1 dL_isLife_388 rfl rfl ?_
                              refine y_bipush (v := 8) hB dL_isLife_389 (by decide) ?_
                              refine m_V hB msX6_person q364 (sp_8 _ G b C C S u N (Sc.rf C) hI (by omega) (by omega)) (t := 0) (by decide) (by decide) rfl rfl rfl rfl rfl ⟨Nat.le_of_ble_eq_true rfl, Nat.le_of_ble_eq_true rfl⟩ (Nat.le_of_ble_eq_true rfl) ⟨rfl, rfl⟩ ⟨Nat.le_of_ble_eq_true rfl, Nat.le_of_ble_eq_true rfl⟩ dL_isLife_391 (k_RI (fun v_391 h_391 => ?_))
                              have hb_391 := bp_8 hI (u := u) (by omega)
                              refine y_bipush (v := -5) hB dL_isLife_394 (by decide) ?_
                              refine y_icmp_ne hB 403 dL_isLife_396 (by decide) (by omega) (by omega) (fun c_396 => ?_) (fun c_396 => ?_)
                              · refine y_iconst (v := 0) hB dL_isLife_403 rfl ?_
                                refine y_iload hB 2 dL_isLife_404 rfl ?_
                                refine y_if_ne hB 413 dL_isLife_406 (by decide) (by omega) (fun c_406 => ?_) (fun c_406 => ?_)
                                · refine y_iconst (v := 0) hB dL_isLife_413 rfl ?_
                                  refine y_icmp_ne hB 452 dL_isLife_414 (by decide) (by omega) (by omega) (fun c_414 => ?_) (fun c_414 => ?_)
                                  · exfalso
                                    omega
                                  · exact JOIN_417 0
                                · refine y_iconst (v := 1) hB dL_isLife_409 rfl ?_
                                  refine y_goto hB 414 dL_isLife_410 (by decide) ?_
                                  refine y_icmp_ne hB 452 dL_isLife_414 (by decide) (by omega) (by omega) (fun c_414 => ?_) (fun c_414 => ?_)
                                  · exfalso
                                    omega
                                  · exfalso
                                    omega
                              · refine y_iconst (v := 1) hB dL_isLife_399 rfl ?_
                                refine y_goto hB 404 dL_isLife_400 (by decide) ?_
                                refine y_iload hB 2 dL_isLife_404 rfl ?_
                                refine y_if_ne hB 413 dL_isLife_406 (by decide) (by omega) (fun c_406 => ?_) (fun c_406 => ?_)
                                · refine y_iconst (v := 0) hB dL_isLife_413 rfl ?_
                                  refine y_icmp_ne hB 452 dL_isLife_414 (by decide) (by omega) (by omega) (fun c_414 => ?_) (fun c_414 => ?_)
                                  · exfalso
                                    omega
                                  · exfalso
                                    omega
                                · refine y_iconst (v := 1) hB dL_isLife_409 rfl ?_
                                  refine y_goto hB 414 dL_isLife_410 (by decide) ?_
                                  refine y_icmp_ne hB 452 dL_isLife_414 (by decide) (by omega) (by omega) (fun c_414 => ?_) (fun c_414 => ?_)
                                  · exfalso
                                    omega
                                  · exact JOIN_417 0
                            refine y_aload_n hB 1 dL_isLife_330 rfl rfl ?_
                            refine y_iload_n hB 2 dL_isLife_331 rfl rfl ?_
                            refine y_bipush (v := 7) hB dL_isLife_332 (by decide) ?_
                            refine m_V hB msX6_person q364 (sp_7 _ G b C C S u N (Sc.rf C) hI (by omega) (by omega)) (t := 0) (by decide) (by decide) rfl rfl rfl rfl rfl ⟨Nat.le_of_ble_eq_true rfl, Nat.le_of_ble_eq_true rfl⟩ (Nat.le_of_ble_eq_true rfl) ⟨rfl, rfl⟩ ⟨Nat.le_of_ble_eq_true rfl, Nat.le_of_ble_eq_true rfl⟩ dL_isLife_334 (k_RI (fun v_334 h_334 => ?_))
                            have hb_334 := bp_7 hI (u := u) (by omega)
                            refine y_iload hB 0 dL_isLife_337 rfl ?_
                            refine y_if_le hB 347 dL_isLife_339 (by decide) (by omega) (fun c_339 => ?_) (fun c_339 => ?_)
                            · refine y_aload_n hB 1 dL_isLife_347 rfl rfl ?_
                              refine y_iload_n hB 2 dL_isLife_348 rfl rfl ?_
                              refine y_iconst (v := 0) hB dL_isLife_349 rfl ?_
                              refine m_V hB msX6_person q364 (sp_0 _ G b C C S u N (Sc.rf C) hI (by omega) (by omega)) (t := 0) (by decide) (by decide) rfl rfl rfl rfl rfl ⟨Nat.le_of_ble_eq_true rfl, Nat.le_of_ble_eq_true rfl⟩ (Nat.le_of_ble_eq_true rfl) ⟨rfl, rfl⟩ ⟨Nat.le_of_ble_eq_true rfl, Nat.le_of_ble_eq_true rfl⟩ dL_isLife_350 (k_RI (fun v_350 h_350 => ?_))
                              have hb_350 := bp_0 hI (u := u) (by omega)
                              refine y_bipush (v := 10) hB dL_isLife_353 (by decide) ?_
                              refine y_aload_n hB 1 dL_isLife_355 rfl rfl ?_
                              refine y_iload_n hB 2 dL_isLife_356 rfl rfl ?_
                              refine y_iconst (v := 1) hB dL_isLife_357 rfl ?_
                              refine m_V hB msX6_person q364 (sp_1 _ G b C C S u N (Sc.rf C) hI (by omega) (by omega)) (t := 0) (by decide) (by decide) rfl rfl rfl rfl rfl ⟨Nat.le_of_ble_eq_true rfl, Nat.le_of_ble_eq_true rfl⟩ (Nat.le_of_ble_eq_true rfl) ⟨rfl, rfl⟩ ⟨Nat.le_of_ble_eq_true rfl, Nat.le_of_ble_eq_true rfl⟩ dL_isLife_358 (k_RI (fun v_358 h_358 => ?_))
                              have hb_358 := bp_1 hI (u := u) (by omega)
                              refine y_imul (t := 10 * v_358) hB dL_isLife_361 (by omega) ?_
                              refine y_iadd (t := v_350 + 10 * v_358) hB dL_isLife_362 (by omega) ?_
                              refine y_iconst (v := 5) hB dL_isLife_363 rfl ?_
                              refine y_iload hB 3 dL_isLife_364 rfl ?_
                              refine y_imul (t := 5 * st) hB dL_isLife_366 (by omega) ?_
                              refine y_iadd (t := 5 * st + v_350 + 10 * v_358) hB dL_isLife_367 (by omega) ?_
                              refine y_aload_n hB 1 dL_isLife_368 rfl rfl ?_
                              refine y_iload_n hB 2 dL_isLife_369 rfl rfl ?_
                              refine y_iconst (v := 3) hB dL_isLife_370 rfl ?_
                              refine m_V hB msX6_person q364 (sp_3 _ G b C C S u N (Sc.rf C) hI (by omega) (by omega)) (t := 0) (by decide) (by decide) rfl rfl rfl rfl rfl ⟨Nat.le_of_ble_eq_true rfl, Nat.le_of_ble_eq_true rfl⟩ (Nat.le_of_ble_eq_true rfl) ⟨rfl, rfl⟩ ⟨Nat.le_of_ble_eq_true rfl, Nat.le_of_ble_eq_true rfl⟩ dL_isLife_371 (k_RI (fun v_371 h_371 => ?_))
                              have hb_371 := bp_3 hI (u := u) (by omega)
                              refine y_if_ne hB 382 dL_isLife_374 (by decide) (by omega) (fun c_374 => ?_) (fun c_374 => ?_)
                              · refine y_iconst (v := 0) hB dL_isLife_382 rfl ?_
                                refine y_iadd (t := 5 * st + v_350 + 10 * v_358) hB dL_isLife_383 (by omega) ?_
                                refine y_icmp_ne hB 452 dL_isLife_384 (by decide) (by omega) (by omega) (fun c_384 => ?_) (fun c_384 => ?_)
                                · exfalso
                                  omega
                                · refine y_sub (lv' := [(0, .ref (ad b (0))), (1, .int (iI (u))), (8, .int (iI (v_320)))]) [1, 2, 0] rfl ?_
                                  exact JOIN_387 0
                              · refine y_bipush (v := 40) hB dL_isLife_377 (by decide) ?_
                                refine y_goto hB 383 dL_isLife_379 (by decide) ?_
                                refine y_iadd (t := 5 * st + v_350 + 10 * v_358 + 40) hB dL_isLife_383 (by omega) ?_
                                refine y_icmp_ne hB 452 dL_isLife_384 (by decide) (by omega) (by omega) (fun c_384 => ?_) (fun c_384 => ?_)
                                · exfalso
                                  omega
                                · refine y_sub (lv' := [(0, .ref (ad b (0))), (1, .int (iI (u))), (8, .int (iI (v_320)))]) [1, 2, 0] rfl ?_
                                  exact JOIN_387 0
                            · refine y_bipush (v := -5) hB dL_isLife_342 (by decide) ?_
                              refine y_goto hB 384 dL_isLife_344 (by decide) ?_
                              refine y_icmp_ne hB 452 dL_isLife_384 (by decide) (by omega) (by omega) (fun c_384 => ?_) (fun c_384 => ?_)
                              · exfalso
                                omega
                              · refine y_sub (lv' := [(0, .ref (ad b (0))), (1, .int (iI (u))), (8, .int (iI (v_320)))]) [1, 2, 0] rfl ?_
                                exact JOIN_387 0
                        refine y_aload_n hB 0 dL_isLife_279 rfl rfl ?_
                        refine y_iload_n hB 1 dL_isLife_280 rfl rfl ?_
                        refine y_bipush (v := 10) hB dL_isLife_281 (by decide) ?_
                        refine m_V hB msX6_person q364 (sp_10 _ G b C C S u N (Sc.rf C) hI (by omega) (by omega)) (t := 0) (by decide) (by decide) rfl rfl rfl rfl rfl ⟨Nat.le_of_ble_eq_true rfl, Nat.le_of_ble_eq_true rfl⟩ (Nat.le_of_ble_eq_true rfl) ⟨rfl, rfl⟩ ⟨Nat.le_of_ble_eq_true rfl, Nat.le_of_ble_eq_true rfl⟩ dL_isLife_283 (k_RI (fun v_283 h_283 => ?_))
                        have hb_283 := bp_10 hI (u := u) (by omega)
                        refine y_iload hB 7 dL_isLife_286 rfl ?_
                        refine y_aload_n hB 0 dL_isLife_288 rfl rfl ?_
                        refine y_bipush (v := 14) hB dL_isLife_289 (by decide) ?_
                        refine m_V hB msX6_count q462 (sc_14 _ G b C C S N (Sc.rf C) hI (by omega)) (t := 0) (by decide) (by decide) rfl rfl rfl rfl rfl ⟨Nat.le_of_ble_eq_true rfl, Nat.le_of_ble_eq_true rfl⟩ (Nat.le_of_ble_eq_true rfl) ⟨rfl, rfl⟩ ⟨Nat.le_of_ble_eq_true rfl, Nat.le_of_ble_eq_true rfl⟩ dL_isLife_291 (k_RI (fun v_291 h_291 => ?_))
                        have hb_291 := bc_14 hI
                        refine y_icmp_lt hB 306 dL_isLife_294 (by decide) (by omega) (by omega) (fun c_294 => ?_) (fun c_294 => ?_)
                        · refine y_iconst (v := 0) hB dL_isLife_306 rfl ?_
                          refine y_icmp_ne hB 314 dL_isLife_307 (by decide) (by omega) (by omega) (fun c_307 => ?_) (fun c_307 => ?_)
                          · exfalso
                            omega
                          · refine y_iconst (v := 1) hB dL_isLife_310 rfl ?_
                            refine y_goto hB 315 dL_isLife_311 (by decide) ?_
                            refine y_istore (lv' := [(6, .int (iI (1))), (0, .ref (ad b (0))), (1, .int (iI (u))), (2, .float (w)), (3, .int (iI (ln))), (4, .int (iI (st))), (5, .int (iI (sr))), (7, .int (iI (s2))), (8, .int (iI (j)))]) hB dL_isLife_315 (by decide) rfl ?_
                            refine y_sub (lv' := [(0, .ref (ad b (0))), (1, .int (iI (u))), (4, .int (iI (st))), (6, .int (iI (1)))]) [1, 2, 5, 0] rfl ?_
                            exact JOIN_317 0
                        · refine y_iload hB 4 dL_isLife_297 rfl ?_
                          refine y_if_ne hB 306 dL_isLife_299 (by decide) (by omega) (fun c_299 => ?_) (fun c_299 => ?_)
                          · refine y_iconst (v := 0) hB dL_isLife_306 rfl ?_
                            refine y_icmp_ne hB 314 dL_isLife_307 (by decide) (by omega) (by omega) (fun c_307 => ?_) (fun c_307 => ?_)
                            · exfalso
                              omega
                            · refine y_iconst (v := 1) hB dL_isLife_310 rfl ?_
                              refine y_goto hB 315 dL_isLife_311 (by decide) ?_
                              refine y_istore (lv' := [(6, .int (iI (1))), (0, .ref (ad b (0))), (1, .int (iI (u))), (2, .float (w)), (3, .int (iI (ln))), (4, .int (iI (st))), (5, .int (iI (sr))), (7, .int (iI (s2))), (8, .int (iI (j)))]) hB dL_isLife_315 (by decide) rfl ?_
                              refine y_sub (lv' := [(0, .ref (ad b (0))), (1, .int (iI (u))), (4, .int (iI (st))), (6, .int (iI (1)))]) [1, 2, 5, 0] rfl ?_
                              exact JOIN_317 0
                          · refine y_iconst (v := 1) hB dL_isLife_302 rfl ?_
                            refine y_goto hB 307 dL_isLife_303 (by decide) ?_
                            refine y_icmp_ne hB 314 dL_isLife_307 (by decide) (by omega) (by omega) (fun c_307 => ?_) (fun c_307 => ?_)
                            · exfalso
                              omega
                            · refine y_iconst (v := 1) hB dL_isLife_310 rfl ?_
                              refine y_goto hB 315 dL_isLife_311 (by decide) ?_
                              refine y_istore (lv' := [(6, .int (iI (1))), (0, .ref (ad b (0))), (1, .int (iI (u))), (2, .float (w)), (3, .int (iI (ln))), (4, .int (iI (st))), (5, .int (iI (sr))), (7, .int (iI (s2))), (8, .int (iI (j)))]) hB dL_isLife_315 (by decide) rfl ?_
                              refine y_sub (lv' := [(0, .ref (ad b (0))), (1, .int (iI (u))), (4, .int (iI (st))), (6, .int (iI (1)))]) [1, 2, 5, 0] rfl ?_
                              exact JOIN_317 0
            · refine y_iload hB 7 dL_isLife_213 rfl ?_
              refine y_iload hB 5 dL_isLife_215 rfl ?_
              refine y_iload hB 8 dL_isLife_217 rfl ?_
              refine y_ishrR hB dL_isLife_219 ?_
              refine y_iconst (v := 1) hB dL_isLife_220 rfl ?_
              refine y_iandR hB dL_isLife_221 ?_
              rw [show ((iI (sr)) >>> ((iI (j)) &&& 31)) &&& (iI (1)) = iI (sr / p2 j % 2) from bit_at hsb (by omega)]
              refine y_iadd (t := s2 + sr / p2 j % 2) hB dL_isLife_222 (by omega) ?_
              refine y_istore (lv' := [(7, .int (iI (s2 + sr / p2 j % 2))), (0, .ref (ad b (0))), (1, .int (iI (u))), (2, .float (w)), (3, .int (iI (ln))), (4, .int (iI (st))), (5, .int (iI (sr))), (6, .int (iI (1))), (8, .int (iI (j)))]) hB dL_isLife_223 (by decide) rfl ?_
              refine y_iinc (v := j + 1) (lv' := [(8, .int (iI (j + 1))), (7, .int (iI (s2 + sr / p2 j % 2))), (0, .ref (ad b (0))), (1, .int (iI (u))), (2, .float (w)), (3, .int (iI (ln))), (4, .int (iI (st))), (5, .int (iI (sr))), (6, .int (iI (1)))]) hB 8 dL_isLife_225 rfl (by omega) (by decide) rfl ?_
              refine y_goto hB 206 dL_isLife_228 (by decide) ?_
              refine y_sub (lv' := [(0, .ref (ad b (0))), (1, .int (iI (u))), (2, .float (w)), (3, .int (iI (ln))), (4, .int (iI (st))), (5, .int (iI (sr))), (6, .int (iI (1))), (7, .int (iI (s2 + sr / p2 j % 2))), (8, .int (iI (j + 1)))]) [2, 3, 4, 5, 6, 7, 8, 1, 0] rfl ?_
              exact ih_206 (j + 1) (s2 + sr / p2 j % 2) (by omega) (by rw [smI_s _ hj.1, ← hs2]) (by omega)
        refine y_sub (lv' := [(0, .ref (ad b (0))), (1, .int (iI (u))), (2, .float (w)), (3, .int (iI (ln))), (4, .int (iI (st))), (5, .int (iI (sr))), (6, .int (iI (1))), (7, .int (iI (0))), (8, .int (iI (0)))]) [2, 3, 4, 5, 6, 7, 8, 1, 0] rfl ?_
        exact LOOP_206 (((6 : Int)).toNat + 1) 0 0 (by omega) (smI_0 _).symm (by omega)
      · refine y_iload hB 6 dL_isLife_27 rfl ?_
        refine y_if_eq hB 200 dL_isLife_29 (by decide) (by omega) (fun c_29 => ?_) (fun c_29 => ?_)
        · exfalso
          omega
        · refine y_aload_n hB 0 dL_isLife_32 rfl rfl ?_
          refine y_iload_n hB 1 dL_isLife_33 rfl rfl ?_
          refine y_iload hB 7 dL_isLife_34 rfl ?_
          refine y_iconst (v := 0) hB dL_isLife_36 rfl ?_
          refine m_V hB msX6_fact q502 (sf_0 _ G b C C S u k N (Sc.rf C) hI (by omega) (by omega) (by omega)) (t := 0) (by decide) (by decide) rfl rfl rfl rfl rfl ⟨Nat.le_of_ble_eq_true rfl, Nat.le_of_ble_eq_true rfl⟩ (Nat.le_of_ble_eq_true rfl) ⟨rfl, rfl⟩ ⟨Nat.le_of_ble_eq_true rfl, Nat.le_of_ble_eq_true rfl⟩ dL_isLife_37 (k_RI (fun v_37 h_37 => ?_))
          have hb_37 := bf_0 hI (u := u) (t := k) (by omega) (by omega)
          refine y_istore (lv' := [(8, .int (iI (v_37))), (0, .ref (ad b (0))), (1, .int (iI (u))), (2, .float (w)), (3, .int (iI (ln))), (4, .int (iI (st))), (5, .int (iI (sr))), (6, .int (iI (1))), (7, .int (iI (k)))]) hB dL_isLife_40 (by decide) rfl ?_
          refine y_aload_n hB 1 dL_isLife_42 rfl rfl ?_
          refine y_iload hB 0 dL_isLife_43 rfl ?_
          refine y_iconst (v := 0) hB dL_isLife_45 rfl ?_
          refine m_V hB msX6_source q516 (ss_0 _ G b C C S v_37 N (Sc.rf C) hI (by omega) (by omega)) (t := 0) (by decide) (by decide) rfl rfl rfl rfl rfl ⟨Nat.le_of_ble_eq_true rfl, Nat.le_of_ble_eq_true rfl⟩ (Nat.le_of_ble_eq_true rfl) ⟨rfl, rfl⟩ ⟨Nat.le_of_ble_eq_true rfl, Nat.le_of_ble_eq_true rfl⟩ dL_isLife_46 (k_RI (fun v_46 h_46 => ?_))
          have hb_46 := bs_0 hI (u := v_37) (by omega)
          have hfk := hlf k (by omega) (by omega)
          refine y_i2f hB dL_isLife_49 ?_
          refine y_ldcf hB q535 dL_isLife_50 ?_
          refine y_fdiv hB dL_isLife_52 (vf_pos (fin_pos (fin_wf (k := 0) (by omega) (by omega)))) ?_
          refine y_fstore (lv' := [(9, .float (FP.fdiv (FP.i2f (iI (v_46))) 1120403456)), (8, .int (iI (v_37))), (0, .ref (ad b (0))), (1, .int (iI (u))), (2, .float (w)), (3, .int (iI (ln))), (4, .int (iI (st))), (5, .int (iI (sr))), (6, .int (iI (1))), (7, .int (iI (k)))]) hB dL_isLife_53 (by decide) rfl ?_
          refine y_bipush (v := 10) hB dL_isLife_55 (by decide) ?_
          refine y_istore (lv' := [(10, .int (iI (10))), (9, .float (FP.fdiv (FP.i2f (iI (v_46))) 1120403456)), (8, .int (iI (v_37))), (0, .ref (ad b (0))), (1, .int (iI (u))), (2, .float (w)), (3, .int (iI (ln))), (4, .int (iI (st))), (5, .int (iI (sr))), (6, .int (iI (1))), (7, .int (iI (k)))]) hB dL_isLife_57 (by decide) rfl ?_
          have LOOP_59 : ∀ (fu : Nat) (i : Int) (w1 : UInt32), (0 ≤ i ∧ 10 * i ≤ C 1 4 - C (4 * u + 5 + 3) k) → (w1 = wf v_46 i.toNat) → C 1 4 - C (4 * u + 5 + 3) k - 10 * i < (fu : Int) → YM x G b 0 0 C S 59 [(0, .ref (ad b (0))), (1, .int (iI (u))), (2, .float (w)), (3, .int (iI (ln))), (4, .int (iI (st))), (5, .int (iI (sr))), (6, .int (iI (1))), (7, .int (iI (k))), (8, .int (iI (v_37))), (9, .float (w1)), (10, .int (iI (10 * i + 10)))] [] := by
            intro fu
            induction fu with
            | zero => intro i w1 hi hw1 hm_59; exfalso; omega
            | succ fu ih_59 =>
              intro i w1 hi hw1 hm_59
              refine y_iload hB 10 dL_isLife_59 rfl ?_
              refine y_aload_n hB 0 dL_isLife_61 rfl rfl ?_
              refine y_iconst (v := 0) hB dL_isLife_62 rfl ?_
              refine m_V hB msX6_count q462 (sc_0 _ G b C C S N (Sc.rf C) hI (by omega)) (t := 0) (by decide) (by decide) rfl rfl rfl rfl rfl ⟨Nat.le_of_ble_eq_true rfl, Nat.le_of_ble_eq_true rfl⟩ (Nat.le_of_ble_eq_true rfl) ⟨rfl, rfl⟩ ⟨Nat.le_of_ble_eq_true rfl, Nat.le_of_ble_eq_true rfl⟩ dL_isLife_63 (k_RI (fun v_63 h_63 => ?_))
              have hb_63 := bc_0 hI
              refine y_aload_n hB 0 dL_isLife_66 rfl rfl ?_
              refine y_iload_n hB 1 dL_isLife_67 rfl rfl ?_
              refine y_iload hB 7 dL_isLife_68 rfl ?_
              refine y_iconst (v := 2) hB dL_isLife_70 rfl ?_
              refine m_V hB msX6_fact q502 (sf_2 _ G b C C S u k N (Sc.rf C) hI (by omega) (by omega) (by omega)) (t := 0) (by decide) (by decide) rfl rfl rfl rfl rfl ⟨Nat.le_of_ble_eq_true rfl, Nat.le_of_ble_eq_true rfl⟩ (Nat.le_of_ble_eq_true rfl) ⟨rfl, rfl⟩ ⟨Nat.le_of_ble_eq_true rfl, Nat.le_of_ble_eq_true rfl⟩ dL_isLife_71 (k_RI (fun v_71 h_71 => ?_))
              have hb_71 := bf_2 hI (u := u) (t := k) (by omega) (by omega)
              refine y_isub (t := v_63 - v_71) hB dL_isLife_74 (by omega) ?_
              refine y_icmp_gt hB 91 dL_isLife_75 (by decide) (by omega) (by omega) (fun c_75 => ?_) (fun c_75 => ?_)
              · have hW1 : w1 = WF (C (1 + 2) (C (4 * u + 5 + 1) k)) (C 1 4 - C (4 * u + 5 + 3) k) := (hw1.trans (WF_of hi.1 hi.2 (by omega))).trans (by rw [h_46, h_37, show (1 : Int) + 2 = 3 from rfl])
                refine y_aload_n hB 0 dL_isLife_91 rfl rfl ?_
                refine y_iload_n hB 1 dL_isLife_92 rfl rfl ?_
                refine y_iload hB 7 dL_isLife_93 rfl ?_
                refine y_iconst (v := 3) hB dL_isLife_95 rfl ?_
                refine m_V hB msX6_fact q502 (sf_3 _ G b C C S u k N (Sc.rf C) hI (by omega) (by omega) (by omega)) (t := 0) (by decide) (by decide) rfl rfl rfl rfl rfl ⟨Nat.le_of_ble_eq_true rfl, Nat.le_of_ble_eq_true rfl⟩ (Nat.le_of_ble_eq_true rfl) ⟨rfl, rfl⟩ ⟨Nat.le_of_ble_eq_true rfl, Nat.le_of_ble_eq_true rfl⟩ dL_isLife_96 (k_RI (fun v_96 h_96 => ?_))
                have hb_96 := bf_3 hI (u := u) (t := k) (by omega) (by omega)
                refine y_fload hB 9 dL_isLife_99 rfl ?_
                refine y_aload_n hB 0 dL_isLife_101 rfl rfl ?_
                refine y_bipush (v := 13) hB dL_isLife_102 (by decide) ?_
                refine m_V hB msX6_count q462 (sc_13 _ G b C C S N (Sc.rf C) hI (by omega)) (t := 0) (by decide) (by decide) rfl rfl rfl rfl rfl ⟨Nat.le_of_ble_eq_true rfl, Nat.le_of_ble_eq_true rfl⟩ (Nat.le_of_ble_eq_true rfl) ⟨rfl, rfl⟩ ⟨Nat.le_of_ble_eq_true rfl, Nat.le_of_ble_eq_true rfl⟩ dL_isLife_104 (k_RI (fun v_104 h_104 => ?_))
                have hb_104 := bc_13 hI
                refine y_i2f hB dL_isLife_107 ?_
                refine y_ldcf hB q535 dL_isLife_108 ?_
                refine y_fdiv hB dL_isLife_110 (vf_pos (fin_pos (fin_wf (k := 0) (t := v_104) (by omega) (by omega)))) ?_
                refine y_fcmp hB dL_isLife_111 ?_
                refine y_if_ge hB 119 dL_isLife_112 (by decide) (by have h9 := cmpI_b (FP.fcmp w1 (FP.fdiv (FP.i2f (iI v_104)) 1120403456)) .g; omega) (fun c_112 => ?_) (fun c_112 => ?_)
                · have hz := (show fst C 1 (4 * u + 5) (C 1 4) k = stI w1 (FP.fdiv (FP.i2f (iI v_104)) 1120403456) from by rw [hW1, h_104]; rfl).trans (stI_ge (by omega))
                  refine y_iconst (v := 0) hB dL_isLife_119 rfl ?_
                  refine y_icmp_ne hB 143 dL_isLife_120 (by decide) (by omega) (by omega) (fun c_120 => ?_) (fun c_120 => ?_)
                  · exfalso
                    omega
                  · refine y_aload_n hB 0 dL_isLife_123 rfl rfl ?_
                    refine y_iload_n hB 1 dL_isLife_124 rfl rfl ?_
                    refine y_iload hB 7 dL_isLife_125 rfl ?_
                    refine y_iconst (v := 2) hB dL_isLife_127 rfl ?_
                    refine m_V hB msX6_fact q502 (sf_2 _ G b C C S u k N (Sc.rf C) hI (by omega) (by omega) (by omega)) (t := 0) (by decide) (by decide) rfl rfl rfl rfl rfl ⟨Nat.le_of_ble_eq_true rfl, Nat.le_of_ble_eq_true rfl⟩ (Nat.le_of_ble_eq_true rfl) ⟨rfl, rfl⟩ ⟨Nat.le_of_ble_eq_true rfl, Nat.le_of_ble_eq_true rfl⟩ dL_isLife_128 (k_RI (fun v_128 h_128 => ?_))
                    have hb_128 := bf_2 hI (u := u) (t := k) (by omega) (by omega)
                    refine y_aload_n hB 0 dL_isLife_131 rfl rfl ?_
                    refine y_iconst (v := 0) hB dL_isLife_132 rfl ?_
                    refine m_V hB msX6_count q462 (sc_0 _ G b C C S N (Sc.rf C) hI (by omega)) (t := 0) (by decide) (by decide) rfl rfl rfl rfl rfl ⟨Nat.le_of_ble_eq_true rfl, Nat.le_of_ble_eq_true rfl⟩ (Nat.le_of_ble_eq_true rfl) ⟨rfl, rfl⟩ ⟨Nat.le_of_ble_eq_true rfl, Nat.le_of_ble_eq_true rfl⟩ dL_isLife_133 (k_RI (fun v_133 h_133 => ?_))
                    have hb_133 := bc_0 hI
                    refine y_icmp_gt hB 143 dL_isLife_136 (by decide) (by omega) (by omega) (fun c_136 => ?_) (fun c_136 => ?_)
                    · exfalso
                      omega
                    · refine y_iconst (v := 1) hB dL_isLife_139 rfl ?_
                      refine y_goto hB 144 dL_isLife_140 (by decide) ?_
                      refine y_istore (lv' := [(6, .int (iI (1))), (0, .ref (ad b (0))), (1, .int (iI (u))), (2, .float (w)), (3, .int (iI (ln))), (4, .int (iI (st))), (5, .int (iI (sr))), (7, .int (iI (k))), (8, .int (iI (v_37))), (9, .float (w1)), (10, .int (iI (10 * i + 10)))]) hB dL_isLife_144 (by decide) rfl ?_
                      refine y_fload_n hB 3 dL_isLife_146 rfl rfl ?_
                      refine y_fload hB 9 dL_isLife_147 rfl ?_
                      refine y_aload_n hB 1 dL_isLife_149 rfl rfl ?_
                      refine y_iload_n hB 2 dL_isLife_150 rfl rfl ?_
                      refine y_iload hB 7 dL_isLife_151 rfl ?_
                      refine y_iconst (v := 1) hB dL_isLife_153 rfl ?_
                      refine m_V hB msX6_fact q502 (sf_1 _ G b C C S u k N (Sc.rf C) hI (by omega) (by omega) (by omega)) (t := 0) (by decide) (by decide) rfl rfl rfl rfl rfl ⟨Nat.le_of_ble_eq_true rfl, Nat.le_of_ble_eq_true rfl⟩ (Nat.le_of_ble_eq_true rfl) ⟨rfl, rfl⟩ ⟨Nat.le_of_ble_eq_true rfl, Nat.le_of_ble_eq_true rfl⟩ dL_isLife_154 (k_RI (fun v_154 h_154 => ?_))
                      have hb_154 := bf_1 hI (u := u) (t := k) (by omega) (by omega)
                      refine y_i2f hB dL_isLife_157 ?_
                      refine y_fmul hB dL_isLife_158 (by rw [hW1, h_154]; exact vf_pos (hps k hk.1 (by omega))) ?_
                      refine y_fadd hB dL_isLife_159 (by rw [hW1, h_154, hw]; exact vf_pos (pos_fadd (pos_wsI (fun j a1 a2 => hps j a1 (by omega))) (hps k hk.1 (by omega)))) ?_
                      refine y_fstore_n (lv' := [(2, .float (FP.fadd w (FP.fmul w1 (FP.i2f (iI (v_154)))))), (6, .int (iI (1))), (0, .ref (ad b (0))), (1, .int (iI (u))), (3, .int (iI (ln))), (4, .int (iI (st))), (5, .int (iI (sr))), (7, .int (iI (k))), (8, .int (iI (v_37))), (9, .float (w1)), (10, .int (iI (10 * i + 10)))]) hB dL_isLife_160 rfl (by decide) rfl ?_
                      refine y_iload_n hB 4 dL_isLife_161 rfl rfl ?_
                      refine y_aload_n hB 2 dL_isLife_162 rfl rfl ?_
                      refine y_iload_n hB 3 dL_isLife_163 rfl rfl ?_
                      refine y_iload hB 7 dL_isLife_164 rfl ?_
                      refine y_iconst (v := 1) hB dL_isLife_166 rfl ?_
                      refine m_V hB msX6_fact q502 (sf_1 _ G b C C S u k N (Sc.rf C) hI (by omega) (by omega) (by omega)) (t := 0) (by decide) (by decide) rfl rfl rfl rfl rfl ⟨Nat.le_of_ble_eq_true rfl, Nat.le_of_ble_eq_true rfl⟩ (Nat.le_of_ble_eq_true rfl) ⟨rfl, rfl⟩ ⟨Nat.le_of_ble_eq_true rfl, Nat.le_of_ble_eq_true rfl⟩ dL_isLife_167 (k_RI (fun v_167 h_167 => ?_))
                      have hb_167 := bf_1 hI (u := u) (t := k) (by omega) (by omega)
                      refine y_iadd (t := ln + v_167) hB dL_isLife_170 (by omega) ?_
                      refine y_istore_n (lv' := [(3, .int (iI (ln + v_167))), (2, .float (FP.fadd w (FP.fmul w1 (FP.i2f (iI (v_154)))))), (6, .int (iI (1))), (0, .ref (ad b (0))), (1, .int (iI (u))), (4, .int (iI (st))), (5, .int (iI (sr))), (7, .int (iI (k))), (8, .int (iI (v_37))), (9, .float (w1)), (10, .int (iI (10 * i + 10)))]) hB dL_isLife_171 rfl (by decide) rfl ?_
                      refine y_iload hB 5 dL_isLife_172 rfl ?_
                      refine y_aload_n hB 3 dL_isLife_174 rfl rfl ?_
                      refine y_iload_n hB 4 dL_isLife_175 rfl rfl ?_
                      refine y_iload hB 7 dL_isLife_176 rfl ?_
                      refine y_iconst (v := 3) hB dL_isLife_178 rfl ?_
                      refine m_V hB msX6_fact q502 (sf_3 _ G b C C S u k N (Sc.rf C) hI (by omega) (by omega) (by omega)) (t := 0) (by decide) (by decide) rfl rfl rfl rfl rfl ⟨Nat.le_of_ble_eq_true rfl, Nat.le_of_ble_eq_true rfl⟩ (Nat.le_of_ble_eq_true rfl) ⟨rfl, rfl⟩ ⟨Nat.le_of_ble_eq_true rfl, Nat.le_of_ble_eq_true rfl⟩ dL_isLife_179 (k_RI (fun v_179 h_179 => ?_))
                      have hb_179 := bf_3 hI (u := u) (t := k) (by omega) (by omega)
                      refine y_iadd (t := st + v_179) hB dL_isLife_182 (by omega) ?_
                      refine y_istore (lv' := [(4, .int (iI (st + v_179))), (3, .int (iI (ln + v_167))), (2, .float (FP.fadd w (FP.fmul w1 (FP.i2f (iI (v_154)))))), (6, .int (iI (1))), (0, .ref (ad b (0))), (1, .int (iI (u))), (5, .int (iI (sr))), (7, .int (iI (k))), (8, .int (iI (v_37))), (9, .float (w1)), (10, .int (iI (10 * i + 10)))]) hB dL_isLife_183 (by decide) rfl ?_
                      refine y_iload hB 6 dL_isLife_185 rfl ?_
                      refine y_iconst (v := 1) hB dL_isLife_187 rfl ?_
                      refine y_iload hB 8 dL_isLife_188 rfl ?_
                      refine y_ishl1 hB (by omega) dL_isLife_190 ?_
                      refine y_ior hB hsb (p2_lt (by omega)) dL_isLife_191 ?_
                      refine y_istore (lv' := [(5, .int (iI (orI sr (p2 v_37)))), (4, .int (iI (st + v_179))), (3, .int (iI (ln + v_167))), (2, .float (FP.fadd w (FP.fmul w1 (FP.i2f (iI (v_154)))))), (6, .int (iI (1))), (0, .ref (ad b (0))), (1, .int (iI (u))), (7, .int (iI (k))), (8, .int (iI (v_37))), (9, .float (w1)), (10, .int (iI (10 * i + 10)))]) hB dL_isLife_192 (by decide) rfl ?_
                      refine y_iinc (v := k + 1) (lv' := [(7, .int (iI (k + 1))), (5, .int (iI (orI sr (p2 v_37)))), (4, .int (iI (st + v_179))), (3, .int (iI (ln + v_167))), (2, .float (FP.fadd w (FP.fmul w1 (FP.i2f (iI (v_154)))))), (6, .int (iI (1))), (0, .ref (ad b (0))), (1, .int (iI (u))), (8, .int (iI (v_37))), (9, .float (w1)), (10, .int (iI (10 * i + 10)))]) hB 7 dL_isLife_194 rfl (by omega) (by decide) rfl ?_
                      refine y_goto hB 16 dL_isLife_197 (by decide) ?_
                      refine y_sub (lv' := [(0, .ref (ad b (0))), (1, .int (iI (u))), (2, .float (FP.fadd w (FP.fmul w1 (FP.i2f (iI (v_154)))))), (3, .int (iI (ln + v_167))), (4, .int (iI (st + v_179))), (5, .int (iI (orI sr (p2 v_37)))), (6, .int (iI (1))), (7, .int (iI (k + 1)))]) [6, 7, 4, 3, 2, 1, 5, 0] rfl ?_
                      exact ih_16 (k + 1) (ln + v_167) (st + v_179) (orI sr (p2 v_37)) _ (by omega) (by rw [wsI_s _ hk.1, ← hw, hW1, h_154]) (by rw [smI_s _ hk.1, ← hln]; omega) (by rw [smI_s _ hk.1, ← hst]; omega) (by rw [mkI_s _ hk.1, ← hsr, h_37]) (by omega)
                · have hz := (show fst C 1 (4 * u + 5) (C 1 4) k = stI w1 (FP.fdiv (FP.i2f (iI v_104)) 1120403456) from by rw [hW1, h_104]; rfl).trans (stI_lt (by omega))
                  refine y_iconst (v := 1) hB dL_isLife_115 rfl ?_
                  refine y_goto hB 120 dL_isLife_116 (by decide) ?_
                  refine y_icmp_ne hB 143 dL_isLife_120 (by decide) (by omega) (by omega) (fun c_120 => ?_) (fun c_120 => ?_)
                  · exfalso
                    omega
                  · refine y_aload_n hB 0 dL_isLife_123 rfl rfl ?_
                    refine y_iload_n hB 1 dL_isLife_124 rfl rfl ?_
                    refine y_iload hB 7 dL_isLife_125 rfl ?_
                    refine y_iconst (v := 2) hB dL_isLife_127 rfl ?_
                    refine m_V hB msX6_fact q502 (sf_2 _ G b C C S u k N (Sc.rf C) hI (by omega) (by omega) (by omega)) (t := 0) (by decide) (by decide) rfl rfl rfl rfl rfl ⟨Nat.le_of_ble_eq_true rfl, Nat.le_of_ble_eq_true rfl⟩ (Nat.le_of_ble_eq_true rfl) ⟨rfl, rfl⟩ ⟨Nat.le_of_ble_eq_true rfl, Nat.le_of_ble_eq_true rfl⟩ dL_isLife_128 (k_RI (fun v_128 h_128 => ?_))
                    have hb_128 := bf_2 hI (u := u) (t := k) (by omega) (by omega)
                    refine y_aload_n hB 0 dL_isLife_131 rfl rfl ?_
                    refine y_iconst (v := 0) hB dL_isLife_132 rfl ?_
                    refine m_V hB msX6_count q462 (sc_0 _ G b C C S N (Sc.rf C) hI (by omega)) (t := 0) (by decide) (by decide) rfl rfl rfl rfl rfl ⟨Nat.le_of_ble_eq_true rfl, Nat.le_of_ble_eq_true rfl⟩ (Nat.le_of_ble_eq_true rfl) ⟨rfl, rfl⟩ ⟨Nat.le_of_ble_eq_true rfl, Nat.le_of_ble_eq_true rfl⟩ dL_isLife_133 (k_RI (fun v_133 h_133 => ?_))
                    have hb_133 := bc_0 hI
                    refine y_icmp_gt hB 143 dL_isLife_136 (by decide) (by omega) (by omega) (fun c_136 => ?_) (fun c_136 => ?_)
                    · exfalso
                      omega
                    · refine y_iconst (v := 1) hB dL_isLife_139 rfl ?_
                      refine y_goto hB 144 dL_isLife_140 (by decide) ?_
                      refine y_istore (lv' := [(6, .int (iI (1))), (0, .ref (ad b (0))), (1, .int (iI (u))), (2, .float (w)), (3, .int (iI (ln))), (4, .int (iI (st))), (5, .int (iI (sr))), (7, .int (iI (k))), (8, .int (iI (v_37))), (9, .float (w1)), (10, .int (iI (10 * i + 10)))]) hB dL_isLife_144 (by decide) rfl ?_
                      refine y_fload_n hB 3 dL_isLife_146 rfl rfl ?_
                      refine y_fload hB 9 dL_isLife_147 rfl ?_
                      refine y_aload_n hB 1 dL_isLife_149 rfl rfl ?_
                      refine y_iload_n hB 2 dL_isLife_150 rfl rfl ?_
                      refine y_iload hB 7 dL_isLife_151 rfl ?_
                      refine y_iconst (v := 1) hB dL_isLife_153 rfl ?_
                      refine m_V hB msX6_fact q502 (sf_1 _ G b C C S u k N (Sc.rf C) hI (by omega) (by omega) (by omega)) (t := 0) (by decide) (by decide) rfl rfl rfl rfl rfl ⟨Nat.le_of_ble_eq_true rfl, Nat.le_of_ble_eq_true rfl⟩ (Nat.le_of_ble_eq_true rfl) ⟨rfl, rfl⟩ ⟨Nat.le_of_ble_eq_true rfl, Nat.le_of_ble_eq_true rfl⟩ dL_isLife_154 (k_RI (fun v_154 h_154 => ?_))
                      have hb_154 := bf_1 hI (u := u) (t := k) (by omega) (by omega)
                      refine y_i2f hB dL_isLife_157 ?_
                      refine y_fmul hB dL_isLife_158 (by rw [hW1, h_154]; exact vf_pos (hps k hk.1 (by omega))) ?_
                      refine y_fadd hB dL_isLife_159 (by rw [hW1, h_154, hw]; exact vf_pos (pos_fadd (pos_wsI (fun j a1 a2 => hps j a1 (by omega))) (hps k hk.1 (by omega)))) ?_
                      refine y_fstore_n (lv' := [(2, .float (FP.fadd w (FP.fmul w1 (FP.i2f (iI (v_154)))))), (6, .int (iI (1))), (0, .ref (ad b (0))), (1, .int (iI (u))), (3, .int (iI (ln))), (4, .int (iI (st))), (5, .int (iI (sr))), (7, .int (iI (k))), (8, .int (iI (v_37))), (9, .float (w1)), (10, .int (iI (10 * i + 10)))]) hB dL_isLife_160 rfl (by decide) rfl ?_
                      refine y_iload_n hB 4 dL_isLife_161 rfl rfl ?_
                      refine y_aload_n hB 2 dL_isLife_162 rfl rfl ?_
                      refine y_iload_n hB 3 dL_isLife_163 rfl rfl ?_
                      refine y_iload hB 7 dL_isLife_164 rfl ?_
                      refine y_iconst (v := 1) hB dL_isLife_166 rfl ?_
                      refine m_V hB msX6_fact q502 (sf_1 _ G b C C S u k N (Sc.rf C) hI (by omega) (by omega) (by omega)) (t := 0) (by decide) (by decide) rfl rfl rfl rfl rfl ⟨Nat.le_of_ble_eq_true rfl, Nat.le_of_ble_eq_true rfl⟩ (Nat.le_of_ble_eq_true rfl) ⟨rfl, rfl⟩ ⟨Nat.le_of_ble_eq_true rfl, Nat.le_of_ble_eq_true rfl⟩ dL_isLife_167 (k_RI (fun v_167 h_167 => ?_))
                      have hb_167 := bf_1 hI (u := u) (t := k) (by omega) (by omega)
                      refine y_iadd (t := ln + v_167) hB dL_isLife_170 (by omega) ?_
                      refine y_istore_n (lv' := [(3, .int (iI (ln + v_167))), (2, .float (FP.fadd w (FP.fmul w1 (FP.i2f (iI (v_154)))))), (6, .int (iI (1))), (0, .ref (ad b (0))), (1, .int (iI (u))), (4, .int (iI (st))), (5, .int (iI (sr))), (7, .int (iI (k))), (8, .int (iI (v_37))), (9, .float (w1)), (10, .int (iI (10 * i + 10)))]) hB dL_isLife_171 rfl (by decide) rfl ?_
                      refine y_iload hB 5 dL_isLife_172 rfl ?_
                      refine y_aload_n hB 3 dL_isLife_174 rfl rfl ?_
                      refine y_iload_n hB 4 dL_isLife_175 rfl rfl ?_
                      refine y_iload hB 7 dL_isLife_176 rfl ?_
                      refine y_iconst (v := 3) hB dL_isLife_178 rfl ?_
                      refine m_V hB msX6_fact q502 (sf_3 _ G b C C S u k N (Sc.rf C) hI (by omega) (by omega) (by omega)) (t := 0) (by decide) (by decide) rfl rfl rfl rfl rfl ⟨Nat.le_of_ble_eq_true rfl, Nat.le_of_ble_eq_true rfl⟩ (Nat.le_of_ble_eq_true rfl) ⟨rfl, rfl⟩ ⟨Nat.le_of_ble_eq_true rfl, Nat.le_of_ble_eq_true rfl⟩ dL_isLife_179 (k_RI (fun v_179 h_179 => ?_))
                      have hb_179 := bf_3 hI (u := u) (t := k) (by omega) (by omega)
                      refine y_iadd (t := st + v_179) hB dL_isLife_182 (by omega) ?_
                      refine y_istore (lv' := [(4, .int (iI (st + v_179))), (3, .int (iI (ln + v_167))), (2, .float (FP.fadd w (FP.fmul w1 (FP.i2f (iI (v_154)))))), (6, .int (iI (1))), (0, .ref (ad b (0))), (1, .int (iI (u))), (5, .int (iI (sr))), (7, .int (iI (k))), (8, .int (iI (v_37))), (9, .float (w1)), (10, .int (iI (10 * i + 10)))]) hB dL_isLife_183 (by decide) rfl ?_
                      refine y_iload hB 6 dL_isLife_185 rfl ?_
                      refine y_iconst (v := 1) hB dL_isLife_187 rfl ?_
                      refine y_iload hB 8 dL_isLife_188 rfl ?_
                      refine y_ishl1 hB (by omega) dL_isLife_190 ?_
                      refine y_ior hB hsb (p2_lt (by omega)) dL_isLife_191 ?_
                      refine y_istore (lv' := [(5, .int (iI (orI sr (p2 v_37)))), (4, .int (iI (st + v_179))), (3, .int (iI (ln + v_167))), (2, .float (FP.fadd w (FP.fmul w1 (FP.i2f (iI (v_154)))))), (6, .int (iI (1))), (0, .ref (ad b (0))), (1, .int (iI (u))), (7, .int (iI (k))), (8, .int (iI (v_37))), (9, .float (w1)), (10, .int (iI (10 * i + 10)))]) hB dL_isLife_192 (by decide) rfl ?_
                      refine y_iinc (v := k + 1) (lv' := [(7, .int (iI (k + 1))), (5, .int (iI (orI sr (p2 v_37)))), (4, .int (iI (st + v_179))), (3, .int (iI (ln + v_167))), (2, .float (FP.fadd w (FP.fmul w1 (FP.i2f (iI (v_154)))))), (6, .int (iI (1))), (0, .ref (ad b (0))), (1, .int (iI (u))), (8, .int (iI (v_37))), (9, .float (w1)), (10, .int (iI (10 * i + 10)))]) hB 7 dL_isLife_194 rfl (by omega) (by decide) rfl ?_
                      refine y_goto hB 16 dL_isLife_197 (by decide) ?_
                      refine y_sub (lv' := [(0, .ref (ad b (0))), (1, .int (iI (u))), (2, .float (FP.fadd w (FP.fmul w1 (FP.i2f (iI (v_154)))))), (3, .int (iI (ln + v_167))), (4, .int (iI (st + v_179))), (5, .int (iI (orI sr (p2 v_37)))), (6, .int (iI (1))), (7, .int (iI (k + 1)))]) [6, 7, 4, 3, 2, 1, 5, 0] rfl ?_
                      exact ih_16 (k + 1) (ln + v_167) (st + v_179) (orI sr (p2 v_37)) _ (by omega) (by rw [wsI_s _ hk.1, ← hw, hW1, h_154]) (by rw [smI_s _ hk.1, ← hln]; omega) (by rw [smI_s _ hk.1, ← hst]; omega) (by rw [mkI_s _ hk.1, ← hsr, h_37]) (by omega)
              · refine y_fload hB 9 dL_isLife_78 rfl ?_
                refine y_ldcf hB q536 dL_isLife_80 ?_
                refine y_fmul hB dL_isLife_82 (hw1 ▸ vf_pos (pos_fmul (fin_wf (by omega) (by omega)) fin_c09)) ?_
                refine y_fstore (lv' := [(9, .float (FP.fmul w1 1063675494)), (0, .ref (ad b (0))), (1, .int (iI (u))), (2, .float (w)), (3, .int (iI (ln))), (4, .int (iI (st))), (5, .int (iI (sr))), (6, .int (iI (1))), (7, .int (iI (k))), (8, .int (iI (v_37))), (10, .int (iI (10 * i + 10)))]) hB dL_isLife_83 (by decide) rfl ?_
                refine y_iinc (v := 10 * i + 20) (lv' := [(10, .int (iI (10 * i + 20))), (9, .float (FP.fmul w1 1063675494)), (0, .ref (ad b (0))), (1, .int (iI (u))), (2, .float (w)), (3, .int (iI (ln))), (4, .int (iI (st))), (5, .int (iI (sr))), (6, .int (iI (1))), (7, .int (iI (k))), (8, .int (iI (v_37)))]) hB 10 dL_isLife_85 rfl (by omega) (by decide) rfl ?_
                refine y_goto hB 59 dL_isLife_88 (by decide) ?_
                refine y_sub (lv' := [(0, .ref (ad b (0))), (1, .int (iI (u))), (2, .float (w)), (3, .int (iI (ln))), (4, .int (iI (st))), (5, .int (iI (sr))), (6, .int (iI (1))), (7, .int (iI (k))), (8, .int (iI (v_37))), (9, .float (FP.fmul w1 1063675494)), (10, .int (iI (10 * i + 20)))]) [2, 3, 4, 5, 6, 7, 8, 9, 10, 1, 0] rfl ?_
                rw [show (10 * i + 20 : Int) = 10 * (i + 1) + 10 by omega]
                exact ih_59 (i + 1) _ (by omega) (by rw [show (i + 1).toNat = i.toNat + 1 by omega, hw1]; rfl) (by omega)
          refine y_sub (lv' := [(0, .ref (ad b (0))), (1, .int (iI (u))), (2, .float (w)), (3, .int (iI (ln))), (4, .int (iI (st))), (5, .int (iI (sr))), (6, .int (iI (1))), (7, .int (iI (k))), (8, .int (iI (v_37))), (9, .float (FP.fdiv (FP.i2f (iI (v_46))) 1120403456)), (10, .int (iI (10)))]) [3, 4, 5, 6, 7, 8, 9, 10, 2, 1, 0] rfl ?_
          exact LOOP_59 ((C 1 4 - C (4 * u + 5 + 3) k).toNat + 1) 0 _ (by omega) rfl (by omega)
  refine y_sub (lv' := [(0, .ref (ad b (0))), (1, .int (iI (u))), (2, .float (FP.fconst0)), (3, .int (iI (0))), (4, .int (iI (0))), (5, .int (iI (0))), (6, .int (iI (1))), (7, .int (iI (0)))]) [6, 7, 5, 4, 3, 2, 1, 0] rfl ?_
  exact LOOP_16 ((C (4 * u + 5) 6).toNat + 1) 0 0 0 0 _ (by omega) (wsI_0 _).symm (smI_0 _).symm (smI_0 _).symm (mkI_0 _).symm (by omega)
