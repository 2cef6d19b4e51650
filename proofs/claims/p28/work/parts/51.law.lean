set_option maxHeartbeats 8000000 in
theorem law_from {x : gX} {G : gG} {b sb L : Nat} {xs : Nat → Int32} {nm : String} {C S : gM} (hB : Bx x G b RL cL_law 6 ret room_1 nm) (hX : SX b sb L xs (gs x)) (hZ : Zs b (gs x)) (hL : L ≤ 260) (hI0 : Iv C 0) (hC : C 1 3 = 0 ∧ C 169 2 = 0 ∧ C 0 2 = 0 ∧ C 2 0 = 8 ∧ C 2 3 = 2) (h85 : 0 ≤ C 85 3 ∧ C 85 3 ≤ 20) (hEnd : ∀ (C : gM) (lv : List (Nat × Value)), YM x G b 578 5022 C S 359 lv [.int (iI 1)]) : YM x G b 578 5022 C S 8 [(1, .ref (ad b (0))), (0, .ref sb)] [] := by
  refine y_aload_n hB 0 dL_law_8 rfl rfl ?_
  refine m_V hB msX6_undo q339 (s_undo0 _ G b C S 0 hI0 (by omega) (by omega)) (t := 0) (by decide) (by decide) rfl rfl rfl rfl rfl ⟨Nat.le_of_ble_eq_true rfl, Nat.le_of_ble_eq_true rfl⟩ (Nat.le_of_ble_eq_true rfl) ⟨rfl, rfl⟩ ⟨Nat.le_of_ble_eq_true rfl, Nat.le_of_ble_eq_true rfl⟩ dL_law_9 (k_RI (fun v_9 h_9 => ?_))
  refine y_bipush (v := -5) hB dL_law_12 (by decide) ?_
  refine y_icmp_ne hB 49 dL_law_14 (by decide) (by omega) (by omega) (fun c_14 => ?_) (fun c_14 => ?_)
  · exfalso
    omega
  · refine y_aload_n hB 0 dL_law_17 rfl rfl ?_
    refine m_V hB msX6_restore q360 (s_restore0 _ G b C S 0 hI0 (by omega) (by omega) h85) (t := 0) (by decide) (by decide) rfl rfl rfl rfl rfl ⟨Nat.le_of_ble_eq_true rfl, Nat.le_of_ble_eq_true rfl⟩ (Nat.le_of_ble_eq_true rfl) ⟨rfl, rfl⟩ ⟨Nat.le_of_ble_eq_true rfl, Nat.le_of_ble_eq_true rfl⟩ dL_law_18 (k_RI (fun v_18 h_18 => ?_))
    refine y_bipush (v := -5) hB dL_law_21 (by decide) ?_
    refine y_icmp_ne hB 49 dL_law_23 (by decide) (by omega) (by omega) (fun c_23 => ?_) (fun c_23 => ?_)
    · exfalso
      omega
    · refine y_aload_n hB 0 dL_law_26 rfl rfl ?_
      refine y_iconst (v := 0) hB dL_law_27 rfl ?_
      refine m_V hB msX6_page q411 (s_page _ G b C C S 0 0 (Sc.rf C) hI0 (by omega) (by omega)) (t := 0) (by decide) (by decide) rfl rfl rfl rfl rfl ⟨Nat.le_of_ble_eq_true rfl, Nat.le_of_ble_eq_true rfl⟩ (Nat.le_of_ble_eq_true rfl) ⟨rfl, rfl⟩ ⟨Nat.le_of_ble_eq_true rfl, Nat.le_of_ble_eq_true rfl⟩ dL_law_28 (k_WI (fun v_28 C_28 h_28 => ?_))
      obtain ⟨hS_28, hLq, hv_28⟩ := id h_28
      obtain ⟨hf1, hf2, hf3, hf4, hf5⟩ := Lq_facts hI0 (by omega) hLq
      have hpv := pgv_or C_28 0
      have hI_28 := hS_28.iv hI0
      have e3_28 : C_28 1 3 = C 1 3 := by rw [hS_28 1 (by omega)]
      have e20_28 : C_28 2 0 = C 2 0 := by rw [hS_28 2 (by omega)]
      have e23_28 : C_28 2 3 = C 2 3 := by rw [hS_28 2 (by omega)]
      refine y_bipush (v := -5) hB dL_law_31 (by decide) ?_
      refine y_icmp_ne hB 49 dL_law_33 (by decide) (by omega) (by omega) (fun c_33 => ?_) (fun c_33 => ?_)
      · exfalso
        omega
      · refine y_aload_n hB 0 dL_law_36 rfl rfl ?_
        refine m_V hB msX6_checkUrgent q236 (s_chk _ G b C_28 S  0 hI_28 (by omega) ) (t := 0) (by decide) (by decide) rfl rfl rfl rfl rfl ⟨Nat.le_of_ble_eq_true rfl, Nat.le_of_ble_eq_true rfl⟩ (Nat.le_of_ble_eq_true rfl) ⟨rfl, rfl⟩ ⟨Nat.le_of_ble_eq_true rfl, Nat.le_of_ble_eq_true rfl⟩ dL_law_37 (k_WI (fun v_37 C_37 h_37 => ?_))
        obtain ⟨⟨hI_37, h3_37, h4_37⟩, hcs_37, hc1_37, hc2_37⟩ := id h_37
        have hv_37 : v_37 = -5 := hc1_37 (Or.inr (by rw [show C_28 1 3 = 0 by omega]; exact isBest_0 _ _))
        have hrow_37 : C_37 2 0 = 8 ∧ C_37 2 3 = 2 := by
          rcases hcs_37 with g | g
          · rw [g.2]; omega
          · omega
        refine y_bipush (v := -5) hB dL_law_40 (by decide) ?_
        refine y_icmp_ne hB 49 dL_law_42 (by decide) (by omega) (by omega) (fun c_42 => ?_) (fun c_42 => ?_)
        · exfalso
          omega
        · refine y_iconst (v := 1) hB dL_law_45 rfl ?_
          refine y_goto hB 50 dL_law_46 (by decide) ?_
          refine y_istore_n (lv' := [(2, .int (iI (1))), (1, .ref (ad b (0))), (0, .ref sb)]) hB dL_law_50 rfl (by decide) rfl ?_
          refine y_iconst (v := 2) hB dL_law_51 rfl ?_
          refine y_aload_n hB 2 dL_law_52 rfl rfl ?_
          refine y_iconst (v := 0) hB dL_law_53 rfl ?_
          refine m_SK hB msL_cell q491 (tL_cell _ G b C_37 S sb L xs 0 hL (by omega)) SX_call (SX_warm hX) rfl rfl ⟨Nat.le_of_ble_eq_true rfl, Nat.le_of_ble_eq_true rfl⟩ (Nat.le_of_ble_eq_true rfl) ⟨rfl, rfl⟩ ⟨Nat.le_of_ble_eq_true rfl, Nat.le_of_ble_eq_true rfl⟩ dL_law_54 (k_RI (fun v_54 h_54 => ?_))
          refine y_iconst (v := 5) hB dL_law_57 rfl ?_
          refine y_irem hB dL_law_58 (by omega) (by omega) ?_
          refine y_iadd (t := v_54 % 5 + 2) hB dL_law_59 (by omega) ?_
          obtain ⟨m, hm_e⟩ : ∃ m : Int, v_54 % 5 + 2 = m := ⟨_, rfl⟩
          have hm : 2 ≤ m ∧ m ≤ 6 := (by omega)
          rw [hm_e]
          refine y_istore_n (lv' := [(3, .int (iI (m))), (2, .int (iI (1))), (1, .ref (ad b (0))), (0, .ref sb)]) hB dL_law_60 rfl (by decide) rfl ?_
          refine y_iconst (v := 0) hB dL_law_61 rfl ?_
          refine y_istore (lv' := [(4, .int (iI (0))), (3, .int (iI (m))), (2, .int (iI (1))), (1, .ref (ad b (0))), (0, .ref sb)]) hB dL_law_62 (by decide) rfl ?_
          have LOOP_64 : ∀ (fu : Nat) (k : Int) (CA : gM), (0 ≤ k ∧ k ≤ m) → (Iv CA 0) → (CA 1 3 = k) → (CA 2 0 = 8 ∧ CA 2 3 = 2) → m - k < (fu : Int) → YM x G b 578 5022 CA S 64 [(0, .ref sb), (1, .ref (ad b (0))), (2, .int (iI (1))), (3, .int (iI (m))), (4, .int (iI (k)))] [] := by
            intro fu
            induction fu with
            | zero => intro k CA hk hIA h3A h2A hm_64; exfalso; omega
            | succ fu ih_64 =>
              intro k CA hk hIA h3A h2A hm_64
              refine y_iload hB 4 dL_law_64 rfl ?_
              refine y_iload_n hB 3 dL_law_66 rfl rfl ?_
              refine y_icmp_ge hB 153 dL_law_67 (by decide) (by omega) (by omega) (fun c_67 => ?_) (fun c_67 => ?_)
              · refine y_iload_n hB 2 dL_law_153 rfl rfl ?_
                refine y_if_eq hB 201 dL_law_154 (by decide) (by omega) (fun c_154 => ?_) (fun c_154 => ?_)
                · exfalso
                  omega
                · have JOIN_178 : ∀ (CJ : gM), (Iv CJ 0) → (CJ 1 3 = m) → (CJ 2 0 = 8) → YM x G b 578 5022 CJ S 178 [(0, .ref sb), (1, .ref (ad b (0)))] [] := by
                    intro CJ hIJ h3J h2J
                    refine y_aload_n hB 1 dL_law_178 rfl rfl ?_
                    refine y_iconst (v := 0) hB dL_law_179 rfl ?_
                    refine y_bipush (v := 24) hB dL_law_180 (by decide) ?_
                    refine m_VK hB msX6_set q325 (s_set _ G b CJ S 0 24 0 hIJ (by omega) (by omega) (by omega)) Zs_call (Zs_warm hZ) (t := 0) (by decide) (by decide) rfl rfl rfl rfl rfl ⟨Nat.le_of_ble_eq_true rfl, Nat.le_of_ble_eq_true rfl⟩ (Nat.le_of_ble_eq_true rfl) ⟨rfl, rfl⟩ ⟨Nat.le_of_ble_eq_true rfl, Nat.le_of_ble_eq_true rfl⟩ dL_law_182 (k_WI (fun v_182 C_182 h_182 => ?_))
                    obtain ⟨hv_182, hI_182, h3_182, hr_182, ha_182⟩ := id h_182
                    refine y_bipush (v := 8) hB dL_law_185 (by decide) ?_
                    refine y_icmp_ne hB 201 dL_law_187 (by decide) (by omega) (by omega) (fun c_187 => ?_) (fun c_187 => ?_)
                    · exfalso
                      omega
                    · refine y_aload_n hB 1 dL_law_190 rfl rfl ?_
                      refine m_S hB msL_passes q560 (tL_passes _ G b C_182 S 0 hI_182 (by omega)) rfl rfl ⟨Nat.le_of_ble_eq_true rfl, Nat.le_of_ble_eq_true rfl⟩ (Nat.le_of_ble_eq_true rfl) ⟨rfl, rfl⟩ ⟨Nat.le_of_ble_eq_true rfl, Nat.le_of_ble_eq_true rfl⟩ dL_law_191 (k_WI (fun v_191 C_191 h_191 => ?_))
                      obtain ⟨hv_191, hI_191, h3_191, ha_191⟩ := id h_191
                      refine y_if_eq hB 201 dL_law_194 (by decide) (by omega) (fun c_194 => ?_) (fun c_194 => ?_)
                      · exfalso
                        omega
                      · refine y_iconst (v := 1) hB dL_law_197 rfl ?_
                        refine y_goto hB 202 dL_law_198 (by decide) ?_
                        refine y_istore_n (lv' := [(2, .int (iI (1))), (0, .ref sb), (1, .ref (ad b (0)))]) hB dL_law_202 rfl (by decide) rfl ?_
                        refine y_iconst (v := 0) hB dL_law_203 rfl ?_
                        refine y_istore (lv' := [(4, .int (iI (0))), (2, .int (iI (1))), (0, .ref sb), (1, .ref (ad b (0)))]) hB dL_law_204 (by decide) rfl ?_
                        have LOOP_206 : ∀ (fu : Nat) (k : Int) (CB : gM), (0 ≤ k ∧ k ≤ 26) → (Iv CB (8 * k + 1)) → (CB 1 3 = m) → 26 - k < (fu : Int) → YM x G b 578 5022 CB S 206 [(0, .ref sb), (1, .ref (ad b (0))), (2, .int (iI (1))), (4, .int (iI (k)))] [] := by
                          intro fu
                          induction fu with
                          | zero => intro k CB hk hIB h3B hm_206; exfalso; omega
                          | succ fu ih_206 =>
                            intro k CB hk hIB h3B hm_206
                            have JOIN_259 : ∀ (CE : gM), (Iv CE 209) → (CE 1 3 = m) → YM x G b 578 5022 CE S 259 [(0, .ref sb), (1, .ref (ad b (0))), (2, .int (iI (1)))] [] := by
                              intro CE hIE h3E
                              refine y_aload_n hB 1 dL_law_259 rfl rfl ?_
                              refine y_iconst (v := 0) hB dL_law_260 rfl ?_
                              refine m_V hB msX6_count q462 (sc_0 _ G b CE CE S 209 (Sc.rf CE) hIE (by omega)) (t := 0) (by decide) (by decide) rfl rfl rfl rfl rfl ⟨Nat.le_of_ble_eq_true rfl, Nat.le_of_ble_eq_true rfl⟩ (Nat.le_of_ble_eq_true rfl) ⟨rfl, rfl⟩ ⟨Nat.le_of_ble_eq_true rfl, Nat.le_of_ble_eq_true rfl⟩ dL_law_261 (k_RI (fun v_261 h_261 => ?_))
                              have hb_261 := bc_0 hIE
                              refine y_istore (lv' := [(4, .int (iI (v_261))), (0, .ref sb), (1, .ref (ad b (0))), (2, .int (iI (1)))]) hB dL_law_264 (by decide) rfl ?_
                              refine y_aload_n hB 2 dL_law_266 rfl rfl ?_
                              refine y_bipush (v := 7) hB dL_law_267 (by decide) ?_
                              refine m_V hB msX6_count q462 (sc_7 _ G b CE CE S 209 (Sc.rf CE) hIE (by omega)) (t := 0) (by decide) (by decide) rfl rfl rfl rfl rfl ⟨Nat.le_of_ble_eq_true rfl, Nat.le_of_ble_eq_true rfl⟩ (Nat.le_of_ble_eq_true rfl) ⟨rfl, rfl⟩ ⟨Nat.le_of_ble_eq_true rfl, Nat.le_of_ble_eq_true rfl⟩ dL_law_269 (k_RI (fun v_269 h_269 => ?_))
                              have hb_269 := bc_7 hIE
                              refine y_istore (lv' := [(5, .int (iI (v_269))), (4, .int (iI (v_261))), (0, .ref sb), (1, .ref (ad b (0))), (2, .int (iI (1)))]) hB dL_law_272 (by decide) rfl ?_
                              refine y_iload_n hB 4 dL_law_274 rfl rfl ?_
                              refine y_if_eq hB 325 dL_law_275 (by decide) (by omega) (fun c_275 => ?_) (fun c_275 => ?_)
                              · exfalso
                                omega
                              · refine y_aload_n hB 3 dL_law_278 rfl rfl ?_
                                refine m_S hB msL_isAll q496 (tL_isAll _ G b CE S 209 hIE (by omega) (by omega)) rfl rfl ⟨Nat.le_of_ble_eq_true rfl, Nat.le_of_ble_eq_true rfl⟩ (Nat.le_of_ble_eq_true rfl) ⟨rfl, rfl⟩ ⟨Nat.le_of_ble_eq_true rfl, Nat.le_of_ble_eq_true rfl⟩ dL_law_279 (k_WI (fun v_279 C_279 h_279 => ?_))
                                obtain ⟨hv_279, hS_279⟩ := id h_279
                                have hI_279 := hS_279.iv hIE
                                have h3_279 : C_279 1 3 = CE 1 3 := by rw [hS_279 1 (by omega)]
                                have h4_279 : C_279 1 4 = CE 1 4 := by rw [hS_279 1 (by omega)]
                                have hf_279 : fcN C_279 = fcN CE := fcN_ag hS_279.ag hIE.1.1
                                refine y_if_eq hB 325 dL_law_282 (by decide) (by omega) (fun c_282 => ?_) (fun c_282 => ?_)
                                · exfalso
                                  omega
                                · refine y_aload_n hB 3 dL_law_285 rfl rfl ?_
                                  refine m_V hB msX6_keep q351 (s_keep _ G b C_279 S 209 hI_279 (by omega)) (t := 0) (by decide) (by decide) rfl rfl rfl rfl rfl ⟨Nat.le_of_ble_eq_true rfl, Nat.le_of_ble_eq_true rfl⟩ (Nat.le_of_ble_eq_true rfl) ⟨rfl, rfl⟩ ⟨Nat.le_of_ble_eq_true rfl, Nat.le_of_ble_eq_true rfl⟩ dL_law_286 (k_WI (fun v_286 C_286 h_286 => ?_))
                                  obtain ⟨hv_286, hI_286, hD_286, h4_286, h3_286, hf_286, h0_286, ha_286⟩ := id h_286
                                  refine y_iload hB 1 dL_law_289 rfl ?_
                                  refine y_icmp_ne hB 325 dL_law_291 (by decide) (by omega) (by omega) (fun c_291 => ?_) (fun c_291 => ?_)
                                  · exfalso
                                    omega
                                  · refine y_aload_n hB 3 dL_law_294 rfl rfl ?_
                                    refine m_S hB msL_passes q560 (tL_passes _ G b C_286 S 209 hI_286 (by omega)) rfl rfl ⟨Nat.le_of_ble_eq_true rfl, Nat.le_of_ble_eq_true rfl⟩ (Nat.le_of_ble_eq_true rfl) ⟨rfl, rfl⟩ ⟨Nat.le_of_ble_eq_true rfl, Nat.le_of_ble_eq_true rfl⟩ dL_law_295 (k_WI (fun v_295 C_295 h_295 => ?_))
                                    obtain ⟨hv_295, hI_295, h3_295, ha_295⟩ := id h_295
                                    have hag_295 : agD C_286 C_295 85 := fun a a1 a2 => ha_295 a (by omega)
                                    have hD_295 : IvD C_295 85 (209 + 1) := IvD_up (IvD_ag hag_295 hD_286) (by omega)
                                    have hf_295 := fcD_ag hag_295 hD_286
                                    have h85_295 : C_295 85 = C_286 85 := ha_295 85 (by omega)
                                    have h854_295 : C_295 85 4 = C_286 85 4 := by rw [h85_295]
                                    have h853_295 : C_295 85 3 = C_286 85 3 := by rw [h85_295]
                                    have h02_295 : C_295 0 2 = 1 := by rw [ha_295 0 (by omega)]; exact h0_286
                                    refine y_if_eq hB 325 dL_law_298 (by decide) (by omega) (fun c_298 => ?_) (fun c_298 => ?_)
                                    · exfalso
                                      omega
                                    · refine y_aload_n hB 3 dL_law_301 rfl rfl ?_
                                      refine m_V hB msX6_restore q360 (s_restore _ G b C_295 S ((209 + 1)) hI_295 (by omega) hD_295 (by omega)) (t := 0) (by decide) (by decide) rfl rfl rfl rfl rfl ⟨Nat.le_of_ble_eq_true rfl, Nat.le_of_ble_eq_true rfl⟩ (Nat.le_of_ble_eq_true rfl) ⟨rfl, rfl⟩ ⟨Nat.le_of_ble_eq_true rfl, Nat.le_of_ble_eq_true rfl⟩ dL_law_302 (k_WI (fun v_302 C_302 h_302 => ?_))
                                      obtain ⟨hv_302, hI_302, h3_302, hf_302⟩ := id h_302
                                      have hfE : fcN C_302 = fcN CE := (show fcN C_302 = fcD C_302 1 from rfl).trans (hf_302.trans (hf_295.trans (hf_286.trans ((show fcD C_279 1 = fcN C_279 from rfl).trans hf_279))))
                                      refine y_iload hB 1 dL_law_305 rfl ?_
                                      refine y_icmp_ne hB 325 dL_law_307 (by decide) (by omega) (by omega) (fun c_307 => ?_) (fun c_307 => ?_)
                                      · exfalso
                                        omega
                                      · refine y_aload_n hB 3 dL_law_310 rfl rfl ?_
                                        refine y_bipush (v := 7) hB dL_law_311 (by decide) ?_
                                        refine m_V hB msX6_count q462 (sc_7 _ G b C_302 C_302 S ((209 + 1)) (Sc.rf C_302) hI_302 (by omega)) (t := 0) (by decide) (by decide) rfl rfl rfl rfl rfl ⟨Nat.le_of_ble_eq_true rfl, Nat.le_of_ble_eq_true rfl⟩ (Nat.le_of_ble_eq_true rfl) ⟨rfl, rfl⟩ ⟨Nat.le_of_ble_eq_true rfl, Nat.le_of_ble_eq_true rfl⟩ dL_law_313 (k_RI (fun v_313 h_313 => ?_))
                                        have hb_313 := bc_7 hI_302
                                        refine y_iload hB 0 dL_law_316 rfl ?_
                                        refine y_icmp_ne hB 325 dL_law_318 (by decide) (by omega) (by omega) (fun c_318 => ?_) (fun c_318 => ?_)
                                        · exfalso
                                          omega
                                        · refine y_iconst (v := 1) hB dL_law_321 rfl ?_
                                          refine y_goto hB 326 dL_law_322 (by decide) ?_
                                          refine y_istore_n (lv' := [(2, .int (iI (1))), (5, .int (iI (v_269))), (4, .int (iI (v_261))), (0, .ref sb), (1, .ref (ad b (0)))]) hB dL_law_326 rfl (by decide) rfl ?_
                                          refine y_iload_n hB 0 dL_law_327 rfl rfl ?_
                                          refine y_if_eq hB 358 dL_law_328 (by decide) (by omega) (fun c_328 => ?_) (fun c_328 => ?_)
                                          · exfalso
                                            omega
                                          · refine y_aload_n hB 4 dL_law_331 rfl rfl ?_
                                            refine m_S hB msL_isAll q496 (tL_isAll _ G b C_302 S ((209 + 1)) hI_302 (by omega) (by omega)) rfl rfl ⟨Nat.le_of_ble_eq_true rfl, Nat.le_of_ble_eq_true rfl⟩ (Nat.le_of_ble_eq_true rfl) ⟨rfl, rfl⟩ ⟨Nat.le_of_ble_eq_true rfl, Nat.le_of_ble_eq_true rfl⟩ dL_law_332 (k_WI (fun v_332 C_332 h_332 => ?_))
                                            obtain ⟨hv_332, hS_332⟩ := id h_332
                                            have hI_332 := hS_332.iv hI_302
                                            refine y_if_eq hB 358 dL_law_335 (by decide) (by omega) (fun c_335 => ?_) (fun c_335 => ?_)
                                            · exfalso
                                              omega
                                            · refine y_aload_n hB 4 dL_law_338 rfl rfl ?_
                                              refine y_sipush (v := 999) hB dL_law_339 (by decide) ?_
                                              refine m_V hB msX6_staleIn q454 (s_stale _ G b C_332 C_332 S 999 ((209 + 1)) (Sc.rf C_332) hI_332 (by omega) (by omega)) (t := 0) (by decide) (by decide) rfl rfl rfl rfl rfl ⟨Nat.le_of_ble_eq_true rfl, Nat.le_of_ble_eq_true rfl⟩ (Nat.le_of_ble_eq_true rfl) ⟨rfl, rfl⟩ ⟨Nat.le_of_ble_eq_true rfl, Nat.le_of_ble_eq_true rfl⟩ dL_law_342 (k_RI (fun v_342 h_342 => ?_))
                                              have hb_342 := stA_b hI_332 (999 + C_332 1 4)
                                              have hlt := stA_later (d := 999) hI_332 (by omega) (by omega)
                                              refine y_aload_n hB 4 dL_law_345 rfl rfl ?_
                                              refine y_bipush (v := 8) hB dL_law_346 (by decide) ?_
                                              refine m_V hB msX6_count q462 (sc_8 _ G b C_332 C_332 S ((209 + 1)) (Sc.rf C_332) hI_332 (by omega)) (t := 0) (by decide) (by decide) rfl rfl rfl rfl rfl ⟨Nat.le_of_ble_eq_true rfl, Nat.le_of_ble_eq_true rfl⟩ (Nat.le_of_ble_eq_true rfl) ⟨rfl, rfl⟩ ⟨Nat.le_of_ble_eq_true rfl, Nat.le_of_ble_eq_true rfl⟩ dL_law_348 (k_RI (fun v_348 h_348 => ?_))
                                              have hb_348 := bc_8 hI_332
                                              refine y_icmp_lt hB 358 dL_law_351 (by decide) (by omega) (by omega) (fun c_351 => ?_) (fun c_351 => ?_)
                                              · exfalso
                                                omega
                                              · refine y_iconst (v := 1) hB dL_law_354 rfl ?_
                                                refine y_goto hB 359 dL_law_355 (by decide) ?_
                                                exact hEnd _ _
                            refine y_iload hB 3 dL_law_206 rfl ?_
                            refine y_bipush (v := 26) hB dL_law_208 (by decide) ?_
                            refine y_icmp_ge hB 259 dL_law_210 (by decide) (by omega) (by omega) (fun c_210 => ?_) (fun c_210 => ?_)
                            · refine y_sub (lv' := [(0, .ref sb), (1, .ref (ad b (0))), (2, .int (iI (1)))]) [0, 1, 2] rfl ?_
                              exact JOIN_259 CB (hIB.up (by omega)) (by omega)
                            · refine y_iload_n hB 2 dL_law_213 rfl rfl ?_
                              refine y_if_eq hB 259 dL_law_214 (by decide) (by omega) (fun c_214 => ?_) (fun c_214 => ?_)
                              · exfalso
                                omega
                              · refine y_aload_n hB 1 dL_law_217 rfl rfl ?_
                                refine y_aload_n hB 0 dL_law_218 rfl rfl ?_
                                refine y_bipush (v := 9) hB dL_law_219 (by decide) ?_
                                refine y_iload hB 3 dL_law_221 rfl ?_
                                refine y_iadd (t := k + 9) hB dL_law_223 (by omega) ?_
                                refine m_SK hB msL_cell q491 (tL_cell _ G b CB S sb L xs (k + 9) hL (by omega)) SX_call (SX_warm hX) rfl rfl ⟨Nat.le_of_ble_eq_true rfl, Nat.le_of_ble_eq_true rfl⟩ (Nat.le_of_ble_eq_true rfl) ⟨rfl, rfl⟩ ⟨Nat.le_of_ble_eq_true rfl, Nat.le_of_ble_eq_true rfl⟩ dL_law_224 (k_RI (fun v_224 h_224 => ?_))
                                refine m_S hB msL_acts q589 (tL_acts _ G b CB S v_224 ((8 * k + 1)) hIB (by omega) (by omega) (by omega)) rfl rfl ⟨Nat.le_of_ble_eq_true rfl, Nat.le_of_ble_eq_true rfl⟩ (Nat.le_of_ble_eq_true rfl) ⟨rfl, rfl⟩ ⟨Nat.le_of_ble_eq_true rfl, Nat.le_of_ble_eq_true rfl⟩ dL_law_227 (k_WI (fun v_227 C_227 h_227 => ?_))
                                obtain ⟨hv_227, hI_227, h3_227⟩ := id h_227
                                refine y_if_eq hB 251 dL_law_230 (by decide) (by omega) (fun c_230 => ?_) (fun c_230 => ?_)
                                · exfalso
                                  omega
                                · refine y_iload hB 3 dL_law_233 rfl ?_
                                  refine y_iconst (v := 4) hB dL_law_235 rfl ?_
                                  refine y_irem hB dL_law_236 (by omega) (by omega) ?_
                                  refine y_if_gt hB 247 dL_law_237 (by decide) (by omega) (fun c_237 => ?_) (fun c_237 => ?_)
                                  · refine y_iconst (v := 1) hB dL_law_247 rfl ?_
                                    refine y_goto hB 252 dL_law_248 (by decide) ?_
                                    refine y_istore_n (lv' := [(2, .int (iI (1))), (0, .ref sb), (1, .ref (ad b (0))), (4, .int (iI (k)))]) hB dL_law_252 rfl (by decide) rfl ?_
                                    refine y_iinc (v := k + 1) (lv' := [(4, .int (iI (k + 1))), (2, .int (iI (1))), (0, .ref sb), (1, .ref (ad b (0)))]) hB 3 dL_law_253 rfl (by omega) (by decide) rfl ?_
                                    refine y_goto hB 206 dL_law_256 (by decide) ?_
                                    refine y_sub (lv' := [(0, .ref sb), (1, .ref (ad b (0))), (2, .int (iI (1))), (4, .int (iI (k + 1)))]) [2, 3, 1, 0] rfl ?_
                                    exact ih_206 (k + 1) C_227 (by omega) (hI_227.up (by omega)) (by omega) (by omega)
                                  · refine y_aload_n hB 1 dL_law_240 rfl rfl ?_
                                    refine m_S hB msL_isAll q496 (tL_isAll _ G b C_227 S ((8 * k + 1 + 8)) hI_227 (by omega) (by omega)) rfl rfl ⟨Nat.le_of_ble_eq_true rfl, Nat.le_of_ble_eq_true rfl⟩ (Nat.le_of_ble_eq_true rfl) ⟨rfl, rfl⟩ ⟨Nat.le_of_ble_eq_true rfl, Nat.le_of_ble_eq_true rfl⟩ dL_law_241 (k_WI (fun v_241 C_241 h_241 => ?_))
                                    obtain ⟨hv_241, hS_241⟩ := id h_241
                                    have hI_241 := hS_241.iv hI_227
                                    have h3_241 : C_241 1 3 = C_227 1 3 := by rw [hS_241 1 (by omega)]
                                    refine y_if_eq hB 251 dL_law_244 (by decide) (by omega) (fun c_244 => ?_) (fun c_244 => ?_)
                                    · exfalso
                                      omega
                                    · refine y_iconst (v := 1) hB dL_law_247 rfl ?_
                                      refine y_goto hB 252 dL_law_248 (by decide) ?_
                                      refine y_istore_n (lv' := [(2, .int (iI (1))), (0, .ref sb), (1, .ref (ad b (0))), (4, .int (iI (k)))]) hB dL_law_252 rfl (by decide) rfl ?_
                                      refine y_iinc (v := k + 1) (lv' := [(4, .int (iI (k + 1))), (2, .int (iI (1))), (0, .ref sb), (1, .ref (ad b (0)))]) hB 3 dL_law_253 rfl (by omega) (by decide) rfl ?_
                                      refine y_goto hB 206 dL_law_256 (by decide) ?_
                                      refine y_sub (lv' := [(0, .ref sb), (1, .ref (ad b (0))), (2, .int (iI (1))), (4, .int (iI (k + 1)))]) [2, 3, 1, 0] rfl ?_
                                      exact ih_206 (k + 1) C_241 (by omega) (hI_241.up (by omega)) (by omega) (by omega)
                        refine y_sub (lv' := [(0, .ref sb), (1, .ref (ad b (0))), (2, .int (iI (1))), (4, .int (iI (0)))]) [2, 3, 1, 0] rfl ?_
                        exact LOOP_206 (((26 : Int)).toNat + 1) 0 C_191 (by omega) (hI_191.up (by omega)) (by omega) (by omega)
                  refine y_aload_n hB 0 dL_law_157 rfl rfl ?_
                  refine y_bipush (v := 8) hB dL_law_158 (by decide) ?_
                  refine m_SK hB msL_cell q491 (tL_cell _ G b CA S sb L xs 8 hL (by omega)) SX_call (SX_warm hX) rfl rfl ⟨Nat.le_of_ble_eq_true rfl, Nat.le_of_ble_eq_true rfl⟩ (Nat.le_of_ble_eq_true rfl) ⟨rfl, rfl⟩ ⟨Nat.le_of_ble_eq_true rfl, Nat.le_of_ble_eq_true rfl⟩ dL_law_160 (k_RI (fun v_160 h_160 => ?_))
                  refine y_iconst (v := 3) hB dL_law_163 rfl ?_
                  refine y_irem hB dL_law_164 (by omega) (by omega) ?_
                  refine y_if_gt hB 178 dL_law_165 (by decide) (by omega) (fun c_165 => ?_) (fun c_165 => ?_)
                  · refine y_sub (lv' := [(0, .ref sb), (1, .ref (ad b (0)))]) [0, 1] rfl ?_
                    exact JOIN_178 CA hIA (by omega) h2A.1
                  · refine y_aload_n hB 1 dL_law_168 rfl rfl ?_
                    refine y_iconst (v := 3) hB dL_law_169 rfl ?_
                    refine y_iconst (v := 1) hB dL_law_170 rfl ?_
                    refine m_VK hB msX6_set q325 (s_set _ G b CA S 3 1 0 hIA (by omega) (by omega) (by omega)) Zs_call (Zs_warm hZ) (t := 0) (by decide) (by decide) rfl rfl rfl rfl rfl ⟨Nat.le_of_ble_eq_true rfl, Nat.le_of_ble_eq_true rfl⟩ (Nat.le_of_ble_eq_true rfl) ⟨rfl, rfl⟩ ⟨Nat.le_of_ble_eq_true rfl, Nat.le_of_ble_eq_true rfl⟩ dL_law_171 (k_WI (fun v_171 C_171 h_171 => ?_))
                    obtain ⟨hv_171, hI_171, h3_171, hr_171, ha_171⟩ := id h_171
                    refine y_iconst (v := 2) hB dL_law_174 rfl ?_
                    refine y_icmp_ne hB 201 dL_law_175 (by decide) (by omega) (by omega) (fun c_175 => ?_) (fun c_175 => ?_)
                    · exfalso
                      omega
                    · refine y_sub (lv' := [(0, .ref sb), (1, .ref (ad b (0)))]) [0, 1] rfl ?_
                      exact JOIN_178 C_171 hI_171 (by omega) (by have h9 := hr_171 0; rw [if_neg (by omega)] at h9; omega)
              · refine y_iload_n hB 2 dL_law_70 rfl rfl ?_
                refine y_if_eq hB 153 dL_law_71 (by decide) (by omega) (fun c_71 => ?_) (fun c_71 => ?_)
                · exfalso
                  omega
                · refine y_aload_n hB 0 dL_law_74 rfl rfl ?_
                  refine y_iconst (v := 1) hB dL_law_75 rfl ?_
                  refine y_iload hB 4 dL_law_76 rfl ?_
                  refine y_iadd (t := k + 1) hB dL_law_78 (by omega) ?_
                  refine m_SK hB msL_cell q491 (tL_cell _ G b CA S sb L xs (k + 1) hL (by omega)) SX_call (SX_warm hX) rfl rfl ⟨Nat.le_of_ble_eq_true rfl, Nat.le_of_ble_eq_true rfl⟩ (Nat.le_of_ble_eq_true rfl) ⟨rfl, rfl⟩ ⟨Nat.le_of_ble_eq_true rfl, Nat.le_of_ble_eq_true rfl⟩ dL_law_79 (k_RI (fun v_79 h_79 => ?_))
                  refine y_istore (lv' := [(5, .int (iI (v_79))), (0, .ref sb), (1, .ref (ad b (0))), (2, .int (iI (1))), (3, .int (iI (m))), (4, .int (iI (k)))]) hB dL_law_82 (by decide) rfl ?_
                  refine y_aload_n hB 2 dL_law_84 rfl rfl ?_
                  refine y_iload hB 0 dL_law_85 rfl ?_
                  refine y_bipush (v := 111) hB dL_law_87 (by decide) ?_
                  refine y_irem hB dL_law_89 (by omega) (by omega) ?_
                  obtain ⟨u, hu_e⟩ : ∃ u : Int, v_79 % 111 = u := ⟨_, rfl⟩
                  have hu : 0 ≤ u ∧ u ≤ 110 := (by omega)
                  rw [hu_e]
                  refine y_iconst (v := 1) hB dL_law_90 rfl ?_
                  refine y_iload hB 0 dL_law_91 rfl ?_
                  refine y_bipush (v := 7) hB dL_law_93 (by decide) ?_
                  refine y_ishrR hB dL_law_95 ?_
                  rw [show (iI (v_79)) >>> ((iI (7)) &&& 31) = iI (v_79 / 128) from shr_7 h_79]
                  refine y_bipush (v := 9) hB dL_law_96 (by decide) ?_
                  refine y_irem hB dL_law_98 (by omega) (by omega) ?_
                  refine y_iadd (t := (v_79 / 128) % 9 + 1) hB dL_law_99 (by omega) ?_
                  obtain ⟨t, ht_e⟩ : ∃ t : Int, (v_79 / 128) % 9 + 1 = t := ⟨_, rfl⟩
                  have ht : 1 ≤ t ∧ t ≤ 9 := (by omega)
                  rw [ht_e]
                  refine m_V hB msX6_addPerson q188 (s_add _ G b CA S u t 0 hIA (by omega) (by omega) (by omega) (by omega)) (t := 0) (by decide) (by decide) rfl rfl rfl rfl rfl ⟨Nat.le_of_ble_eq_true rfl, Nat.le_of_ble_eq_true rfl⟩ (Nat.le_of_ble_eq_true rfl) ⟨rfl, rfl⟩ ⟨Nat.le_of_ble_eq_true rfl, Nat.le_of_ble_eq_true rfl⟩ dL_law_100 (k_WI (fun v_100 C_100 h_100 => ?_))
                  obtain ⟨hv_100, hI_100, h3_100, hu_100, hr_100⟩ := id h_100
                  have h20_100 : C_100 2 0 = 8 ∧ C_100 2 3 = 2 := by rw [hr_100 2 (by omega)]; exact h2A
                  rw [h3A] at hu_100
                  refine y_iload hB 5 dL_law_103 rfl ?_
                  refine y_icmp_ne hB 145 dL_law_105 (by decide) (by omega) (by omega) (fun c_105 => ?_) (fun c_105 => ?_)
                  · exfalso
                    omega
                  · refine y_aload_n hB 2 dL_law_108 rfl rfl ?_
                    refine y_iload hB 5 dL_law_109 rfl ?_
                    refine y_bipush (v := 7) hB dL_law_111 (by decide) ?_
                    refine m_V hB msX6_person q364 (sp_7 _ G b C_100 C_100 S k 0 (Sc.rf C_100) hI_100 (by omega) (by omega)) (t := 0) (by decide) (by decide) rfl rfl rfl rfl rfl ⟨Nat.le_of_ble_eq_true rfl, Nat.le_of_ble_eq_true rfl⟩ (Nat.le_of_ble_eq_true rfl) ⟨rfl, rfl⟩ ⟨Nat.le_of_ble_eq_true rfl, Nat.le_of_ble_eq_true rfl⟩ dL_law_113 (k_RI (fun v_113 h_113 => ?_))
                    have hb_113 := bp_7 hI_100 (u := k) (by omega)
                    refine y_iload hB 0 dL_law_116 rfl ?_
                    refine y_bipush (v := 111) hB dL_law_118 (by decide) ?_
                    refine y_irem hB dL_law_120 (by omega) (by omega) ?_
                    refine y_bipush (v := 10) hB dL_law_121 (by decide) ?_
                    refine y_iconst (v := 1) hB dL_law_123 rfl ?_
                    refine y_iload hB 0 dL_law_124 rfl ?_
                    refine y_bipush (v := 7) hB dL_law_126 (by decide) ?_
                    refine y_ishrR hB dL_law_128 ?_
                    rw [show (iI (v_79)) >>> ((iI (7)) &&& 31) = iI (v_79 / 128) from shr_7 h_79]
                    refine y_bipush (v := 9) hB dL_law_129 (by decide) ?_
                    refine y_irem hB dL_law_131 (by omega) (by omega) ?_
                    refine y_iadd (t := (v_79 / 128) % 9 + 1) hB dL_law_132 (by omega) ?_
                    refine y_imul (t := 10 * ((v_79 / 128) % 9) + 10) hB dL_law_133 (by omega) ?_
                    refine y_iadd (t := 10 * ((v_79 / 128) % 9) + v_79 % 111 + 10) hB dL_law_134 (by omega) ?_
                    refine y_bipush (v := 40) hB dL_law_135 (by decide) ?_
                    refine y_iadd (t := 10 * ((v_79 / 128) % 9) + v_79 % 111 + 50) hB dL_law_137 (by omega) ?_
                    refine y_icmp_ne hB 145 dL_law_138 (by decide) (by omega) (by omega) (fun c_138 => ?_) (fun c_138 => ?_)
                    · exfalso
                      omega
                    · refine y_iconst (v := 1) hB dL_law_141 rfl ?_
                      refine y_goto hB 146 dL_law_142 (by decide) ?_
                      refine y_istore_n (lv' := [(2, .int (iI (1))), (5, .int (iI (v_79))), (0, .ref sb), (1, .ref (ad b (0))), (3, .int (iI (m))), (4, .int (iI (k)))]) hB dL_law_146 rfl (by decide) rfl ?_
                      refine y_iinc (v := k + 1) (lv' := [(4, .int (iI (k + 1))), (2, .int (iI (1))), (5, .int (iI (v_79))), (0, .ref sb), (1, .ref (ad b (0))), (3, .int (iI (m)))]) hB 5 dL_law_147 rfl (by omega) (by decide) rfl ?_
                      refine y_goto hB 64 dL_law_150 (by decide) ?_
                      refine y_sub (lv' := [(0, .ref sb), (1, .ref (ad b (0))), (2, .int (iI (1))), (3, .int (iI (m))), (4, .int (iI (k + 1)))]) [3, 4, 1, 5, 0] rfl ?_
                      exact ih_64 (k + 1) C_100 (by omega) hI_100 (by omega) h20_100 (by omega)
          refine y_sub (lv' := [(0, .ref sb), (1, .ref (ad b (0))), (2, .int (iI (1))), (3, .int (iI (m))), (4, .int (iI (0)))]) [4, 3, 2, 1, 0] rfl ?_
          exact LOOP_64 ((m).toNat + 1) 0 C_37 (by omega) hI_37 (by omega) hrow_37 (by omega)
