set_option maxHeartbeats 4000000 in
theorem tL_isPage (l : Launch) (G : gG) (b : Nat) (C S : gM) (N : Int) (hI : Iv C N) (hN : N ≤ 500) (hP : C 1 3 ≤ 6) : Ct l G b yL_isPage cL_isPage 8 (some .boolean) rmL_isPage [.ref (ad b (0))] 578 (wM G b C S) (WI G b S (fun v C' => v = 1 ∧ Sc C C')) := by
  refine CtK_of (by decide) (Nat.le_of_ble_eq_true rfl) q559 ?_
  intro x hl hB hE _
  subst hl
  show YM x G b 0 0 C S 0 [(0, .ref (ad b (0)))] []
  have hb3 := bc_1 hI
  refine y_iconst (v := 0) hB dL_isPage_0 rfl ?_
  refine y_istore_n (lv' := [(1, .int (iI (0))), (0, .ref (ad b (0)))]) hB dL_isPage_1 rfl (by decide) rfl ?_
  refine y_iconst (v := 0) hB dL_isPage_2 rfl ?_
  refine y_istore_n (lv' := [(2, .int (iI (0))), (1, .int (iI (0))), (0, .ref (ad b (0)))]) hB dL_isPage_3 rfl (by decide) rfl ?_
  refine y_iconst (v := 0) hB dL_isPage_4 rfl ?_
  refine y_istore_n (lv' := [(3, .int (iI (0))), (2, .int (iI (0))), (1, .int (iI (0))), (0, .ref (ad b (0)))]) hB dL_isPage_5 rfl (by decide) rfl ?_
  refine y_iconst (v := 1) hB dL_isPage_6 rfl ?_
  refine y_istore (lv' := [(4, .int (iI (1))), (3, .int (iI (0))), (2, .int (iI (0))), (1, .int (iI (0))), (0, .ref (ad b (0)))]) hB dL_isPage_7 (by decide) rfl ?_
  refine y_aload_n hB 4 dL_isPage_9 rfl rfl ?_
  refine y_iconst (v := 0) hB dL_isPage_10 rfl ?_
  refine m_V hB msX6_page q411 (s_page _ G b C C S 0 N (Sc.rf C) hI (by omega) (by omega)) (t := 0) (by decide) (by decide) rfl rfl rfl rfl rfl ⟨Nat.le_of_ble_eq_true rfl, Nat.le_of_ble_eq_true rfl⟩ (Nat.le_of_ble_eq_true rfl) ⟨rfl, rfl⟩ ⟨Nat.le_of_ble_eq_true rfl, Nat.le_of_ble_eq_true rfl⟩ dL_isPage_11 (k_WI (fun v_11 C_11 h_11 => ?_))
  obtain ⟨hS_11, hLq, hv_11⟩ := h_11
  obtain ⟨hf1, hf2, hf3, hf4, hf5⟩ := Lq_facts hI hN hLq
  refine y_istore (lv' := [(5, .int (iI (v_11))), (4, .int (iI (1))), (3, .int (iI (0))), (2, .int (iI (0))), (1, .int (iI (0))), (0, .ref (ad b (0)))]) hB dL_isPage_14 (by decide) rfl ?_
  have LOOP_16 : ∀ (fu : Nat) (r ln sr p : Int) (CM : gM), (0 ≤ r ∧ r ≤ C_11 573 2) → (p = pgv C_11 r) → (ln = smI (fun r => lnI C (C_11 577 r)) r) → (sr = mkI (C_11 577) r) → (Sc C CM) → C_11 573 2 - r < (fu : Int) → YM x G b 0 0 CM S 16 [(0, .ref (ad b (0))), (1, .int (iI (ln))), (2, .int (iI (sr))), (3, .int (iI (r))), (4, .int (iI (1))), (5, .int (iI (p)))] [] := by
    intro fu
    induction fu with
    | zero => intro r ln sr p CM hr hp hln hsr hSM hm_16; exfalso; omega
    | succ fu ih_16 =>
      intro r ln sr p CM hr hp hln hsr hSM hm_16
      have hpb : -5 ≤ p ∧ p ≤ 20 := by
        have hpv := pgv_or C_11 r
        have hge : r < C_11 573 2 → 0 ≤ C_11 577 r ∧ C_11 577 r < C 1 3 := fun z => (hf2 r hr.1 z).1
        omega
      refine y_iload hB 5 dL_isPage_16 rfl ?_
      refine y_if_lt hB 183 dL_isPage_18 (by decide) (by omega) (fun c_18 => ?_) (fun c_18 => ?_)
      · have hpv := pgv_or C_11 r
        have hge : r < C_11 573 2 → 0 ≤ C_11 577 r := fun z => (hf2 r hr.1 z).1.1
        have hrm : r = C_11 573 2 := by omega
        have hln2 : ln = smI (fun r => lnI C (C_11 577 r)) (C_11 573 2) := by rw [hln, hrm]
        have hsr2 : sr = mkI (C_11 577) (C_11 573 2) := by rw [hsr, hrm]
        have hfj : ∀ j : Int, 0 ≤ j → j < C_11 573 2 → 0 ≤ C_11 577 j ∧ C_11 577 j ≤ 5 := fun j a1 a2 => by have h9 := (hf2 j a1 a2).1; omega
        have hsb : 0 ≤ sr ∧ sr < 64 := by rw [hsr2]; exact mkI_lt hfj
        refine y_iload hB 4 dL_isPage_183 rfl ?_
        refine y_if_eq hB 219 dL_isPage_185 (by decide) (by omega) (fun c_185 => ?_) (fun c_185 => ?_)
        · exfalso
          omega
        · refine y_aload_n hB 0 dL_isPage_188 rfl rfl ?_
          refine y_bipush (v := 9) hB dL_isPage_189 (by decide) ?_
          refine m_V hB msX6_count q462 (s_freeL _ G b C CM S C_11 N hSM hI (by omega) hLq) (t := 0) (by decide) (by decide) rfl rfl rfl rfl rfl ⟨Nat.le_of_ble_eq_true rfl, Nat.le_of_ble_eq_true rfl⟩ (Nat.le_of_ble_eq_true rfl) ⟨rfl, rfl⟩ ⟨Nat.le_of_ble_eq_true rfl, Nat.le_of_ble_eq_true rfl⟩ dL_isPage_191 (k_WI (fun v_191 C_191 h_191 => ?_))
          obtain ⟨hS_191, hv_191⟩ := id h_191
          refine y_aload_n hB 0 dL_isPage_194 rfl rfl ?_
          refine y_bipush (v := 12) hB dL_isPage_195 (by decide) ?_
          refine m_V hB msX6_count q462 (sc_12 _ G b C C_191 S N hS_191 hI (by omega)) (t := 0) (by decide) (by decide) rfl rfl rfl rfl rfl ⟨Nat.le_of_ble_eq_true rfl, Nat.le_of_ble_eq_true rfl⟩ (Nat.le_of_ble_eq_true rfl) ⟨rfl, rfl⟩ ⟨Nat.le_of_ble_eq_true rfl, Nat.le_of_ble_eq_true rfl⟩ dL_isPage_197 (k_RI (fun v_197 h_197 => ?_))
          have hb_197 := bc_12 hI
          refine y_iload_n hB 1 dL_isPage_200 rfl rfl ?_
          refine y_isub (t := -ln + v_197) hB dL_isPage_201 (by omega) ?_
          refine y_icmp_ne hB 219 dL_isPage_202 (by decide) (by omega) (by omega) (fun c_202 => ?_) (fun c_202 => ?_)
          · exfalso
            omega
          · refine y_iload_n hB 1 dL_isPage_205 rfl rfl ?_
            refine y_aload_n hB 0 dL_isPage_206 rfl rfl ?_
            refine y_bipush (v := 12) hB dL_isPage_207 (by decide) ?_
            refine m_V hB msX6_count q462 (sc_12 _ G b C C_191 S N hS_191 hI (by omega)) (t := 0) (by decide) (by decide) rfl rfl rfl rfl rfl ⟨Nat.le_of_ble_eq_true rfl, Nat.le_of_ble_eq_true rfl⟩ (Nat.le_of_ble_eq_true rfl) ⟨rfl, rfl⟩ ⟨Nat.le_of_ble_eq_true rfl, Nat.le_of_ble_eq_true rfl⟩ dL_isPage_209 (k_RI (fun v_209 h_209 => ?_))
            have hb_209 := bc_12 hI
            refine y_icmp_gt hB 219 dL_isPage_212 (by decide) (by omega) (by omega) (fun c_212 => ?_) (fun c_212 => ?_)
            · exfalso
              omega
            · refine y_iconst (v := 1) hB dL_isPage_215 rfl ?_
              refine y_goto hB 220 dL_isPage_216 (by decide) ?_
              refine y_istore (lv' := [(4, .int (iI (1))), (0, .ref (ad b (0))), (1, .int (iI (ln))), (2, .int (iI (sr))), (3, .int (iI (r))), (5, .int (iI (p)))]) hB dL_isPage_220 (by decide) rfl ?_
              refine y_iconst (v := 0) hB dL_isPage_222 rfl ?_
              refine y_istore (lv' := [(5, .int (iI (0))), (4, .int (iI (1))), (0, .ref (ad b (0))), (1, .int (iI (ln))), (2, .int (iI (sr))), (3, .int (iI (r)))]) hB dL_isPage_223 (by decide) rfl ?_
              have LOOP_225 : ∀ (fu : Nat) (k : Int) (CK : gM), (0 ≤ k ∧ k ≤ C 1 3) → (Sc C CK) → C 1 3 - k < (fu : Int) → YM x G b 0 0 CK S 225 [(0, .ref (ad b (0))), (2, .int (iI (sr))), (4, .int (iI (1))), (5, .int (iI (k)))] [] := by
                intro fu
                induction fu with
                | zero => intro k CK hk hSK hm_225; exfalso; omega
                | succ fu ih_225 =>
                  intro k CK hk hSK hm_225
                  refine y_iload hB 3 dL_isPage_225 rfl ?_
                  refine y_aload_n hB 0 dL_isPage_227 rfl rfl ?_
                  refine y_iconst (v := 1) hB dL_isPage_228 rfl ?_
                  refine m_V hB msX6_count q462 (sc_1 _ G b C CK S N hSK hI (by omega)) (t := 0) (by decide) (by decide) rfl rfl rfl rfl rfl ⟨Nat.le_of_ble_eq_true rfl, Nat.le_of_ble_eq_true rfl⟩ (Nat.le_of_ble_eq_true rfl) ⟨rfl, rfl⟩ ⟨Nat.le_of_ble_eq_true rfl, Nat.le_of_ble_eq_true rfl⟩ dL_isPage_229 (k_RI (fun v_229 h_229 => ?_))
                  have hb_229 := bc_1 hI
                  refine y_icmp_ge hB 301 dL_isPage_232 (by decide) (by omega) (by omega) (fun c_232 => ?_) (fun c_232 => ?_)
                  · refine y_iload hB 2 dL_isPage_301 rfl ?_
                    exact m_wi hB hE dL_isPage_303 rfl (⟨rfl, hSK⟩)
                  · refine y_iload hB 2 dL_isPage_235 rfl ?_
                    refine y_if_eq hB 301 dL_isPage_237 (by decide) (by omega) (fun c_237 => ?_) (fun c_237 => ?_)
                    · exfalso
                      omega
                    · have JOIN_295 : ∀ (CJ : gM), (Sc C CJ) → YM x G b 0 0 CJ S 295 [(0, .ref (ad b (0))), (2, .int (iI (sr))), (4, .int (iI (1))), (5, .int (iI (k)))] [] := by
                        intro CJ hSJ
                        refine y_iinc (v := k + 1) (lv' := [(5, .int (iI (k + 1))), (0, .ref (ad b (0))), (2, .int (iI (sr))), (4, .int (iI (1)))]) hB 3 dL_isPage_295 rfl (by omega) (by decide) rfl ?_
                        refine y_goto hB 225 dL_isPage_298 (by decide) ?_
                        refine y_sub (lv' := [(0, .ref (ad b (0))), (2, .int (iI (sr))), (4, .int (iI (1))), (5, .int (iI (k + 1)))]) [1, 2, 3, 0] rfl ?_
                        exact ih_225 (k + 1) CJ (by omega) hSJ (by omega)
                      refine y_iload_n hB 1 dL_isPage_240 rfl rfl ?_
                      refine y_iload hB 3 dL_isPage_241 rfl ?_
                      refine y_ishrR hB dL_isPage_243 ?_
                      refine y_iconst (v := 1) hB dL_isPage_244 rfl ?_
                      refine y_iandR hB dL_isPage_245 ?_
                      refine y_iconst (v := 1) hB dL_isPage_246 rfl ?_
                      rw [show ((iI (sr)) >>> ((iI (k)) &&& 31)) &&& (iI (1)) = iI (sr / p2 k % 2) from bit_at hsb (by omega)]
                      refine y_icmp_eq hB 288 dL_isPage_247 (by decide) (by omega) (by omega) (fun c_247 => ?_) (fun c_247 => ?_)
                      · refine y_iconst (v := 1) hB dL_isPage_288 rfl ?_
                        refine y_goto hB 293 dL_isPage_289 (by decide) ?_
                        refine y_istore (lv' := [(4, .int (iI (1))), (0, .ref (ad b (0))), (2, .int (iI (sr))), (5, .int (iI (k)))]) hB dL_isPage_293 (by decide) rfl ?_
                        refine y_sub (lv' := [(0, .ref (ad b (0))), (2, .int (iI (sr))), (4, .int (iI (1))), (5, .int (iI (k)))]) [1, 2, 0, 3] rfl ?_
                        exact JOIN_295 CK hSK
                      · refine y_aload_n hB 0 dL_isPage_250 rfl rfl ?_
                        refine y_iload hB 3 dL_isPage_251 rfl ?_
                        refine y_iconst (v := 2) hB dL_isPage_253 rfl ?_
                        refine m_V hB msX6_person q364 (sp_2 _ G b C CK S k N hSK hI (by omega) (by omega)) (t := 0) (by decide) (by decide) rfl rfl rfl rfl rfl ⟨Nat.le_of_ble_eq_true rfl, Nat.le_of_ble_eq_true rfl⟩ (Nat.le_of_ble_eq_true rfl) ⟨rfl, rfl⟩ ⟨Nat.le_of_ble_eq_true rfl, Nat.le_of_ble_eq_true rfl⟩ dL_isPage_254 (k_RI (fun v_254 h_254 => ?_))
                        have hb_254 := bp_2 hI (u := k) (by omega)
                        refine y_iconst (v := 2) hB dL_isPage_257 rfl ?_
                        refine y_icmp_ne hB 288 dL_isPage_258 (by decide) (by omega) (by omega) (fun c_258 => ?_) (fun c_258 => ?_)
                        · refine y_iconst (v := 1) hB dL_isPage_288 rfl ?_
                          refine y_goto hB 293 dL_isPage_289 (by decide) ?_
                          refine y_istore (lv' := [(4, .int (iI (1))), (0, .ref (ad b (0))), (2, .int (iI (sr))), (5, .int (iI (k)))]) hB dL_isPage_293 (by decide) rfl ?_
                          refine y_sub (lv' := [(0, .ref (ad b (0))), (2, .int (iI (sr))), (4, .int (iI (1))), (5, .int (iI (k)))]) [1, 2, 0, 3] rfl ?_
                          exact JOIN_295 CK hSK
                        · refine y_aload_n hB 0 dL_isPage_261 rfl rfl ?_
                          refine y_iload hB 3 dL_isPage_262 rfl ?_
                          refine y_bipush (v := 10) hB dL_isPage_264 (by decide) ?_
                          refine m_V hB msX6_person q364 (sp_10 _ G b C CK S k N hSK hI (by omega) (by omega)) (t := 0) (by decide) (by decide) rfl rfl rfl rfl rfl ⟨Nat.le_of_ble_eq_true rfl, Nat.le_of_ble_eq_true rfl⟩ (Nat.le_of_ble_eq_true rfl) ⟨rfl, rfl⟩ ⟨Nat.le_of_ble_eq_true rfl, Nat.le_of_ble_eq_true rfl⟩ dL_isPage_266 (k_RI (fun v_266 h_266 => ?_))
                          have hb_266 := bp_10 hI (u := k) (by omega)
                          refine y_if_eq hB 288 dL_isPage_269 (by decide) (by omega) (fun c_269 => ?_) (fun c_269 => ?_)
                          · refine y_iconst (v := 1) hB dL_isPage_288 rfl ?_
                            refine y_goto hB 293 dL_isPage_289 (by decide) ?_
                            refine y_istore (lv' := [(4, .int (iI (1))), (0, .ref (ad b (0))), (2, .int (iI (sr))), (5, .int (iI (k)))]) hB dL_isPage_293 (by decide) rfl ?_
                            refine y_sub (lv' := [(0, .ref (ad b (0))), (2, .int (iI (sr))), (4, .int (iI (1))), (5, .int (iI (k)))]) [1, 2, 0, 3] rfl ?_
                            exact JOIN_295 CK hSK
                          · have hno : ¬ lnI C k ≤ C_11 573 3 := fun z => by
                              obtain ⟨r0, a1, a2, a3⟩ := hf5 k hk.1 (by omega) (by omega) (by omega) z
                              have h9 := mk_bit hfj ⟨a1, a2⟩ a3
                              rw [← hsr2] at h9
                              omega
                            refine y_aload_n hB 0 dL_isPage_272 rfl rfl ?_
                            refine y_iload hB 3 dL_isPage_273 rfl ?_
                            refine y_iconst (v := 4) hB dL_isPage_275 rfl ?_
                            refine m_V hB msX6_person q364 (sp_4 _ G b C CK S k N hSK hI (by omega) (by omega)) (t := 0) (by decide) (by decide) rfl rfl rfl rfl rfl ⟨Nat.le_of_ble_eq_true rfl, Nat.le_of_ble_eq_true rfl⟩ (Nat.le_of_ble_eq_true rfl) ⟨rfl, rfl⟩ ⟨Nat.le_of_ble_eq_true rfl, Nat.le_of_ble_eq_true rfl⟩ dL_isPage_276 (k_RI (fun v_276 h_276 => ?_))
                            have hb_276 := bp_4 hI (u := k) (by omega)
                            refine y_aload_n hB 0 dL_isPage_279 rfl rfl ?_
                            refine y_bipush (v := 9) hB dL_isPage_280 (by decide) ?_
                            refine m_V hB msX6_count q462 (s_freeL _ G b C CK S C_11 N hSK hI (by omega) hLq) (t := 0) (by decide) (by decide) rfl rfl rfl rfl rfl ⟨Nat.le_of_ble_eq_true rfl, Nat.le_of_ble_eq_true rfl⟩ (Nat.le_of_ble_eq_true rfl) ⟨rfl, rfl⟩ ⟨Nat.le_of_ble_eq_true rfl, Nat.le_of_ble_eq_true rfl⟩ dL_isPage_282 (k_WI (fun v_282 C_282 h_282 => ?_))
                            obtain ⟨hS_282, hv_282⟩ := id h_282
                            refine y_icmp_le hB 292 dL_isPage_285 (by decide) (by omega) (by omega) (fun c_285 => ?_) (fun c_285 => ?_)
                            · exfalso
                              omega
                            · refine y_iconst (v := 1) hB dL_isPage_288 rfl ?_
                              refine y_goto hB 293 dL_isPage_289 (by decide) ?_
                              refine y_istore (lv' := [(4, .int (iI (1))), (0, .ref (ad b (0))), (2, .int (iI (sr))), (5, .int (iI (k)))]) hB dL_isPage_293 (by decide) rfl ?_
                              refine y_sub (lv' := [(0, .ref (ad b (0))), (2, .int (iI (sr))), (4, .int (iI (1))), (5, .int (iI (k)))]) [1, 2, 0, 3] rfl ?_
                              exact JOIN_295 C_282 hS_282
              refine y_sub (lv' := [(0, .ref (ad b (0))), (2, .int (iI (sr))), (4, .int (iI (1))), (5, .int (iI (0)))]) [2, 4, 1, 0] rfl ?_
              exact LOOP_225 ((C 1 3).toNat + 1) 0 C_191 (by omega) hS_191 (by omega)
      · have hpv := pgv_or C_11 r
        have hpr : r < C_11 573 2 ∧ p = C_11 577 r := by omega
        obtain ⟨hpu, hps, hpd⟩ := hf2 r hr.1 hpr.1
        rw [← hpr.2] at hpu hps hpd
        refine y_iload hB 4 dL_isPage_21 rfl ?_
        refine y_if_eq hB 183 dL_isPage_23 (by decide) (by omega) (fun c_23 => ?_) (fun c_23 => ?_)
        · exfalso
          omega
        · refine y_aload_n hB 0 dL_isPage_26 rfl rfl ?_
          refine y_iload hB 5 dL_isPage_27 rfl ?_
          refine y_iconst (v := 2) hB dL_isPage_29 rfl ?_
          refine m_V hB msX6_person q364 (sp_2 _ G b C CM S p N hSM hI (by omega) (by omega)) (t := 0) (by decide) (by decide) rfl rfl rfl rfl rfl ⟨Nat.le_of_ble_eq_true rfl, Nat.le_of_ble_eq_true rfl⟩ (Nat.le_of_ble_eq_true rfl) ⟨rfl, rfl⟩ ⟨Nat.le_of_ble_eq_true rfl, Nat.le_of_ble_eq_true rfl⟩ dL_isPage_30 (k_RI (fun v_30 h_30 => ?_))
          have hb_30 := bp_2 hI (u := p) (by omega)
          refine y_iconst (v := 2) hB dL_isPage_33 rfl ?_
          refine y_icmp_ne hB 53 dL_isPage_34 (by decide) (by omega) (by omega) (fun c_34 => ?_) (fun c_34 => ?_)
          · exfalso
            omega
          · refine y_aload_n hB 0 dL_isPage_37 rfl rfl ?_
            refine y_iload hB 5 dL_isPage_38 rfl ?_
            refine y_bipush (v := 10) hB dL_isPage_40 (by decide) ?_
            refine m_V hB msX6_person q364 (sp_10 _ G b C CM S p N hSM hI (by omega) (by omega)) (t := 0) (by decide) (by decide) rfl rfl rfl rfl rfl ⟨Nat.le_of_ble_eq_true rfl, Nat.le_of_ble_eq_true rfl⟩ (Nat.le_of_ble_eq_true rfl) ⟨rfl, rfl⟩ ⟨Nat.le_of_ble_eq_true rfl, Nat.le_of_ble_eq_true rfl⟩ dL_isPage_42 (k_RI (fun v_42 h_42 => ?_))
            have hb_42 := bp_10 hI (u := p) (by omega)
            refine y_iconst (v := 1) hB dL_isPage_45 rfl ?_
            refine y_icmp_ne hB 53 dL_isPage_46 (by decide) (by omega) (by omega) (fun c_46 => ?_) (fun c_46 => ?_)
            · exfalso
              omega
            · refine y_iconst (v := 1) hB dL_isPage_49 rfl ?_
              refine y_goto hB 54 dL_isPage_50 (by decide) ?_
              refine y_istore (lv' := [(4, .int (iI (1))), (0, .ref (ad b (0))), (1, .int (iI (ln))), (2, .int (iI (sr))), (3, .int (iI (r))), (5, .int (iI (p)))]) hB dL_isPage_54 (by decide) rfl ?_
              refine y_iload_n hB 4 dL_isPage_56 rfl rfl ?_
              have JOIN_153 : ∀ (CJ : gM), (Sc C CJ) → YM x G b 0 0 CJ S 153 [(0, .ref (ad b (0))), (1, .int (iI (ln))), (2, .int (iI (sr))), (3, .int (iI (r))), (4, .int (iI (1))), (5, .int (iI (p)))] [] := by
                intro CJ hSJ
                refine y_iload_n hB 1 dL_isPage_153 rfl rfl ?_
                refine y_aload_n hB 0 dL_isPage_154 rfl rfl ?_
                refine y_iload hB 5 dL_isPage_155 rfl ?_
                refine y_iconst (v := 4) hB dL_isPage_157 rfl ?_
                refine m_V hB msX6_person q364 (sp_4 _ G b C CJ S p N hSJ hI (by omega) (by omega)) (t := 0) (by decide) (by decide) rfl rfl rfl rfl rfl ⟨Nat.le_of_ble_eq_true rfl, Nat.le_of_ble_eq_true rfl⟩ (Nat.le_of_ble_eq_true rfl) ⟨rfl, rfl⟩ ⟨Nat.le_of_ble_eq_true rfl, Nat.le_of_ble_eq_true rfl⟩ dL_isPage_158 (k_RI (fun v_158 h_158 => ?_))
                have hb_158 := bp_4 hI (u := p) (by omega)
                refine y_iadd (t := ln + v_158) hB dL_isPage_161 (by omega) ?_
                refine y_istore_n (lv' := [(1, .int (iI (ln + v_158))), (0, .ref (ad b (0))), (2, .int (iI (sr))), (3, .int (iI (r))), (4, .int (iI (1))), (5, .int (iI (p)))]) hB dL_isPage_162 rfl (by decide) rfl ?_
                refine y_iload_n hB 2 dL_isPage_163 rfl rfl ?_
                refine y_iconst (v := 1) hB dL_isPage_164 rfl ?_
                refine y_iload hB 5 dL_isPage_165 rfl ?_
                refine y_ishl1 hB (by omega) dL_isPage_167 ?_
                refine y_ior hB (by rw [hsr]; exact mkI_lt (fun j a1 a2 => by have h9 := (hf2 j a1 (by omega)).1; omega)) (p2_lt (by omega)) dL_isPage_168 ?_
                refine y_istore_n (lv' := [(2, .int (iI (orI sr (p2 p)))), (1, .int (iI (ln + v_158))), (0, .ref (ad b (0))), (3, .int (iI (r))), (4, .int (iI (1))), (5, .int (iI (p)))]) hB dL_isPage_169 rfl (by decide) rfl ?_
                refine y_iinc (v := r + 1) (lv' := [(3, .int (iI (r + 1))), (2, .int (iI (orI sr (p2 p)))), (1, .int (iI (ln + v_158))), (0, .ref (ad b (0))), (4, .int (iI (1))), (5, .int (iI (p)))]) hB 3 dL_isPage_170 rfl (by omega) (by decide) rfl ?_
                refine y_aload_n hB 3 dL_isPage_173 rfl rfl ?_
                refine y_iload_n hB 0 dL_isPage_174 rfl rfl ?_
                refine m_V hB msX6_page q411 (s_pageL _ G b C CJ S C_11 (r + 1) N hSJ hI (by omega) hLq (by omega)) (t := 0) (by decide) (by decide) rfl rfl rfl rfl rfl ⟨Nat.le_of_ble_eq_true rfl, Nat.le_of_ble_eq_true rfl⟩ (Nat.le_of_ble_eq_true rfl) ⟨rfl, rfl⟩ ⟨Nat.le_of_ble_eq_true rfl, Nat.le_of_ble_eq_true rfl⟩ dL_isPage_175 (k_WI (fun v_175 C_175 h_175 => ?_))
                obtain ⟨hS_175, hv_175⟩ := id h_175
                refine y_istore (lv' := [(5, .int (iI (v_175))), (3, .int (iI (r + 1))), (2, .int (iI (orI sr (p2 p)))), (1, .int (iI (ln + v_158))), (0, .ref (ad b (0))), (4, .int (iI (1)))]) hB dL_isPage_178 (by decide) rfl ?_
                refine y_goto hB 16 dL_isPage_180 (by decide) ?_
                refine y_sub (lv' := [(0, .ref (ad b (0))), (1, .int (iI (ln + v_158))), (2, .int (iI (orI sr (p2 p)))), (3, .int (iI (r + 1))), (4, .int (iI (1))), (5, .int (iI (v_175)))]) [4, 3, 2, 1, 5, 0] rfl ?_
                exact ih_16 (r + 1) (ln + v_158) (orI sr (p2 p)) v_175 C_175 (by omega) hv_175 (by rw [smI_s _ hr.1, ← hln, ← hpr.2]; omega) (by rw [mkI_s _ hr.1, ← hsr, ← hpr.2]) hS_175 (by omega)
              refine y_if_le hB 153 dL_isPage_57 (by decide) (by omega) (fun c_57 => ?_) (fun c_57 => ?_)
              · refine y_sub (lv' := [(0, .ref (ad b (0))), (1, .int (iI (ln))), (2, .int (iI (sr))), (3, .int (iI (r))), (4, .int (iI (1))), (5, .int (iI (p)))]) [1, 2, 3, 4, 0, 5] rfl ?_
                exact JOIN_153 CM hSM
              · refine y_aload_n hB 1 dL_isPage_60 rfl rfl ?_
                refine y_iload_n hB 4 dL_isPage_61 rfl rfl ?_
                refine y_iconst (v := 1) hB dL_isPage_62 rfl ?_
                refine y_isub (t := r - 1) hB dL_isPage_63 (by omega) ?_
                refine m_V hB msX6_page q411 (s_pageL _ G b C CM S C_11 (r - 1) N hSM hI (by omega) hLq (by omega)) (t := 0) (by decide) (by decide) rfl rfl rfl rfl rfl ⟨Nat.le_of_ble_eq_true rfl, Nat.le_of_ble_eq_true rfl⟩ (Nat.le_of_ble_eq_true rfl) ⟨rfl, rfl⟩ ⟨Nat.le_of_ble_eq_true rfl, Nat.le_of_ble_eq_true rfl⟩ dL_isPage_64 (k_WI (fun v_64 C_64 h_64 => ?_))
                obtain ⟨hS_64, hv_64⟩ := id h_64
                have hav := pgv_or C_11 (r - 1)
                have hpa : v_64 = C_11 577 (r - 1) := by omega
                obtain ⟨hau, has, had⟩ := hf2 (r - 1) (by omega) (by omega)
                have hor := hf3 (r - 1) r (by omega) (by omega) (by omega)
                rw [← hpa] at hau has had hor
                rw [← hpr.2] at hor
                refine y_istore (lv' := [(6, .int (iI (v_64))), (4, .int (iI (1))), (0, .ref (ad b (0))), (1, .int (iI (ln))), (2, .int (iI (sr))), (3, .int (iI (r))), (5, .int (iI (p)))]) hB dL_isPage_67 (by decide) rfl ?_
                refine y_aload_n hB 2 dL_isPage_69 rfl rfl ?_
                refine y_iload hB 0 dL_isPage_70 rfl ?_
                refine y_iconst (v := 1) hB dL_isPage_72 rfl ?_
                refine m_V hB msX6_person q364 (sp_1 _ G b C C_64 S v_64 N hS_64 hI (by omega) (by omega)) (t := 0) (by decide) (by decide) rfl rfl rfl rfl rfl ⟨Nat.le_of_ble_eq_true rfl, Nat.le_of_ble_eq_true rfl⟩ (Nat.le_of_ble_eq_true rfl) ⟨rfl, rfl⟩ ⟨Nat.le_of_ble_eq_true rfl, Nat.le_of_ble_eq_true rfl⟩ dL_isPage_73 (k_RI (fun v_73 h_73 => ?_))
                have hb_73 := bp_1 hI (u := v_64) (by omega)
                refine y_aload_n hB 2 dL_isPage_76 rfl rfl ?_
                refine y_iload hB 6 dL_isPage_77 rfl ?_
                refine y_iconst (v := 1) hB dL_isPage_79 rfl ?_
                refine m_V hB msX6_person q364 (sp_1 _ G b C C_64 S p N hS_64 hI (by omega) (by omega)) (t := 0) (by decide) (by decide) rfl rfl rfl rfl rfl ⟨Nat.le_of_ble_eq_true rfl, Nat.le_of_ble_eq_true rfl⟩ (Nat.le_of_ble_eq_true rfl) ⟨rfl, rfl⟩ ⟨Nat.le_of_ble_eq_true rfl, Nat.le_of_ble_eq_true rfl⟩ dL_isPage_80 (k_RI (fun v_80 h_80 => ?_))
                have hb_80 := bp_1 hI (u := p) (by omega)
                refine y_isub (t := v_73 - v_80) hB dL_isPage_83 (by omega) ?_
                refine y_istore (lv' := [(7, .int (iI (v_73 - v_80))), (6, .int (iI (v_64))), (4, .int (iI (1))), (0, .ref (ad b (0))), (1, .int (iI (ln))), (2, .int (iI (sr))), (3, .int (iI (r))), (5, .int (iI (p)))]) hB dL_isPage_84 (by decide) rfl ?_
                refine y_iload hB 2 dL_isPage_86 rfl ?_
                refine y_if_eq hB 150 dL_isPage_88 (by decide) (by omega) (fun c_88 => ?_) (fun c_88 => ?_)
                · exfalso
                  omega
                · refine y_iload hB 0 dL_isPage_91 rfl ?_
                  refine y_if_gt hB 146 dL_isPage_93 (by decide) (by omega) (fun c_93 => ?_) (fun c_93 => ?_)
                  · refine y_iconst (v := 1) hB dL_isPage_146 rfl ?_
                    refine y_goto hB 151 dL_isPage_147 (by decide) ?_
                    refine y_istore (lv' := [(4, .int (iI (1))), (7, .int (iI (v_73 - v_80))), (6, .int (iI (v_64))), (0, .ref (ad b (0))), (1, .int (iI (ln))), (2, .int (iI (sr))), (3, .int (iI (r))), (5, .int (iI (p)))]) hB dL_isPage_151 (by decide) rfl ?_
                    refine y_sub (lv' := [(0, .ref (ad b (0))), (1, .int (iI (ln))), (2, .int (iI (sr))), (3, .int (iI (r))), (4, .int (iI (1))), (5, .int (iI (p)))]) [3, 4, 5, 6, 0, 7] rfl ?_
                    exact JOIN_153 C_64 hS_64
                  · refine y_iload hB 0 dL_isPage_96 rfl ?_
                    refine y_if_ne hB 150 dL_isPage_98 (by decide) (by omega) (fun c_98 => ?_) (fun c_98 => ?_)
                    · exfalso
                      omega
                    · refine y_aload_n hB 3 dL_isPage_101 rfl rfl ?_
                      refine y_iload hB 1 dL_isPage_102 rfl ?_
                      refine y_bipush (v := 8) hB dL_isPage_104 (by decide) ?_
                      refine m_V hB msX6_person q364 (sp_8 _ G b C C_64 S v_64 N hS_64 hI (by omega) (by omega)) (t := 0) (by decide) (by decide) rfl rfl rfl rfl rfl ⟨Nat.le_of_ble_eq_true rfl, Nat.le_of_ble_eq_true rfl⟩ (Nat.le_of_ble_eq_true rfl) ⟨rfl, rfl⟩ ⟨Nat.le_of_ble_eq_true rfl, Nat.le_of_ble_eq_true rfl⟩ dL_isPage_106 (k_RI (fun v_106 h_106 => ?_))
                      have hb_106 := bp_8 hI (u := v_64) (by omega)
                      refine y_aload_n hB 3 dL_isPage_109 rfl rfl ?_
                      refine y_iload hB 7 dL_isPage_110 rfl ?_
                      refine y_bipush (v := 8) hB dL_isPage_112 (by decide) ?_
                      refine m_V hB msX6_person q364 (sp_8 _ G b C C_64 S p N hS_64 hI (by omega) (by omega)) (t := 0) (by decide) (by decide) rfl rfl rfl rfl rfl ⟨Nat.le_of_ble_eq_true rfl, Nat.le_of_ble_eq_true rfl⟩ (Nat.le_of_ble_eq_true rfl) ⟨rfl, rfl⟩ ⟨Nat.le_of_ble_eq_true rfl, Nat.le_of_ble_eq_true rfl⟩ dL_isPage_114 (k_RI (fun v_114 h_114 => ?_))
                      have hb_114 := bp_8 hI (u := p) (by omega)
                      refine y_icmp_lt hB 146 dL_isPage_117 (by decide) (by omega) (by omega) (fun c_117 => ?_) (fun c_117 => ?_)
                      · refine y_iconst (v := 1) hB dL_isPage_146 rfl ?_
                        refine y_goto hB 151 dL_isPage_147 (by decide) ?_
                        refine y_istore (lv' := [(4, .int (iI (1))), (7, .int (iI (v_73 - v_80))), (6, .int (iI (v_64))), (0, .ref (ad b (0))), (1, .int (iI (ln))), (2, .int (iI (sr))), (3, .int (iI (r))), (5, .int (iI (p)))]) hB dL_isPage_151 (by decide) rfl ?_
                        refine y_sub (lv' := [(0, .ref (ad b (0))), (1, .int (iI (ln))), (2, .int (iI (sr))), (3, .int (iI (r))), (4, .int (iI (1))), (5, .int (iI (p)))]) [3, 4, 5, 6, 0, 7] rfl ?_
                        exact JOIN_153 C_64 hS_64
                      · refine y_aload_n hB 3 dL_isPage_120 rfl rfl ?_
                        refine y_iload hB 1 dL_isPage_121 rfl ?_
                        refine y_bipush (v := 8) hB dL_isPage_123 (by decide) ?_
                        refine m_V hB msX6_person q364 (sp_8 _ G b C C_64 S v_64 N hS_64 hI (by omega) (by omega)) (t := 0) (by decide) (by decide) rfl rfl rfl rfl rfl ⟨Nat.le_of_ble_eq_true rfl, Nat.le_of_ble_eq_true rfl⟩ (Nat.le_of_ble_eq_true rfl) ⟨rfl, rfl⟩ ⟨Nat.le_of_ble_eq_true rfl, Nat.le_of_ble_eq_true rfl⟩ dL_isPage_125 (k_RI (fun v_125 h_125 => ?_))
                        have hb_125 := bp_8 hI (u := v_64) (by omega)
                        refine y_aload_n hB 3 dL_isPage_128 rfl rfl ?_
                        refine y_iload hB 7 dL_isPage_129 rfl ?_
                        refine y_bipush (v := 8) hB dL_isPage_131 (by decide) ?_
                        refine m_V hB msX6_person q364 (sp_8 _ G b C C_64 S p N hS_64 hI (by omega) (by omega)) (t := 0) (by decide) (by decide) rfl rfl rfl rfl rfl ⟨Nat.le_of_ble_eq_true rfl, Nat.le_of_ble_eq_true rfl⟩ (Nat.le_of_ble_eq_true rfl) ⟨rfl, rfl⟩ ⟨Nat.le_of_ble_eq_true rfl, Nat.le_of_ble_eq_true rfl⟩ dL_isPage_133 (k_RI (fun v_133 h_133 => ?_))
                        have hb_133 := bp_8 hI (u := p) (by omega)
                        refine y_icmp_ne hB 150 dL_isPage_136 (by decide) (by omega) (by omega) (fun c_136 => ?_) (fun c_136 => ?_)
                        · exfalso
                          omega
                        · refine y_iload hB 1 dL_isPage_139 rfl ?_
                          refine y_iload hB 7 dL_isPage_141 rfl ?_
                          refine y_icmp_ge hB 150 dL_isPage_143 (by decide) (by omega) (by omega) (fun c_143 => ?_) (fun c_143 => ?_)
                          · exfalso
                            omega
                          · refine y_iconst (v := 1) hB dL_isPage_146 rfl ?_
                            refine y_goto hB 151 dL_isPage_147 (by decide) ?_
                            refine y_istore (lv' := [(4, .int (iI (1))), (7, .int (iI (v_73 - v_80))), (6, .int (iI (v_64))), (0, .ref (ad b (0))), (1, .int (iI (ln))), (2, .int (iI (sr))), (3, .int (iI (r))), (5, .int (iI (p)))]) hB dL_isPage_151 (by decide) rfl ?_
                            refine y_sub (lv' := [(0, .ref (ad b (0))), (1, .int (iI (ln))), (2, .int (iI (sr))), (3, .int (iI (r))), (4, .int (iI (1))), (5, .int (iI (p)))]) [3, 4, 5, 6, 0, 7] rfl ?_
                            exact JOIN_153 C_64 hS_64
  refine y_sub (lv' := [(0, .ref (ad b (0))), (1, .int (iI (0))), (2, .int (iI (0))), (3, .int (iI (0))), (4, .int (iI (1))), (5, .int (iI (v_11)))]) [5, 4, 3, 2, 1, 0] rfl ?_
  exact LOOP_16 ((C_11 573 2).toNat + 1) 0 0 0 v_11 C_11 (by omega) hv_11 (smI_0 _).symm (mkI_0 _).symm hS_11 (by omega)
set_option maxHeartbeats 4000000 in
theorem tL_isAll (l : Launch) (G : gG) (b : Nat) (C S : gM) (N : Int) (hI : Iv C N) (hN : N ≤ 500) (hP : C 1 3 ≤ 6) : Ct l G b yL_isAll cL_isAll 9 (some .boolean) rmL_isAll [.ref (ad b (0))] 578 (wM G b C S) (WI G b S (fun v C' => v = 1 ∧ Sc C C')) := by
  refine CtK_of (by decide) (Nat.le_of_ble_eq_true rfl) q498 ?_
  intro x hl hB hE _
  subst hl
  show YM x G b 0 0 C S 0 [(0, .ref (ad b (0)))] []
  have hb3 := bc_1 hI
  have hps := p5_sum hI
  have hsg := sg_sum hI
  have hb_c3 := bc_3 hI
  refine y_iconst (v := 0) hB dL_isAll_0 rfl ?_
  refine y_istore_n (lv' := [(1, .int (iI (0))), (0, .ref (ad b (0)))]) hB dL_isAll_1 rfl (by decide) rfl ?_
  refine y_iconst (v := 0) hB dL_isAll_2 rfl ?_
  refine y_istore_n (lv' := [(2, .int (iI (0))), (1, .int (iI (0))), (0, .ref (ad b (0)))]) hB dL_isAll_3 rfl (by decide) rfl ?_
  refine y_iconst (v := 0) hB dL_isAll_4 rfl ?_
  refine y_istore_n (lv' := [(3, .int (iI (0))), (2, .int (iI (0))), (1, .int (iI (0))), (0, .ref (ad b (0)))]) hB dL_isAll_5 rfl (by decide) rfl ?_
  refine y_iconst (v := 1) hB dL_isAll_6 rfl ?_
  refine y_istore (lv' := [(4, .int (iI (1))), (3, .int (iI (0))), (2, .int (iI (0))), (1, .int (iI (0))), (0, .ref (ad b (0)))]) hB dL_isAll_7 (by decide) rfl ?_
  refine y_iconst (v := 0) hB dL_isAll_9 rfl ?_
  refine y_istore (lv' := [(5, .int (iI (0))), (4, .int (iI (1))), (3, .int (iI (0))), (2, .int (iI (0))), (1, .int (iI (0))), (0, .ref (ad b (0)))]) hB dL_isAll_10 (by decide) rfl ?_
  have LOOP_12 : ∀ (fu : Nat) (k f st sta : Int), (0 ≤ k ∧ k ≤ C 1 3) → (f = smI (fun i => C (4 * i + 1 + 4) 6) k) → (st = smI (fun i => if C (4 * i + 1 + 4) 2 = 3 then 0 else staleN C 1 (4 * i + 1 + 4) (C 1 4)) k) → (sta = smI (fun i => p5 (C (4 * i + 1 + 4) 2)) k) → C 1 3 - k < (fu : Int) → YM x G b 0 0 C S 12 [(0, .ref (ad b (0))), (1, .int (iI (f))), (2, .int (iI (st))), (3, .int (iI (sta))), (4, .int (iI (1))), (5, .int (iI (k)))] [] := by
    intro fu
    induction fu with
    | zero => intro k f st sta hk hf hst hsta hm_12; exfalso; omega
    | succ fu ih_12 =>
      intro k f st sta hk hf hst hsta hm_12
      refine y_iload hB 5 dL_isAll_12 rfl ?_
      refine y_aload_n hB 0 dL_isAll_14 rfl rfl ?_
      refine y_iconst (v := 1) hB dL_isAll_15 rfl ?_
      refine m_V hB msX6_count q462 (sc_1 _ G b C C S N (Sc.rf C) hI (by omega)) (t := 0) (by decide) (by decide) rfl rfl rfl rfl rfl ⟨Nat.le_of_ble_eq_true rfl, Nat.le_of_ble_eq_true rfl⟩ (Nat.le_of_ble_eq_true rfl) ⟨rfl, rfl⟩ ⟨Nat.le_of_ble_eq_true rfl, Nat.le_of_ble_eq_true rfl⟩ dL_isAll_16 (k_RI (fun v_16 h_16 => ?_))
      have hb_16 := bc_1 hI
      refine y_icmp_ge hB 90 dL_isAll_19 (by decide) (by omega) (by omega) (fun c_19 => ?_) (fun c_19 => ?_)
      · have hke : k = C 1 3 := by omega
        have hfE : f = fcN C := by rw [hf, hke]; rfl
        have hstE : st = stA C (C 1 4) := by rw [hst, hke]; rfl
        have hstaE : sta = ctS C 0 + 32 * ctS C 1 + 1024 * ctS C 2 + 32768 * ctS C 3 := by rw [hsta, hke]; exact hps
        have hb7 := bc_7 hI
        have hb8 := bc_8 hI
        refine y_iload hB 4 dL_isAll_90 rfl ?_
        refine y_if_eq hB 164 dL_isAll_92 (by decide) (by omega) (fun c_92 => ?_) (fun c_92 => ?_)
        · exfalso
          omega
        · refine y_iload_n hB 1 dL_isAll_95 rfl rfl ?_
          refine y_aload_n hB 0 dL_isAll_96 rfl rfl ?_
          refine y_bipush (v := 7) hB dL_isAll_97 (by decide) ?_
          refine m_V hB msX6_count q462 (sc_7 _ G b C C S N (Sc.rf C) hI (by omega)) (t := 0) (by decide) (by decide) rfl rfl rfl rfl rfl ⟨Nat.le_of_ble_eq_true rfl, Nat.le_of_ble_eq_true rfl⟩ (Nat.le_of_ble_eq_true rfl) ⟨rfl, rfl⟩ ⟨Nat.le_of_ble_eq_true rfl, Nat.le_of_ble_eq_true rfl⟩ dL_isAll_99 (k_RI (fun v_99 h_99 => ?_))
          have hb_99 := bc_7 hI
          refine y_icmp_ne hB 164 dL_isAll_102 (by decide) (by omega) (by omega) (fun c_102 => ?_) (fun c_102 => ?_)
          · exfalso
            omega
          · refine y_iload_n hB 2 dL_isAll_105 rfl rfl ?_
            refine y_aload_n hB 0 dL_isAll_106 rfl rfl ?_
            refine y_bipush (v := 8) hB dL_isAll_107 (by decide) ?_
            refine m_V hB msX6_count q462 (sc_8 _ G b C C S N (Sc.rf C) hI (by omega)) (t := 0) (by decide) (by decide) rfl rfl rfl rfl rfl ⟨Nat.le_of_ble_eq_true rfl, Nat.le_of_ble_eq_true rfl⟩ (Nat.le_of_ble_eq_true rfl) ⟨rfl, rfl⟩ ⟨Nat.le_of_ble_eq_true rfl, Nat.le_of_ble_eq_true rfl⟩ dL_isAll_109 (k_RI (fun v_109 h_109 => ?_))
            have hb_109 := bc_8 hI
            refine y_icmp_ne hB 164 dL_isAll_112 (by decide) (by omega) (by omega) (fun c_112 => ?_) (fun c_112 => ?_)
            · exfalso
              omega
            · refine y_iload_n hB 2 dL_isAll_115 rfl rfl ?_
              refine y_aload_n hB 0 dL_isAll_116 rfl rfl ?_
              refine y_iconst (v := 0) hB dL_isAll_117 rfl ?_
              refine m_V hB msX6_staleIn q454 (s_stale _ G b C C S 0 N (Sc.rf C) hI (by omega) (by omega)) (t := 0) (by decide) (by decide) rfl rfl rfl rfl rfl ⟨Nat.le_of_ble_eq_true rfl, Nat.le_of_ble_eq_true rfl⟩ (Nat.le_of_ble_eq_true rfl) ⟨rfl, rfl⟩ ⟨Nat.le_of_ble_eq_true rfl, Nat.le_of_ble_eq_true rfl⟩ dL_isAll_118 (k_RI (fun v_118 h_118 => ?_))
              have hz0 : stA C (0 + C 1 4) = stA C (C 1 4) := by rw [Int.zero_add]
              refine y_icmp_ne hB 164 dL_isAll_121 (by decide) (by omega) (by omega) (fun c_121 => ?_) (fun c_121 => ?_)
              · exfalso
                omega
              · refine y_iload_n hB 3 dL_isAll_124 rfl rfl ?_
                refine y_aload_n hB 0 dL_isAll_125 rfl rfl ?_
                refine y_iconst (v := 3) hB dL_isAll_126 rfl ?_
                refine m_V hB msX6_count q462 (sc_3 _ G b C C S N (Sc.rf C) hI (by omega)) (t := 0) (by decide) (by decide) rfl rfl rfl rfl rfl ⟨Nat.le_of_ble_eq_true rfl, Nat.le_of_ble_eq_true rfl⟩ (Nat.le_of_ble_eq_true rfl) ⟨rfl, rfl⟩ ⟨Nat.le_of_ble_eq_true rfl, Nat.le_of_ble_eq_true rfl⟩ dL_isAll_127 (k_RI (fun v_127 h_127 => ?_))
                have hb_127 := bc_3 hI
                refine y_aload_n hB 0 dL_isAll_130 rfl rfl ?_
                refine y_iconst (v := 4) hB dL_isAll_131 rfl ?_
                refine m_V hB msX6_count q462 (sc_4 _ G b C C S N (Sc.rf C) hI (by omega)) (t := 0) (by decide) (by decide) rfl rfl rfl rfl rfl ⟨Nat.le_of_ble_eq_true rfl, Nat.le_of_ble_eq_true rfl⟩ (Nat.le_of_ble_eq_true rfl) ⟨rfl, rfl⟩ ⟨Nat.le_of_ble_eq_true rfl, Nat.le_of_ble_eq_true rfl⟩ dL_isAll_132 (k_RI (fun v_132 h_132 => ?_))
                have hb_132 := bc_4 hI
                refine y_iconst (v := 5) hB dL_isAll_135 rfl ?_
                refine y_ishlR hB dL_isAll_136 ?_
                rw [show (iI v_132) <<< ((iI 5) &&& 31) = iI (32 * v_132) from shl_5 (by omega)]
                refine y_iadd (t := v_127 + 32 * v_132) hB dL_isAll_137 (by omega) ?_
                refine y_aload_n hB 0 dL_isAll_138 rfl rfl ?_
                refine y_iconst (v := 5) hB dL_isAll_139 rfl ?_
                refine m_V hB msX6_count q462 (sc_5 _ G b C C S N (Sc.rf C) hI (by omega)) (t := 0) (by decide) (by decide) rfl rfl rfl rfl rfl ⟨Nat.le_of_ble_eq_true rfl, Nat.le_of_ble_eq_true rfl⟩ (Nat.le_of_ble_eq_true rfl) ⟨rfl, rfl⟩ ⟨Nat.le_of_ble_eq_true rfl, Nat.le_of_ble_eq_true rfl⟩ dL_isAll_140 (k_RI (fun v_140 h_140 => ?_))
                have hb_140 := bc_5 hI
                refine y_bipush (v := 10) hB dL_isAll_143 (by decide) ?_
                refine y_ishlR hB dL_isAll_145 ?_
                rw [show (iI v_140) <<< ((iI 10) &&& 31) = iI (1024 * v_140) from shl_10 (by omega)]
                refine y_iadd (t := v_127 + 32 * v_132 + 1024 * v_140) hB dL_isAll_146 (by omega) ?_
                refine y_aload_n hB 0 dL_isAll_147 rfl rfl ?_
                refine y_bipush (v := 6) hB dL_isAll_148 (by decide) ?_
                refine m_V hB msX6_count q462 (sc_6 _ G b C C S N (Sc.rf C) hI (by omega)) (t := 0) (by decide) (by decide) rfl rfl rfl rfl rfl ⟨Nat.le_of_ble_eq_true rfl, Nat.le_of_ble_eq_true rfl⟩ (Nat.le_of_ble_eq_true rfl) ⟨rfl, rfl⟩ ⟨Nat.le_of_ble_eq_true rfl, Nat.le_of_ble_eq_true rfl⟩ dL_isAll_150 (k_RI (fun v_150 h_150 => ?_))
                have hb_150 := bc_6 hI
                refine y_bipush (v := 15) hB dL_isAll_153 (by decide) ?_
                refine y_ishlR hB dL_isAll_155 ?_
                rw [show (iI v_150) <<< ((iI 15) &&& 31) = iI (32768 * v_150) from shl_15 (by omega)]
                refine y_iadd (t := v_127 + 32 * v_132 + 1024 * v_140 + 32768 * v_150) hB dL_isAll_156 (by omega) ?_
                refine y_icmp_ne hB 164 dL_isAll_157 (by decide) (by omega) (by omega) (fun c_157 => ?_) (fun c_157 => ?_)
                · exfalso
                  omega
                · refine y_iconst (v := 1) hB dL_isAll_160 rfl ?_
                  refine y_goto hB 165 dL_isAll_161 (by decide) ?_
                  refine y_istore (lv' := [(4, .int (iI (1))), (0, .ref (ad b (0))), (1, .int (iI (f))), (2, .int (iI (st))), (3, .int (iI (sta))), (5, .int (iI (k)))]) hB dL_isAll_165 (by decide) rfl ?_
                  refine y_iconst (v := 0) hB dL_isAll_167 rfl ?_
                  refine y_istore (lv' := [(5, .int (iI (0))), (4, .int (iI (1))), (0, .ref (ad b (0))), (1, .int (iI (f))), (2, .int (iI (st))), (3, .int (iI (sta)))]) hB dL_isAll_168 (by decide) rfl ?_
                  refine y_iconst (v := 0) hB dL_isAll_170 rfl ?_
                  refine y_istore (lv' := [(6, .int (iI (0))), (5, .int (iI (0))), (4, .int (iI (1))), (0, .ref (ad b (0))), (1, .int (iI (f))), (2, .int (iI (st))), (3, .int (iI (sta)))]) hB dL_isAll_171 (by decide) rfl ?_
                  have LOOP_173 : ∀ (fu : Nat) (j gv : Int), (0 ≤ j ∧ j ≤ 6) → (gv = smI (sgN C) j) → 6 - j < (fu : Int) → YM x G b 0 0 C S 173 [(0, .ref (ad b (0))), (1, .int (iI (f))), (4, .int (iI (1))), (5, .int (iI (gv))), (6, .int (iI (j)))] [] := by
                    intro fu
                    induction fu with
                    | zero => intro j gv hj hgv hm_173; exfalso; omega
                    | succ fu ih_173 =>
                      intro j gv hj hgv hm_173
                      refine y_iload hB 4 dL_isAll_173 rfl ?_
                      refine y_bipush (v := 6) hB dL_isAll_175 (by decide) ?_
                      refine y_icmp_ge hB 198 dL_isAll_177 (by decide) (by omega) (by omega) (fun c_177 => ?_) (fun c_177 => ?_)
                      · have hgE : gv = fcN C := by rw [hgv, show j = 6 by omega]; exact hsg
                        refine y_iconst (v := 1) hB dL_isAll_198 rfl ?_
                        refine y_istore (lv' := [(6, .int (iI (1))), (0, .ref (ad b (0))), (1, .int (iI (f))), (4, .int (iI (1))), (5, .int (iI (gv)))]) hB dL_isAll_199 (by decide) rfl ?_
                        have LOOP_201 : ∀ (fu : Nat) (k : Int) (CL : gM), (1 ≤ k ∧ k ≤ 21) → (Sc C CL) → 21 - k < (fu : Int) → YM x G b 0 0 CL S 201 [(0, .ref (ad b (0))), (1, .int (iI (f))), (4, .int (iI (1))), (5, .int (iI (gv))), (6, .int (iI (k)))] [] := by
                          intro fu
                          induction fu with
                          | zero => intro k CL hk2 hSL hm_201; exfalso; omega
                          | succ fu ih_201 =>
                            intro k CL hk2 hSL hm_201
                            refine y_iload hB 4 dL_isAll_201 rfl ?_
                            refine y_aload_n hB 0 dL_isAll_203 rfl rfl ?_
                            refine y_iconst (v := 3) hB dL_isAll_204 rfl ?_
                            refine m_V hB msX6_count q462 (sc_3 _ G b C CL S N hSL hI (by omega)) (t := 0) (by decide) (by decide) rfl rfl rfl rfl rfl ⟨Nat.le_of_ble_eq_true rfl, Nat.le_of_ble_eq_true rfl⟩ (Nat.le_of_ble_eq_true rfl) ⟨rfl, rfl⟩ ⟨Nat.le_of_ble_eq_true rfl, Nat.le_of_ble_eq_true rfl⟩ dL_isAll_205 (k_RI (fun v_205 h_205 => ?_))
                            have hb_205 := bc_3 hI
                            refine y_icmp_ge hB 292 dL_isAll_208 (by decide) (by omega) (by omega) (fun c_208 => ?_) (fun c_208 => ?_)
                            · refine y_iload hB 2 dL_isAll_292 rfl ?_
                              refine y_if_eq hB 328 dL_isAll_294 (by decide) (by omega) (fun c_294 => ?_) (fun c_294 => ?_)
                              · exfalso
                                omega
                              · refine y_iload hB 3 dL_isAll_297 rfl ?_
                                refine y_iload_n hB 1 dL_isAll_299 rfl rfl ?_
                                refine y_icmp_ne hB 328 dL_isAll_300 (by decide) (by omega) (by omega) (fun c_300 => ?_) (fun c_300 => ?_)
                                · exfalso
                                  omega
                                · refine y_aload_n hB 0 dL_isAll_303 rfl rfl ?_
                                  refine y_aload_n hB 0 dL_isAll_304 rfl rfl ?_
                                  refine y_iconst (v := 3) hB dL_isAll_305 rfl ?_
                                  refine m_V hB msX6_count q462 (sc_3 _ G b C CL S N hSL hI (by omega)) (t := 0) (by decide) (by decide) rfl rfl rfl rfl rfl ⟨Nat.le_of_ble_eq_true rfl, Nat.le_of_ble_eq_true rfl⟩ (Nat.le_of_ble_eq_true rfl) ⟨rfl, rfl⟩ ⟨Nat.le_of_ble_eq_true rfl, Nat.le_of_ble_eq_true rfl⟩ dL_isAll_306 (k_RI (fun v_306 h_306 => ?_))
                                  have hb_306 := bc_3 hI
                                  refine m_V hB msX6_urgent q546 (s_urg _ G b C CL S v_306 N hSL hI (by omega) (by omega)) (t := 0) (by decide) (by decide) rfl rfl rfl rfl rfl ⟨Nat.le_of_ble_eq_true rfl, Nat.le_of_ble_eq_true rfl⟩ (Nat.le_of_ble_eq_true rfl) ⟨rfl, rfl⟩ ⟨Nat.le_of_ble_eq_true rfl, Nat.le_of_ble_eq_true rfl⟩ dL_isAll_309 (k_WI (fun v_309 C_309 h_309 => ?_))
                                  obtain ⟨hS_309, hU_309, hv_309⟩ := id h_309
                                  have hsz := Uq_size hU_309
                                  have huv := ugv_or C_309 v_306
                                  have e9 : C_309 1 3 = C 1 3 := by rw [hS_309 1 (by omega)]
                                  refine y_bipush (v := -5) hB dL_isAll_312 (by decide) ?_
                                  refine y_icmp_ne hB 328 dL_isAll_314 (by decide) (by omega) (by omega) (fun c_314 => ?_) (fun c_314 => ?_)
                                  · exfalso
                                    omega
                                  · refine y_aload_n hB 0 dL_isAll_317 rfl rfl ?_
                                    refine m_S hB msL_isPage q557 (tL_isPage _ G b C_309 S N (hS_309.iv hI) (by omega) (by omega)) rfl rfl ⟨Nat.le_of_ble_eq_true rfl, Nat.le_of_ble_eq_true rfl⟩ (Nat.le_of_ble_eq_true rfl) ⟨rfl, rfl⟩ ⟨Nat.le_of_ble_eq_true rfl, Nat.le_of_ble_eq_true rfl⟩ dL_isAll_318 (k_WI (fun v_318 C_318 h_318 => ?_))
                                    obtain ⟨hp_318, hS9⟩ := id h_318
                                    have hS_318 := hS_309.tr hS9
                                    refine y_if_eq hB 328 dL_isAll_321 (by decide) (by omega) (fun c_321 => ?_) (fun c_321 => ?_)
                                    · exfalso
                                      omega
                                    · refine y_iconst (v := 1) hB dL_isAll_324 rfl ?_
                                      refine y_goto hB 329 dL_isAll_325 (by decide) ?_
                                      exact m_wi hB hE dL_isAll_329 rfl (⟨rfl, hS_318⟩)
                            · refine y_iload hB 2 dL_isAll_211 rfl ?_
                              refine y_if_eq hB 292 dL_isAll_213 (by decide) (by omega) (fun c_213 => ?_) (fun c_213 => ?_)
                              · exfalso
                                omega
                              · refine y_aload_n hB 0 dL_isAll_216 rfl rfl ?_
                                refine y_iload hB 4 dL_isAll_217 rfl ?_
                                refine y_iconst (v := 1) hB dL_isAll_219 rfl ?_
                                refine y_isub (t := k - 1) hB dL_isAll_220 (by omega) ?_
                                refine m_V hB msX6_urgent q546 (s_urg _ G b C CL S (k - 1) N hSL hI (by omega) (by omega)) (t := 0) (by decide) (by decide) rfl rfl rfl rfl rfl ⟨Nat.le_of_ble_eq_true rfl, Nat.le_of_ble_eq_true rfl⟩ (Nat.le_of_ble_eq_true rfl) ⟨rfl, rfl⟩ ⟨Nat.le_of_ble_eq_true rfl, Nat.le_of_ble_eq_true rfl⟩ dL_isAll_221 (k_WI (fun v_221 C_221 h_221 => ?_))
                                obtain ⟨hS_221, hU_221, hv_221⟩ := id h_221
                                refine y_istore (lv' := [(7, .int (iI (v_221))), (0, .ref (ad b (0))), (1, .int (iI (f))), (4, .int (iI (1))), (5, .int (iI (gv))), (6, .int (iI (k)))]) hB dL_isAll_224 (by decide) rfl ?_
                                refine y_aload_n hB 1 dL_isAll_226 rfl rfl ?_
                                refine y_iload hB 5 dL_isAll_227 rfl ?_
                                refine m_V hB msX6_urgent q546 (s_urg _ G b C C_221 S k N hS_221 hI (by omega) (by omega)) (t := 0) (by decide) (by decide) rfl rfl rfl rfl rfl ⟨Nat.le_of_ble_eq_true rfl, Nat.le_of_ble_eq_true rfl⟩ (Nat.le_of_ble_eq_true rfl) ⟨rfl, rfl⟩ ⟨Nat.le_of_ble_eq_true rfl, Nat.le_of_ble_eq_true rfl⟩ dL_isAll_229 (k_WI (fun v_229 C_229 h_229 => ?_))
                                obtain ⟨hS_229, hU_229, hv_229⟩ := id h_229
                                have htw := Uq_two (k := k) hU_221 hU_229 (by omega)
                                rw [← hv_221, ← hv_229] at htw
                                obtain ⟨htw1, htw2, htw3⟩ := htw
                                refine y_istore (lv' := [(8, .int (iI (v_229))), (7, .int (iI (v_221))), (0, .ref (ad b (0))), (1, .int (iI (f))), (4, .int (iI (1))), (5, .int (iI (gv))), (6, .int (iI (k)))]) hB dL_isAll_232 (by decide) rfl ?_
                                refine y_aload_n hB 2 dL_isAll_234 rfl rfl ?_
                                refine y_iload hB 1 dL_isAll_235 rfl ?_
                                refine y_bipush (v := 7) hB dL_isAll_237 (by decide) ?_
                                refine m_V hB msX6_person q364 (sp_7 _ G b C C_229 S v_221 N hS_229 hI (by omega) (by omega)) (t := 0) (by decide) (by decide) rfl rfl rfl rfl rfl ⟨Nat.le_of_ble_eq_true rfl, Nat.le_of_ble_eq_true rfl⟩ (Nat.le_of_ble_eq_true rfl) ⟨rfl, rfl⟩ ⟨Nat.le_of_ble_eq_true rfl, Nat.le_of_ble_eq_true rfl⟩ dL_isAll_239 (k_RI (fun v_239 h_239 => ?_))
                                have hb_239 := bp_7 hI (u := v_221) (by omega)
                                refine y_aload_n hB 2 dL_isAll_242 rfl rfl ?_
                                refine y_iload hB 0 dL_isAll_243 rfl ?_
                                refine y_bipush (v := 7) hB dL_isAll_245 (by decide) ?_
                                refine m_V hB msX6_person q364 (sp_7 _ G b C C_229 S v_229 N hS_229 hI (by omega) (by omega)) (t := 0) (by decide) (by decide) rfl rfl rfl rfl rfl ⟨Nat.le_of_ble_eq_true rfl, Nat.le_of_ble_eq_true rfl⟩ (Nat.le_of_ble_eq_true rfl) ⟨rfl, rfl⟩ ⟨Nat.le_of_ble_eq_true rfl, Nat.le_of_ble_eq_true rfl⟩ dL_isAll_247 (k_RI (fun v_247 h_247 => ?_))
                                have hb_247 := bp_7 hI (u := v_229) (by omega)
                                refine y_icmp_gt hB 279 dL_isAll_250 (by decide) (by omega) (by omega) (fun c_250 => ?_) (fun c_250 => ?_)
                                · refine y_iconst (v := 1) hB dL_isAll_279 rfl ?_
                                  refine y_goto hB 284 dL_isAll_280 (by decide) ?_
                                  refine y_istore (lv' := [(4, .int (iI (1))), (8, .int (iI (v_229))), (7, .int (iI (v_221))), (0, .ref (ad b (0))), (1, .int (iI (f))), (5, .int (iI (gv))), (6, .int (iI (k)))]) hB dL_isAll_284 (by decide) rfl ?_
                                  refine y_iinc (v := k + 1) (lv' := [(6, .int (iI (k + 1))), (4, .int (iI (1))), (8, .int (iI (v_229))), (7, .int (iI (v_221))), (0, .ref (ad b (0))), (1, .int (iI (f))), (5, .int (iI (gv)))]) hB 6 dL_isAll_286 rfl (by omega) (by decide) rfl ?_
                                  refine y_goto hB 201 dL_isAll_289 (by decide) ?_
                                  refine y_sub (lv' := [(0, .ref (ad b (0))), (1, .int (iI (f))), (4, .int (iI (1))), (5, .int (iI (gv))), (6, .int (iI (k + 1)))]) [4, 5, 1, 6, 0] rfl ?_
                                  exact ih_201 (k + 1) C_229 (by omega) hS_229 (by omega)
                                · refine y_aload_n hB 2 dL_isAll_253 rfl rfl ?_
                                  refine y_iload hB 1 dL_isAll_254 rfl ?_
                                  refine y_bipush (v := 7) hB dL_isAll_256 (by decide) ?_
                                  refine m_V hB msX6_person q364 (sp_7 _ G b C C_229 S v_221 N hS_229 hI (by omega) (by omega)) (t := 0) (by decide) (by decide) rfl rfl rfl rfl rfl ⟨Nat.le_of_ble_eq_true rfl, Nat.le_of_ble_eq_true rfl⟩ (Nat.le_of_ble_eq_true rfl) ⟨rfl, rfl⟩ ⟨Nat.le_of_ble_eq_true rfl, Nat.le_of_ble_eq_true rfl⟩ dL_isAll_258 (k_RI (fun v_258 h_258 => ?_))
                                  have hb_258 := bp_7 hI (u := v_221) (by omega)
                                  refine y_aload_n hB 2 dL_isAll_261 rfl rfl ?_
                                  refine y_iload hB 0 dL_isAll_262 rfl ?_
                                  refine y_bipush (v := 7) hB dL_isAll_264 (by decide) ?_
                                  refine m_V hB msX6_person q364 (sp_7 _ G b C C_229 S v_229 N hS_229 hI (by omega) (by omega)) (t := 0) (by decide) (by decide) rfl rfl rfl rfl rfl ⟨Nat.le_of_ble_eq_true rfl, Nat.le_of_ble_eq_true rfl⟩ (Nat.le_of_ble_eq_true rfl) ⟨rfl, rfl⟩ ⟨Nat.le_of_ble_eq_true rfl, Nat.le_of_ble_eq_true rfl⟩ dL_isAll_266 (k_RI (fun v_266 h_266 => ?_))
                                  have hb_266 := bp_7 hI (u := v_229) (by omega)
                                  refine y_icmp_ne hB 283 dL_isAll_269 (by decide) (by omega) (by omega) (fun c_269 => ?_) (fun c_269 => ?_)
                                  · exfalso
                                    omega
                                  · refine y_iload hB 1 dL_isAll_272 rfl ?_
                                    refine y_iload hB 0 dL_isAll_274 rfl ?_
                                    refine y_icmp_ge hB 283 dL_isAll_276 (by decide) (by omega) (by omega) (fun c_276 => ?_) (fun c_276 => ?_)
                                    · exfalso
                                      omega
                                    · refine y_iconst (v := 1) hB dL_isAll_279 rfl ?_
                                      refine y_goto hB 284 dL_isAll_280 (by decide) ?_
                                      refine y_istore (lv' := [(4, .int (iI (1))), (8, .int (iI (v_229))), (7, .int (iI (v_221))), (0, .ref (ad b (0))), (1, .int (iI (f))), (5, .int (iI (gv))), (6, .int (iI (k)))]) hB dL_isAll_284 (by decide) rfl ?_
                                      refine y_iinc (v := k + 1) (lv' := [(6, .int (iI (k + 1))), (4, .int (iI (1))), (8, .int (iI (v_229))), (7, .int (iI (v_221))), (0, .ref (ad b (0))), (1, .int (iI (f))), (5, .int (iI (gv)))]) hB 6 dL_isAll_286 rfl (by omega) (by decide) rfl ?_
                                      refine y_goto hB 201 dL_isAll_289 (by decide) ?_
                                      refine y_sub (lv' := [(0, .ref (ad b (0))), (1, .int (iI (f))), (4, .int (iI (1))), (5, .int (iI (gv))), (6, .int (iI (k + 1)))]) [4, 5, 1, 6, 0] rfl ?_
                                      exact ih_201 (k + 1) C_229 (by omega) hS_229 (by omega)
                        refine y_sub (lv' := [(0, .ref (ad b (0))), (1, .int (iI (f))), (4, .int (iI (1))), (5, .int (iI (gv))), (6, .int (iI (1)))]) [1, 2, 3, 4, 0] rfl ?_
                        exact LOOP_201 (((21 : Int)).toNat + 1) 1 C (by omega) (Sc.rf C) (by omega)
                      · refine y_iload hB 3 dL_isAll_180 rfl ?_
                        refine y_aload_n hB 0 dL_isAll_182 rfl rfl ?_
                        refine y_iload hB 4 dL_isAll_183 rfl ?_
                        refine y_iconst (v := 1) hB dL_isAll_185 rfl ?_
                        refine m_V hB msX6_source q516 (ss_1 _ G b C C S j N (Sc.rf C) hI (by omega) (by omega)) (t := 0) (by decide) (by decide) rfl rfl rfl rfl rfl ⟨Nat.le_of_ble_eq_true rfl, Nat.le_of_ble_eq_true rfl⟩ (Nat.le_of_ble_eq_true rfl) ⟨rfl, rfl⟩ ⟨Nat.le_of_ble_eq_true rfl, Nat.le_of_ble_eq_true rfl⟩ dL_isAll_186 (k_RI (fun v_186 h_186 => ?_))
                        have hb_186 := bs_1 hI (u := j) (by omega)
                        refine y_iadd (t := gv + v_186) hB dL_isAll_189 (by omega) ?_
                        refine y_istore (lv' := [(5, .int (iI (gv + v_186))), (0, .ref (ad b (0))), (1, .int (iI (f))), (4, .int (iI (1))), (6, .int (iI (j)))]) hB dL_isAll_190 (by decide) rfl ?_
                        refine y_iinc (v := j + 1) (lv' := [(6, .int (iI (j + 1))), (5, .int (iI (gv + v_186))), (0, .ref (ad b (0))), (1, .int (iI (f))), (4, .int (iI (1)))]) hB 4 dL_isAll_192 rfl (by omega) (by decide) rfl ?_
                        refine y_goto hB 173 dL_isAll_195 (by decide) ?_
                        refine y_sub (lv' := [(0, .ref (ad b (0))), (1, .int (iI (f))), (4, .int (iI (1))), (5, .int (iI (gv + v_186))), (6, .int (iI (j + 1)))]) [2, 3, 4, 1, 0] rfl ?_
                        exact ih_173 (j + 1) (gv + v_186) (by omega) (by rw [smI_s _ hj.1, ← hgv]; omega) (by omega)
                  refine y_sub (lv' := [(0, .ref (ad b (0))), (1, .int (iI (f))), (4, .int (iI (1))), (5, .int (iI (0))), (6, .int (iI (0)))]) [3, 4, 2, 1, 0] rfl ?_
                  exact LOOP_173 (((6 : Int)).toNat + 1) 0 0 (by omega) (smI_0 _).symm (by omega)
      · refine y_iload hB 4 dL_isAll_22 rfl ?_
        refine y_if_eq hB 90 dL_isAll_24 (by decide) (by omega) (fun c_24 => ?_) (fun c_24 => ?_)
        · exfalso
          omega
        · refine y_aload_n hB 0 dL_isAll_27 rfl rfl ?_
          refine y_iload hB 5 dL_isAll_28 rfl ?_
          refine m_S hB msL_isLife q499 (tL_isLife _ G b C S k N hI (by omega) (by omega)) rfl rfl ⟨Nat.le_of_ble_eq_true rfl, Nat.le_of_ble_eq_true rfl⟩ (Nat.le_of_ble_eq_true rfl) ⟨rfl, rfl⟩ ⟨Nat.le_of_ble_eq_true rfl, Nat.le_of_ble_eq_true rfl⟩ dL_isAll_30 (k_RI (fun v_30 h_30 => ?_))
          obtain rfl := h_30
          refine y_istore (lv' := [(4, .int (iI (1))), (0, .ref (ad b (0))), (1, .int (iI (f))), (2, .int (iI (st))), (3, .int (iI (sta))), (5, .int (iI (k)))]) hB dL_isAll_33 (by decide) rfl ?_
          refine y_iload_n hB 2 dL_isAll_35 rfl rfl ?_
          refine y_aload_n hB 1 dL_isAll_36 rfl rfl ?_
          refine y_iload hB 5 dL_isAll_37 rfl ?_
          refine y_iconst (v := 3) hB dL_isAll_39 rfl ?_
          refine m_V hB msX6_person q364 (sp_3 _ G b C C S k N (Sc.rf C) hI (by omega) (by omega)) (t := 0) (by decide) (by decide) rfl rfl rfl rfl rfl ⟨Nat.le_of_ble_eq_true rfl, Nat.le_of_ble_eq_true rfl⟩ (Nat.le_of_ble_eq_true rfl) ⟨rfl, rfl⟩ ⟨Nat.le_of_ble_eq_true rfl, Nat.le_of_ble_eq_true rfl⟩ dL_isAll_40 (k_RI (fun v_40 h_40 => ?_))
          have hb_40 := bp_3 hI (u := k) (by omega)
          refine y_iadd (t := f + v_40) hB dL_isAll_43 (by omega) ?_
          refine y_istore_n (lv' := [(1, .int (iI (f + v_40))), (4, .int (iI (1))), (0, .ref (ad b (0))), (2, .int (iI (st))), (3, .int (iI (sta))), (5, .int (iI (k)))]) hB dL_isAll_44 rfl (by decide) rfl ?_
          refine y_iload_n hB 3 dL_isAll_45 rfl rfl ?_
          refine y_aload_n hB 2 dL_isAll_46 rfl rfl ?_
          refine y_iload hB 5 dL_isAll_47 rfl ?_
          refine y_iconst (v := 2) hB dL_isAll_49 rfl ?_
          refine m_V hB msX6_person q364 (sp_2 _ G b C C S k N (Sc.rf C) hI (by omega) (by omega)) (t := 0) (by decide) (by decide) rfl rfl rfl rfl rfl ⟨Nat.le_of_ble_eq_true rfl, Nat.le_of_ble_eq_true rfl⟩ (Nat.le_of_ble_eq_true rfl) ⟨rfl, rfl⟩ ⟨Nat.le_of_ble_eq_true rfl, Nat.le_of_ble_eq_true rfl⟩ dL_isAll_50 (k_RI (fun v_50 h_50 => ?_))
          have hb_50 := bp_2 hI (u := k) (by omega)
          refine y_iconst (v := 3) hB dL_isAll_53 rfl ?_
          refine y_icmp_ne hB 61 dL_isAll_54 (by decide) (by omega) (by omega) (fun c_54 => ?_) (fun c_54 => ?_)
          · refine y_aload_n hB 2 dL_isAll_61 rfl rfl ?_
            refine y_iload hB 5 dL_isAll_62 rfl ?_
            refine y_iconst (v := 5) hB dL_isAll_64 rfl ?_
            refine m_V hB msX6_person q364 (sp_5 _ G b C C S k N (Sc.rf C) hI (by omega) (by omega)) (t := 0) (by decide) (by decide) rfl rfl rfl rfl rfl ⟨Nat.le_of_ble_eq_true rfl, Nat.le_of_ble_eq_true rfl⟩ (Nat.le_of_ble_eq_true rfl) ⟨rfl, rfl⟩ ⟨Nat.le_of_ble_eq_true rfl, Nat.le_of_ble_eq_true rfl⟩ dL_isAll_65 (k_RI (fun v_65 h_65 => ?_))
            have hb_65 := bp_5 hI (u := k) (by omega)
            have hsk : (if C (4 * k + 5) 2 = 3 then 0 else staleN C 1 (4 * k + 5) (C 1 4)) = v_65 := (if_neg (by omega)).trans h_65.symm
            refine y_iadd (t := st + v_65) hB dL_isAll_68 (by omega) ?_
            refine y_istore_n (lv' := [(2, .int (iI (st + v_65))), (1, .int (iI (f + v_40))), (4, .int (iI (1))), (0, .ref (ad b (0))), (3, .int (iI (sta))), (5, .int (iI (k)))]) hB dL_isAll_69 rfl (by decide) rfl ?_
            refine y_iload_n hB 4 dL_isAll_70 rfl rfl ?_
            refine y_iconst (v := 1) hB dL_isAll_71 rfl ?_
            refine y_iconst (v := 5) hB dL_isAll_72 rfl ?_
            refine y_aload_n hB 3 dL_isAll_73 rfl rfl ?_
            refine y_iload hB 5 dL_isAll_74 rfl ?_
            refine y_iconst (v := 2) hB dL_isAll_76 rfl ?_
            refine m_V hB msX6_person q364 (sp_2 _ G b C C S k N (Sc.rf C) hI (by omega) (by omega)) (t := 0) (by decide) (by decide) rfl rfl rfl rfl rfl ⟨Nat.le_of_ble_eq_true rfl, Nat.le_of_ble_eq_true rfl⟩ (Nat.le_of_ble_eq_true rfl) ⟨rfl, rfl⟩ ⟨Nat.le_of_ble_eq_true rfl, Nat.le_of_ble_eq_true rfl⟩ dL_isAll_77 (k_RI (fun v_77 h_77 => ?_))
            have hb_77 := bp_2 hI (u := k) (by omega)
            refine y_imul (t := 5 * v_77) hB dL_isAll_80 (by omega) ?_
            refine y_ishlR hB dL_isAll_81 ?_
            rw [show (iI 1) <<< ((iI (5 * v_77)) &&& 31) = iI (p5 v_77) from p5_at (by omega)]
            refine y_iadd (t := p5 v_77 + sta) hB dL_isAll_82 (by omega) ?_
            refine y_istore_n (lv' := [(3, .int (iI (p5 v_77 + sta))), (2, .int (iI (st + v_65))), (1, .int (iI (f + v_40))), (4, .int (iI (1))), (0, .ref (ad b (0))), (5, .int (iI (k)))]) hB dL_isAll_83 rfl (by decide) rfl ?_
            refine y_iinc (v := k + 1) (lv' := [(5, .int (iI (k + 1))), (3, .int (iI (p5 v_77 + sta))), (2, .int (iI (st + v_65))), (1, .int (iI (f + v_40))), (4, .int (iI (1))), (0, .ref (ad b (0)))]) hB 5 dL_isAll_84 rfl (by omega) (by decide) rfl ?_
            refine y_goto hB 12 dL_isAll_87 (by decide) ?_
            refine y_sub (lv' := [(0, .ref (ad b (0))), (1, .int (iI (f + v_40))), (2, .int (iI (st + v_65))), (3, .int (iI (p5 v_77 + sta))), (4, .int (iI (1))), (5, .int (iI (k + 1)))]) [5, 3, 2, 1, 4, 0] rfl ?_
            exact ih_12 (k + 1) (f + v_40) (st + v_65) (p5 v_77 + sta) (by omega) (by rw [smI_s _ hk.1, ← hf, show 4 * k + 1 + 4 = 4 * k + 5 by omega]; omega) (by rw [smI_s _ hk.1, ← hst, show 4 * k + 1 + 4 = 4 * k + 5 by omega, hsk] <;> omega) (by rw [smI_s _ hk.1, ← hsta, show 4 * k + 1 + 4 = 4 * k + 5 by omega, ← h_77]; omega) (by omega)
          · have hsk : (if C (4 * k + 5) 2 = 3 then 0 else staleN C 1 (4 * k + 5) (C 1 4)) = 0 := if_pos (by omega)
            refine y_iconst (v := 0) hB dL_isAll_57 rfl ?_
            refine y_goto hB 68 dL_isAll_58 (by decide) ?_
            refine y_iadd (t := st) hB dL_isAll_68 (by omega) ?_
            refine y_istore_n (lv' := [(2, .int (iI (st))), (1, .int (iI (f + v_40))), (4, .int (iI (1))), (0, .ref (ad b (0))), (3, .int (iI (sta))), (5, .int (iI (k)))]) hB dL_isAll_69 rfl (by decide) rfl ?_
            refine y_iload_n hB 4 dL_isAll_70 rfl rfl ?_
            refine y_iconst (v := 1) hB dL_isAll_71 rfl ?_
            refine y_iconst (v := 5) hB dL_isAll_72 rfl ?_
            refine y_aload_n hB 3 dL_isAll_73 rfl rfl ?_
            refine y_iload hB 5 dL_isAll_74 rfl ?_
            refine y_iconst (v := 2) hB dL_isAll_76 rfl ?_
            refine m_V hB msX6_person q364 (sp_2 _ G b C C S k N (Sc.rf C) hI (by omega) (by omega)) (t := 0) (by decide) (by decide) rfl rfl rfl rfl rfl ⟨Nat.le_of_ble_eq_true rfl, Nat.le_of_ble_eq_true rfl⟩ (Nat.le_of_ble_eq_true rfl) ⟨rfl, rfl⟩ ⟨Nat.le_of_ble_eq_true rfl, Nat.le_of_ble_eq_true rfl⟩ dL_isAll_77 (k_RI (fun v_77 h_77 => ?_))
            have hb_77 := bp_2 hI (u := k) (by omega)
            refine y_imul (t := 5 * v_77) hB dL_isAll_80 (by omega) ?_
            refine y_ishlR hB dL_isAll_81 ?_
            rw [show (iI 1) <<< ((iI (5 * v_77)) &&& 31) = iI (p5 v_77) from p5_at (by omega)]
            refine y_iadd (t := p5 v_77 + sta) hB dL_isAll_82 (by omega) ?_
            refine y_istore_n (lv' := [(3, .int (iI (p5 v_77 + sta))), (2, .int (iI (st))), (1, .int (iI (f + v_40))), (4, .int (iI (1))), (0, .ref (ad b (0))), (5, .int (iI (k)))]) hB dL_isAll_83 rfl (by decide) rfl ?_
            refine y_iinc (v := k + 1) (lv' := [(5, .int (iI (k + 1))), (3, .int (iI (p5 v_77 + sta))), (2, .int (iI (st))), (1, .int (iI (f + v_40))), (4, .int (iI (1))), (0, .ref (ad b (0)))]) hB 5 dL_isAll_84 rfl (by omega) (by decide) rfl ?_
            refine y_goto hB 12 dL_isAll_87 (by decide) ?_
            refine y_sub (lv' := [(0, .ref (ad b (0))), (1, .int (iI (f + v_40))), (2, .int (iI (st))), (3, .int (iI (p5 v_77 + sta))), (4, .int (iI (1))), (5, .int (iI (k + 1)))]) [5, 3, 2, 1, 4, 0] rfl ?_
            exact ih_12 (k + 1) (f + v_40) (st) (p5 v_77 + sta) (by omega) (by rw [smI_s _ hk.1, ← hf, show 4 * k + 1 + 4 = 4 * k + 5 by omega]; omega) (by rw [smI_s _ hk.1, ← hst, show 4 * k + 1 + 4 = 4 * k + 5 by omega, hsk] <;> omega) (by rw [smI_s _ hk.1, ← hsta, show 4 * k + 1 + 4 = 4 * k + 5 by omega, ← h_77]; omega) (by omega)
  refine y_sub (lv' := [(0, .ref (ad b (0))), (1, .int (iI (0))), (2, .int (iI (0))), (3, .int (iI (0))), (4, .int (iI (1))), (5, .int (iI (0)))]) [5, 4, 3, 2, 1, 0] rfl ?_
  exact LOOP_12 ((C 1 3).toNat + 1) 0 0 0 0 (by omega) (smI_0 _).symm (smI_0 _).symm (smI_0 _).symm (by omega)
