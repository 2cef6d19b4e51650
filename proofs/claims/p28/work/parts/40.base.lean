/-! p28: what stands between the calls of the law, and what is told of it -/
theorem Ct_mono {l : Launch} {G : gG} {b : Nat} {K : State → Prop} {y : MethodName} {cc : ByteArray} {nL : Nat} {ret : Option FieldType} {rm : Room} {av : List Value} {n : Int} {w : Int → va_E} {Po Po' : gP} (h : CtK l G b K y cc nL ret rm av n w Po) (hp : ∀ r n w, Po r n w → Po' r n w) : CtK l G b K y cc nL ret rm av n w Po' := by
  intro p e ha hc hk s m args below hf happ hP ht
  obtain ⟨k, o, h1, h2, h3, hq, hF⟩ := h p e ha hc hk s m args below hf happ hP ht
  obtain ⟨r, n', w', e1, e2, e3, e4⟩ := hq
  exact ⟨k, o, h1, h2, h3, ⟨r, n', w', e1, hp _ _ _ e2, e3, e4⟩, hF⟩
theorem RI_mono {G : gG} {b : Nat} {C S : gM} {Q Q' : Int → Prop} (hq : ∀ v, Q v → Q' v) {r : Option Value} {n : Int} {w : Int → va_E} (h : RI G b C S Q r n w) : RI G b C S Q' r n w := by
  obtain ⟨v, h1, h2, h3, h4⟩ := h
  exact ⟨v, h1, h2, h3, hq v h4⟩
theorem WI_mono {G : gG} {b : Nat} {S : gM} {Q Q' : Int → gM → Prop} (hq : ∀ v C, Q v C → Q' v C) {r : Option Value} {n : Int} {w : Int → va_E} (h : WI G b S Q r n w) : WI G b S Q' r n w := by
  obtain ⟨v, C, h1, h2, h3, h4⟩ := h
  exact ⟨v, C, h1, h2, h3, hq v C h4⟩
theorem WI_RI {G : gG} {b : Nat} {C S : gM} {Q : Int → gM → Prop} {Q' : Int → Prop} (hq : ∀ v C', Q v C' → C' = C ∧ Q' v) {r : Option Value} {n : Int} {w : Int → va_E} (h : WI G b S Q r n w) : RI G b C S Q' r n w := by
  obtain ⟨v, C', h1, h2, h3, h4⟩ := h
  obtain ⟨rfl, h5⟩ := hq v C' h4
  exact ⟨v, h1, h2, h3, h5⟩
theorem RF_mono {G : gG} {b : Nat} {C S : gM} {Q Q' : UInt32 → Prop} (hq : ∀ v, Q v → Q' v) {r : Option Value} {n : Int} {w : Int → va_E} (h : RF G b C S Q r n w) : RF G b C S Q' r n w := by
  obtain ⟨v, h1, h2, h3, h4⟩ := h
  exact ⟨v, h1, h2, h3, hq v h4⟩
def Lf2 (C : gM) (q : Int) : Prop := (C q 2 = 0 → C q 4 = -5) ∧ (C q 2 = 3 → 0 ≤ C q 5) ∧ (C q 2 ≠ 3 → C q 5 = -5)
/-- what holds between the calls -/
def Iv (C : gM) (N : Int) : Prop := DkOk C 1 N ∧ (0 ≤ C 169 1 ∧ C 169 1 < 4) ∧ (0 ≤ C 169 2 ∧ C 169 2 ≤ 4) ∧ ∀ i : Int, 0 ≤ i → i < C 1 3 → Lf2 C (4 * i + 5)
/-- alike but for the rankings and the page -/
def Sc (C M : gM) : Prop := ∀ a : Int, a < 570 → M a = C a
theorem Sc.rf (C : gM) : Sc C C := fun _ _ => rfl
theorem Sc.tr {C M L : gM} (h : Sc C M) (g : Sc M L) : Sc C L := fun a ha => (g a ha).trans (h a ha)
theorem Sc.ag {C M : gM} (h : Sc C M) : agD C M 1 := fun a _ a2 => h a (by omega)
theorem Sc.iv {C M : gM} {N : Int} (h : Sc C M) (hI : Iv C N) : Iv M N := by
  obtain ⟨h1, h2, h3, h4⟩ := hI
  have e3 : M 1 3 = C 1 3 := by rw [h 1 (by omega)]
  refine ⟨DkOk_ag h.ag h1, by rw [h 169 (by omega)]; exact h2, by rw [h 169 (by omega)]; exact h3, fun i a1 a2 => ?_⟩
  have hp := h1.1
  unfold Lf2
  rw [h (4 * i + 5) (by omega)]
  exact h4 i a1 (by omega)
theorem Iv.lf {C : gM} {N u : Int} (h : Iv C N) (hu : 0 ≤ u ∧ u < C 1 3) : LfOk C (4 * u + 5) (C 1 4) := by
  have h9 := h.1.2.2.2.2.2.2.2.2.2.2 u hu.1 hu.2
  rwa [show 4 * u + 1 + 4 = 4 * u + 5 by omega] at h9
theorem DkOk_N {C : gM} {o N N' : Int} (h : DkOk C o N) (hN : N ≤ N') : DkOk C o N' := ⟨h.1, ⟨h.2.1.1, Int.le_trans h.2.1.2 hN⟩, h.2.2.1, ⟨h.2.2.2.1.1, Int.le_trans h.2.2.2.1.2 hN⟩, h.2.2.2.2⟩
theorem Iv.up {C : gM} {N N' : Int} (h : Iv C N) (hN : N ≤ N') : Iv C N' := ⟨DkOk_N h.1 hN, h.2⟩
/-! what is told, as values -/
def lnI (C : gM) (u : Int) : Int := smI (C (4 * u + 5 + 2)) (C (4 * u + 5) 6)
def stU (C : gM) (u : Int) : Int := staleN C 1 (4 * u + 5) (C 1 4)
def scU (C : gM) (u : Int) : Int := pcI (mkI (C (4 * u + 5 + 1)) (C (4 * u + 5) 6))
noncomputable def rdI (C : gM) (u : Int) : Int := ci (rdy C 1 u)
def urU (C : gM) (u : Int) : Int := if C (4 * u + 5) 2 = 0 then urg C 1 (4 * u + 5) else -5
def lwU (C : gM) (u : Int) : UInt32 := wsI (fun j => FP.fmul (WF (C (1 + 2) (C (4 * u + 5 + 1) j)) (C 1 4 - C (4 * u + 5 + 3) j)) (FP.i2f (iI (C (4 * u + 5 + 2) j)))) (C (4 * u + 5) 6)
def ctS (C : gM) (k : Int) : Int := smI (fun i => if C (4 * i + 1 + 4) 2 = k then 1 else 0) (C 1 3)
def fcN (C : gM) : Int := smI (fun i => C (4 * i + 1 + 4) 6) (C 1 3)
def stA (C : gM) (d : Int) : Int := smI (fun i => if C (4 * i + 1 + 4) 2 = 3 then 0 else staleN C 1 (4 * i + 1 + 4) d) (C 1 3)
def sgN (C : gM) (u : Int) : Int := smI (fun i => smI (fun j => if C (4 * i + 1 + 5) j = u then 1 else 0) (C (4 * i + 1 + 4) 6)) (C 1 3)
section
variable {C M : gM} {u : Int}
theorem lnI_ag (e : agD C M 1) (hu : 0 ≤ u ∧ u < 20) : lnI M u = lnI C u := by
  unfold lnI
  rw [e (4 * u + 5) (by omega) (by omega), e (4 * u + 5 + 2) (by omega) (by omega)]
theorem stU_ag (e : agD C M 1) (hu : 0 ≤ u ∧ u < 20) : stU M u = stU C u := by
  unfold stU
  rw [staleN_ag e (by omega), e 1 (by omega) (by omega)]
theorem scU_ag (e : agD C M 1) (hu : 0 ≤ u ∧ u < 20) : scU M u = scU C u := by
  unfold scU
  rw [e (4 * u + 5) (by omega) (by omega), e (4 * u + 5 + 1) (by omega) (by omega)]
theorem rdI_ag (e : agD C M 1) (hu : 0 ≤ u ∧ u < 20) : rdI M u = rdI C u := ci_c (rdy_ag e hu)
theorem urU_ag (e : agD C M 1) (hu : 0 ≤ u ∧ u < 20) : urU M u = urU C u := by
  unfold urU
  rw [e (4 * u + 5) (by omega) (by omega), urg_ag e (by omega)]
theorem ctS_ag {k : Int} (e : agD C M 1) (h : 0 ≤ C 1 3 ∧ C 1 3 ≤ 20) : ctS M k = ctS C k := by
  unfold ctS
  rw [e 1 (by omega) (by omega)]
  exact smI_congr fun j a1 a2 => by rw [e (4 * j + 1 + 4) (by omega) (by omega)]
theorem fcN_ag (e : agD C M 1) (h : 0 ≤ C 1 3 ∧ C 1 3 ≤ 20) : fcN M = fcN C := by
  unfold fcN
  rw [e 1 (by omega) (by omega)]
  exact smI_congr fun j a1 a2 => by rw [e (4 * j + 1 + 4) (by omega) (by omega)]
theorem stA_ag {d : Int} (e : agD C M 1) (h : 0 ≤ C 1 3 ∧ C 1 3 ≤ 20) : stA M d = stA C d := by
  unfold stA
  rw [e 1 (by omega) (by omega)]
  exact smI_congr fun j a1 a2 => by rw [e (4 * j + 1 + 4) (by omega) (by omega), staleN_ag e (by omega)]
theorem rdI_p (h : C (1 + 1) 3 ≤ pcI (mkI (C (4 * u + 5 + 1)) (C (4 * u + 5) 6)) ∧ staleN C 1 (4 * u + 5) (C 1 4) = 0) : rdI C u = 1 := ci_t (by
  unfold rdy
  rw [show 4 * u + 1 + 4 = 4 * u + 5 by omega]
  exact h)
theorem rdI_n (h : ¬ (C (1 + 1) 3 ≤ pcI (mkI (C (4 * u + 5 + 1)) (C (4 * u + 5) 6)) ∧ staleN C 1 (4 * u + 5) (C 1 4) = 0)) : rdI C u = 0 := ci_f (by
  unfold rdy
  rw [show 4 * u + 1 + 4 = 4 * u + 5 by omega]
  exact h)
/-! bounds -/
variable {N : Int}
theorem lnI_b (h : Iv C N) (hu : 0 ≤ u ∧ u < C 1 3) : 0 ≤ lnI C u ∧ lnI C u ≤ 72 := smI_lines (h.lf hu)
theorem stU_b (h : Iv C N) (hu : 0 ≤ u ∧ u < C 1 3) : 0 ≤ stU C u ∧ stU C u ≤ 8 := staleN_b C 1 (4 * u + 5) (C 1 4) (h.lf hu).2.2.2.2.2.2.1
theorem scU_b (h : Iv C N) (hu : 0 ≤ u ∧ u < C 1 3) : 0 ≤ scU C u ∧ scU C u ≤ 6 := pcI_b (mkI_lt fun j a1 a2 => ((h.lf hu).2.2.2.2.2.2.2.2 j a1 a2).1)
theorem rdI_b (C : gM) (u : Int) : 0 ≤ rdI C u ∧ rdI C u ≤ 1 := ci_b _
theorem urU_b (h : Iv C N) (hu : 0 ≤ u ∧ u < C 1 3) : -5 ≤ urU C u ∧ urU C u ≤ 1000 := by
  have := urg_b (o := 1) (h.lf hu)
  unfold urU
  split <;> omega
theorem ctS_b (h : Iv C N) (k : Int) : 0 ≤ ctS C k ∧ ctS C k ≤ 20 := by
  have h3 := h.1.1
  have := smI_le (f := fun i => if C (4 * i + 1 + 4) 2 = k then 1 else 0) (n := C 1 3) (a := 0) (c := 1) h3.1 (fun j _ _ => by show 0 ≤ (if _ then (1 : Int) else 0) ∧ (if _ then (1 : Int) else 0) ≤ 1; split <;> omega)
  unfold ctS
  omega
theorem fcN_b (h : Iv C N) : 0 ≤ fcN C ∧ fcN C ≤ 160 := by
  have h3 := h.1.1
  have := smI_le (f := fun i => C (4 * i + 1 + 4) 6) (n := C 1 3) (a := 0) (c := 8) h3.1 (fun j a1 a2 => (h.1.2.2.2.2.2.2.2.2.2.2 j a1 a2).2.2.2.2.2.2.1)
  unfold fcN
  omega
theorem stA_b (h : Iv C N) (d : Int) : 0 ≤ stA C d ∧ stA C d ≤ 160 := by
  have h3 := h.1.1
  have := smI_le (f := fun i => if C (4 * i + 1 + 4) 2 = 3 then 0 else staleN C 1 (4 * i + 1 + 4) d) (n := C 1 3) (a := 0) (c := 8) h3.1 (fun j a1 a2 => by
    have h9 := staleN_b C 1 (4 * j + 1 + 4) d (h.1.2.2.2.2.2.2.2.2.2.2 j a1 a2).2.2.2.2.2.2.1
    show 0 ≤ (if _ then (0 : Int) else _) ∧ (if _ then (0 : Int) else _) ≤ 8
    split <;> omega)
  unfold stA
  omega
theorem sgN_b (h : Iv C N) (s : Int) : 0 ≤ sgN C s ∧ sgN C s ≤ 160 := by
  have h3 := h.1.1
  have := smI_le (f := fun i => smI (fun j => if C (4 * i + 1 + 5) j = s then 1 else 0) (C (4 * i + 1 + 4) 6)) (n := C 1 3) (a := 0) (c := 8) h3.1 (fun j a1 a2 => by
    have h8 := (h.1.2.2.2.2.2.2.2.2.2.2 j a1 a2).2.2.2.2.2.2.1
    have h9 := smI_le (f := fun i => if C (4 * j + 1 + 5) i = s then 1 else 0) (n := C (4 * j + 1 + 4) 6) (a := 0) (c := 1) h8.1 (fun k _ _ => by show 0 ≤ (if _ then (1 : Int) else 0) ∧ (if _ then (1 : Int) else 0) ≤ 1; split <;> omega)
    show 0 ≤ smI _ _ ∧ smI _ _ ≤ 8
    omega)
  unfold sgN
  omega
end
section
variable {C M : gM} {u t N : Int}
theorem bp_0 (h : Iv C N) (hu : 0 ≤ u ∧ u < C 1 3) : 0 ≤ C (4 * u + 5) 0 ∧ C (4 * u + 5) 0 ≤ 110 := (h.lf hu).1
theorem bp_1 (h : Iv C N) (hu : 0 ≤ u ∧ u < C 1 3) : 1 ≤ C (4 * u + 5) 1 ∧ C (4 * u + 5) 1 ≤ 9 := (h.lf hu).2.1
theorem bp_2 (h : Iv C N) (hu : 0 ≤ u ∧ u < C 1 3) : 0 ≤ C (4 * u + 5) 2 ∧ C (4 * u + 5) 2 ≤ 3 := (h.lf hu).2.2.1
theorem bp_3 (h : Iv C N) (hu : 0 ≤ u ∧ u < C 1 3) : 0 ≤ C (4 * u + 5) 6 ∧ C (4 * u + 5) 6 ≤ 8 := (h.lf hu).2.2.2.2.2.2.1
theorem bp_4 (h : Iv C N) (hu : 0 ≤ u ∧ u < C 1 3) : 0 ≤ lnI C u ∧ lnI C u ≤ 72 := lnI_b h hu
theorem bp_5 (h : Iv C N) (hu : 0 ≤ u ∧ u < C 1 3) : 0 ≤ stU C u ∧ stU C u ≤ 8 := stU_b h hu
theorem bp_6 (h : Iv C N) (hu : 0 ≤ u ∧ u < C 1 3) : 0 ≤ scU C u ∧ scU C u ≤ 6 := scU_b h hu
theorem bp_7 (h : Iv C N) (hu : 0 ≤ u ∧ u < C 1 3) : -5 ≤ urU C u ∧ urU C u ≤ 1000 := urU_b h hu
theorem bp_8 (h : Iv C N) (hu : 0 ≤ u ∧ u < C 1 3) : -5 ≤ C (4 * u + 5) 4 ∧ C (4 * u + 5) 4 ≤ C 1 4 ∧ C 1 4 ≤ N := ⟨(h.lf hu).2.2.2.2.1.1, (h.lf hu).2.2.2.2.1.2, h.1.2.1.2⟩
theorem bp_9 (h : Iv C N) (hu : 0 ≤ u ∧ u < C 1 3) : -5 ≤ C (4 * u + 5) 5 ∧ C (4 * u + 5) 5 ≤ C 1 4 ∧ C 1 4 ≤ N := ⟨(h.lf hu).2.2.2.2.2.1.1, (h.lf hu).2.2.2.2.2.1.2, h.1.2.1.2⟩
theorem bp_10 (_ : Iv C N) (_ : 0 ≤ u ∧ u < C 1 3) : 0 ≤ rdI C u ∧ rdI C u ≤ 1 := rdI_b C u
theorem bc_0 (h : Iv C N) : 0 ≤ C 1 4 ∧ C 1 4 ≤ N := h.1.2.1
theorem bc_1 (h : Iv C N) : 0 ≤ C 1 3 ∧ C 1 3 ≤ 20 := h.1.1
theorem bc_2 (h : Iv C N) : 0 ≤ C 1 5 ∧ C 1 5 ≤ 24 := h.1.2.2.1
theorem bc_3 (h : Iv C N) : 0 ≤ ctS C 0 ∧ ctS C 0 ≤ 20 := ctS_b h 0
theorem bc_4 (h : Iv C N) : 0 ≤ ctS C 1 ∧ ctS C 1 ≤ 20 := ctS_b h 1
theorem bc_5 (h : Iv C N) : 0 ≤ ctS C 2 ∧ ctS C 2 ≤ 20 := ctS_b h 2
theorem bc_6 (h : Iv C N) : 0 ≤ ctS C 3 ∧ ctS C 3 ≤ 20 := ctS_b h 3
theorem bc_7 (h : Iv C N) : 0 ≤ fcN C ∧ fcN C ≤ 160 := fcN_b h
theorem bc_8 (h : Iv C N) : 0 ≤ stA C (C 1 4) ∧ stA C (C 1 4) ≤ 160 := stA_b h _
theorem bc_11 (h : Iv C N) : 1 ≤ C 2 0 ∧ C 2 0 ≤ 24 := h.1.2.2.2.2.1
theorem bc_12 (h : Iv C N) : 10 ≤ C 2 1 ∧ C 2 1 ≤ 200 := h.1.2.2.2.2.2.1
theorem bc_13 (h : Iv C N) : 0 ≤ C 2 2 ∧ C 2 2 ≤ 100 := h.1.2.2.2.2.2.2.1
theorem bc_14 (h : Iv C N) : 1 ≤ C 2 3 ∧ C 2 3 ≤ 3 := h.1.2.2.2.2.2.2.2.1
theorem bc_15 (h : Iv C N) : 1 ≤ C 2 4 ∧ C 2 4 ≤ 9 := h.1.2.2.2.2.2.2.2.2.1
theorem bf_0 (h : Iv C N) (hu : 0 ≤ u ∧ u < C 1 3) (ht : 0 ≤ t ∧ t < C (4 * u + 5) 6) : 0 ≤ C (4 * u + 5 + 1) t ∧ C (4 * u + 5 + 1) t ≤ 5 := ((h.lf hu).2.2.2.2.2.2.2.2 t ht.1 ht.2).1
theorem bf_1 (h : Iv C N) (hu : 0 ≤ u ∧ u < C 1 3) (ht : 0 ≤ t ∧ t < C (4 * u + 5) 6) : 1 ≤ C (4 * u + 5 + 2) t ∧ C (4 * u + 5 + 2) t ≤ 9 := ((h.lf hu).2.2.2.2.2.2.2.2 t ht.1 ht.2).2.1
theorem bf_2 (h : Iv C N) (hu : 0 ≤ u ∧ u < C 1 3) (ht : 0 ≤ t ∧ t < C (4 * u + 5) 6) : 0 ≤ C (4 * u + 5 + 3) t ∧ C (4 * u + 5 + 3) t ≤ C 1 4 ∧ C 1 4 ≤ N := ⟨((h.lf hu).2.2.2.2.2.2.2.2 t ht.1 ht.2).2.2.1, ((h.lf hu).2.2.2.2.2.2.2.2 t ht.1 ht.2).2.2.2, h.1.2.1.2⟩
theorem bf_3 (_ : Iv C N) (_ : 0 ≤ u ∧ u < C 1 3) (_ : 0 ≤ t ∧ t < C (4 * u + 5) 6) : 0 ≤ fst C 1 (4 * u + 5) (C 1 4) t ∧ fst C 1 (4 * u + 5) (C 1 4) t ≤ 1 := fst_b _ _ _ _ _
theorem bs_0 (h : Iv C N) (hu : 0 ≤ u ∧ u < 6) : 0 ≤ C 3 u ∧ C 3 u ≤ 100 := h.1.2.2.2.2.2.2.2.2.2.1 u (by omega)
theorem bs_1 (h : Iv C N) (_ : 0 ≤ u ∧ u < 6) : 0 ≤ sgN C u ∧ sgN C u ≤ 160 := sgN_b h u
theorem rd_or (C : gM) (u : Int) : (rdI C u = 1 ∧ C 2 3 ≤ scU C u ∧ stU C u = 0) ∨ (rdI C u = 0 ∧ ¬ (C 2 3 ≤ scU C u ∧ stU C u = 0)) := by
  by_cases h : C (1 + 1) 3 ≤ pcI (mkI (C (4 * u + 5 + 1)) (C (4 * u + 5) 6)) ∧ staleN C 1 (4 * u + 5) (C 1 4) = 0
  · exact Or.inl ⟨rdI_p h, h⟩
  · exact Or.inr ⟨rdI_n h, h⟩
theorem ur_or (C : gM) (u : Int) : (C (4 * u + 5) 2 = 0 ∧ C (4 * u + 5) 6 = 0 ∧ urU C u = C (4 * u + 5) 0 + 10 * C (4 * u + 5) 1 + 5 * stU C u + 40) ∨ (C (4 * u + 5) 2 = 0 ∧ C (4 * u + 5) 6 ≠ 0 ∧ urU C u = C (4 * u + 5) 0 + 10 * C (4 * u + 5) 1 + 5 * stU C u) ∨ (C (4 * u + 5) 2 ≠ 0 ∧ urU C u = -5) := by
  unfold urU urg stU
  by_cases h : C (4 * u + 5) 2 = 0
  · rw [if_pos h]
    by_cases h6 : C (4 * u + 5) 6 = 0
    · rw [if_pos h6]; omega
    · rw [if_neg h6]; omega
  · rw [if_neg h]; omega
end
theorem WF_of {t d i : Int} (hi : 0 ≤ i) (h1 : 10 * i ≤ d) (h2 : d < 10 * i + 10) : wf t i.toNat = WF t d := by
  unfold WF
  rw [show d / 10 = i by omega]
theorem self0 {x : UInt32} (h : pos32 x) : cmpI (FP.fcmp x x) .l = 0 := by
  rw [show FP.fcmp x x = some .eq from FP.Core.fcmp_self (pos_ne h)]
  rfl
theorem bit_at {s k : Int} (hs : 0 ≤ s ∧ s < 64) (hk : 0 ≤ k ∧ k < 6) : ((iI s) >>> ((iI k) &&& 31)) &&& (iI 1) = iI (s / p2 k % 2) := by
  have h := co_all (P := fun s => (List.range 6).all (fun k => decide (((iI s) >>> ((iI (k : Int)) &&& 31)) &&& (iI 1) = iI (s / p2 k % 2))) = true) 64 (by decide +kernel) hs
  have h1 := List.all_eq_true.mp h k.toNat (List.mem_range.mpr (by omega))
  have h2 := of_decide_eq_true h1
  rwa [Int.toNat_of_nonneg hk.1] at h2
theorem iI_shr {c : Int} (hc : 0 ≤ c ∧ c ≤ 2147483647) (k : Nat) (s : Int) (hs : ((iI s &&& 31).toBitVec.smod 32).toNat = k) : (iI c) >>> ((iI s) &&& 31) = iI (c / ((2 ^ k : Nat) : Int)) := by
  obtain ⟨m, rfl⟩ : ∃ m : Nat, c = (m : Int) := ⟨c.toNat, by omega⟩
  rw [← iI_nI, pk_shrN (by omega) _ k hs, iI_nI]
  rfl
theorem iI_shl' {c : Int} (hc : 0 ≤ c ∧ c ≤ 20) (k : Nat) (hk : k ≤ 15) (s : Int) (hs : ((iI s &&& 31).toBitVec.smod 32).toNat = k) : (iI c) <<< ((iI s) &&& 31) = iI (c * ((2 ^ k : Nat) : Int)) := by
  obtain ⟨m, rfl⟩ : ∃ m : Nat, c = (m : Int) := ⟨c.toNat, by omega⟩
  have hp : 2 ^ k ≤ 2 ^ 15 := Nat.pow_le_pow_right (by decide) hk
  have hm : m * 2 ^ k ≤ 20 * 2 ^ 15 := Nat.mul_le_mul (by omega) hp
  rw [← iI_nI, pk_shlN _ k hs (by omega), iI_nI]
  congr 1
theorem stI_ge {w c : UInt32} (h : 0 ≤ cmpI (FP.fcmp w c) .g) : stI w c = 0 := by
  unfold stI
  exact if_neg (by omega)
theorem stI_lt {w c : UInt32} (h : ¬ 0 ≤ cmpI (FP.fcmp w c) .g) : stI w c = 1 := by
  unfold stI
  exact if_pos (by omega)
