/-! checking the urgent, printing, keeping, restoring, adding -/
theorem smI_mono {f g : Int → Int} {n : Int} (h : ∀ j : Int, 0 ≤ j → j < n → f j ≤ g j) : smI f n ≤ smI g n := by
  have key : ∀ m : Nat, (m : Int) ≤ n → smI f m ≤ smI g m := by
    intro m
    induction m with
    | zero => intro _; exact Int.le_refl _
    | succ m ih =>
      intro hm
      rw [show ((m + 1 : Nat) : Int) = (m : Int) + 1 by omega, smI_s _ (by omega), smI_s _ (by omega)]
      have h1 := ih (by omega)
      have h2 := h m (by omega) (by omega)
      omega
  by_cases hn : 0 ≤ n
  · have := key n.toNat (by omega)
    rwa [Int.toNat_of_nonneg hn] at this
  · unfold smI
    rw [show n.toNat = 0 by omega]
    exact Int.le_refl _
theorem chk_R {M : gM} {k f a i : Int} : chk M k f a i = if a = 1 ∧ i = 5 then M 1 5 - 1 else if a = 4 * k + 8 ∧ i = f then M 1 4 else M a i := by
  unfold chk
  rw [ap2, ap2]
theorem chk_st {M : gM} {N k f : Int} (hI : Iv M N) (hk : 0 ≤ k ∧ k < M 1 3) (hf : fst M 1 (4 * k + 5) (M 1 4) f = 1) : stA (chk M k f) (M 1 4) ≤ stA M (M 1 4) := by
  have R : ∀ a i : Int, chk M k f a i = if a = 1 ∧ i = 5 then M 1 5 - 1 else if a = 4 * k + 8 ∧ i = f then M 1 4 else M a i := fun a i => chk_R
  have h3 := hI.1.1
  have r13 : chk M k f 1 3 = M 1 3 := by rw [R]; (repeat (first | rw [if_pos (by omega)] | rw [if_neg (by omega)]))
  unfold stA
  rw [r13]
  refine smI_mono fun i a1 a2 => ?_
  have q2 : chk M k f (4 * i + 1 + 4) = M (4 * i + 1 + 4) := funext fun j => by rw [R]; (repeat (first | rw [if_pos (by omega)] | rw [if_neg (by omega)]))
  have q3 : chk M k f (1 + 1) = M (1 + 1) := funext fun j => by rw [R]; (repeat (first | rw [if_pos (by omega)] | rw [if_neg (by omega)]))
  have q4 : chk M k f (1 + 2) = M (1 + 2) := funext fun j => by rw [R]; (repeat (first | rw [if_pos (by omega)] | rw [if_neg (by omega)]))
  have q5 : chk M k f (4 * i + 1 + 4 + 1) = M (4 * i + 1 + 4 + 1) := funext fun j => by rw [R]; (repeat (first | rw [if_pos (by omega)] | rw [if_neg (by omega)]))
  rw [q2]
  by_cases hs : M (4 * i + 1 + 4) 2 = 3
  · rw [if_pos hs, if_pos hs]; exact Int.le_refl _
  · rw [if_neg hs, if_neg hs]
    unfold staleN
    rw [q2]
    refine smI_mono fun j b1 b2 => ?_
    by_cases hc : i = k ∧ j = f
    · have h1 := (fst_b (chk M k f) 1 (4 * i + 1 + 4) (M 1 4) j).2
      rw [hc.1, hc.2] at h1 ⊢
      rw [show 4 * k + 1 + 4 = 4 * k + 5 by omega] at h1 ⊢
      omega
    · have q6 : chk M k f (4 * i + 1 + 4 + 3) j = M (4 * i + 1 + 4 + 3) j := by rw [R]; (repeat (first | rw [if_pos (by omega)] | rw [if_neg (by omega)]))
      unfold fst
      rw [q3, q4, q5, q6]
      exact Int.le_refl _
theorem chk_Iv {M : gM} {N k f : Int} (hI : Iv M N) (hk : 0 ≤ k ∧ k < M 1 3) (h5 : 1 ≤ M 1 5) : Iv (chk M k f) N := by
  have R : ∀ a i : Int, chk M k f a i = if a = 1 ∧ i = 5 then M 1 5 - 1 else if a = 4 * k + 8 ∧ i = f then M 1 4 else M a i := fun a i => chk_R
  have h3 := hI.1.1
  have r13 : chk M k f 1 3 = M 1 3 := by rw [R]; (repeat (first | rw [if_pos (by omega)] | rw [if_neg (by omega)]))
  have q : chk M k f 169 = M 169 := funext fun j => by rw [R]; (repeat (first | rw [if_pos (by omega)] | rw [if_neg (by omega)]))
  refine ⟨DkOk_chk hI.1 hk.1 h5, by rw [q]; exact hI.2.1, by rw [q]; exact hI.2.2.1, fun i a1 a2 => ?_⟩
  have q2 : chk M k f (4 * i + 5) = M (4 * i + 5) := funext fun j => by rw [R]; (repeat (first | rw [if_pos (by omega)] | rw [if_neg (by omega)]))
  unfold Lf2
  rw [q2]
  exact hI.2.2.2 i a1 (by omega)
theorem ckn_all {N : Int} : ∀ (n : Nat) (M M' : gM), Iv M N → CkN n M M' → (Iv M' N ∧ M' 1 3 = M 1 3 ∧ M' 1 4 = M 1 4) ∧ M' 1 5 = M 1 5 - n ∧ stA M' (M 1 4) ≤ stA M (M 1 4) := by
  intro n
  induction n with
  | zero => intro M M' hI h; cases h; exact ⟨⟨hI, rfl, rfl⟩, by omega, Int.le_refl _⟩
  | succ n ih =>
    intro M M' hI hcn
    obtain ⟨M1, h1, k, f, hk, h5, hb, hf, hF, rfl⟩ := hcn
    obtain ⟨⟨g1, g2, g3⟩, g4, g5⟩ := ih M M1 hI h1
    have hkb := isBest_k hb hk
    have hft : 0 ≤ f ∧ toChk M1 1 (4 * k + 5) f := by
      rcases hF with ⟨z1, -⟩ | ⟨z1, z2, z3, -⟩
      · omega
      · exact ⟨z1, z3⟩
    have R : ∀ a i : Int, chk M1 k f a i = if a = 1 ∧ i = 5 then M1 1 5 - 1 else if a = 4 * k + 8 ∧ i = f then M1 1 4 else M1 a i := fun a i => chk_R
    have r13 : chk M1 k f 1 3 = M1 1 3 := by rw [R]; (repeat (first | rw [if_pos (by omega)] | rw [if_neg (by omega)]))
    have r14 : chk M1 k f 1 4 = M1 1 4 := by rw [R]; (repeat (first | rw [if_pos (by omega)] | rw [if_neg (by omega)]))
    have r15 : chk M1 k f 1 5 = M1 1 5 - 1 := by rw [R]; (repeat (first | rw [if_pos (by omega)] | rw [if_neg (by omega)]))
    have hs := chk_st g1 ⟨hk, hkb.1⟩ hft.2.2
    rw [g3] at hs
    exact ⟨⟨chk_Iv g1 ⟨hk, hkb.1⟩ h5, by omega, by omega⟩, by omega, by omega⟩
theorem w_chk {C C' : gM} {N v : Int} (hI : Iv C N) (hv : (fun v C' => (CkDone C ∧ v = -5 ∧ C' = C) ∨ (1 ≤ C 1 5 ∧ (∃ k : Int, 0 ≤ k ∧ isBest (due C 1) (urgP C 1) (C 1 3) k) ∧ 0 ≤ v ∧ CkN v.toNat (remC C) C' ∧ CkDone C')) v C') : (Iv C' N ∧ C' 1 3 = C 1 3 ∧ C' 1 4 = C 1 4) ∧ ((v = -5 ∧ C' = C) ∨ (1 ≤ v ∧ v ≤ C 1 5 ∧ C' 1 5 = C 1 5 - v ∧ stA C' (C' 1 4) ≤ stA C (C 1 4))) ∧ (CkDone C → v = -5) ∧ (v ≠ -5 → CkDone C') := by
  have hv : (CkDone C ∧ v = -5 ∧ C' = C) ∨ (1 ≤ C 1 5 ∧ (∃ k : Int, 0 ≤ k ∧ isBest (due C 1) (urgP C 1) (C 1 3) k) ∧ 0 ≤ v ∧ CkN v.toNat (remC C) C' ∧ CkDone C') := hv
  rcases hv with ⟨h0, h1, h2⟩ | ⟨h5, ⟨k, hk, hb⟩, hv0, hn, hd⟩
  · subst h2
    exact ⟨⟨hI, rfl, rfl⟩, Or.inl ⟨h1, rfl⟩, fun _ => h1, fun z => absurd h1 z⟩
  · have hag := remC_ag hI.1.1
    have e1 : remC C 1 = C 1 := hag 1 (by omega) (by omega)
    obtain ⟨⟨g1, g2, g3⟩, g4, g5⟩ := ckn_all v.toNat (remC C) C' (rem_Iv hI) hn
    rw [e1] at g2 g3 g4 g5
    have hno : ¬ CkDone C := fun z => by
      rcases z with z | z
      · omega
      · have := isBest_uniq (fun _ _ _ => Iff.rfl) (fun _ _ _ _ => rfl) z hb
        omega
    have hv1 : 1 ≤ v := by
      refine Int.not_lt.mp fun z => ?_
      have hz : v.toNat = 0 := by omega
      rw [hz] at hn
      have hn : C' = remC C := hn
      rw [hn] at hd
      rcases hd with z | z
      · rw [e1] at z; omega
      · have := isBest_uniq (fun _ _ _ => Iff.rfl) (fun _ _ _ _ => rfl) z (best_ag hag hI.1.1 hb)
        omega
    have h24 := g1.1.2.2.1
    rw [stA_ag hag hI.1.1] at g5
    exact ⟨⟨g1, g2, g3⟩, Or.inr ⟨hv1, by omega, by omega, by rw [g3]; exact g5⟩, fun z => absurd z hno, fun _ => hd⟩
theorem ct_up {D C' : gM} {u k : Int} (hu : 0 ≤ u ∧ u < D 1 3) (e3 : C' 1 3 = D 1 3) (e : ∀ i : Int, 0 ≤ i → i ≠ u → C' (4 * i + 5) 2 = D (4 * i + 5) 2) (hk : D (4 * u + 5) 2 ≠ k ∧ C' (4 * u + 5) 2 = k) : ctS C' k = ctS D k + 1 := by
  unfold ctS
  rw [e3, smI_one (f := fun i => if D (4 * i + 1 + 4) 2 = k then 1 else 0) hu (fun i a1 a2 a3 => by
    show (if C' (4 * i + 1 + 4) 2 = k then (1 : Int) else 0) = if D (4 * i + 1 + 4) 2 = k then 1 else 0
    rw [show 4 * i + 1 + 4 = 4 * i + 5 by omega, e i a1 a3])]
  show _ - (if D (4 * u + 1 + 4) 2 = k then (1 : Int) else 0) + (if C' (4 * u + 1 + 4) 2 = k then (1 : Int) else 0) = _
  rw [show 4 * u + 1 + 4 = 4 * u + 5 by omega, if_neg hk.1, if_pos hk.2]
  omega
/-- those of the page are printed: as many more as it has -/
theorem mkP_ct {L : gM} {m : Int} (hp : ∀ r : Int, 0 ≤ r → r < m → (0 ≤ L 577 r ∧ L 577 r < L 1 3) ∧ L (4 * L 577 r + 5) 2 = 2) (hd : ∀ s r : Int, 0 ≤ s → s < r → r < m → L 577 s ≠ L 577 r) : ∀ k : Nat, (k : Int) ≤ m → ctS (mkP L k) 3 = ctS L 3 + k := by
  intro k
  induction k with
  | zero => intro _; rw [show ((0 : Nat) : Int) = 0 from rfl, mkP_0]; omega
  | succ k ih =>
    intro hk
    obtain ⟨h1, h2⟩ := hp k (by omega) (by omega)
    have e1 : mkP L k 1 = L 1 := mkP_out (by omega) (fun s s0 s1 => by have := (hp s s0 (by omega)).1; omega)
    have e2 : mkP L k (4 * L 577 k + 5) = L (4 * L 577 k + 5) := mkP_out (by omega) (fun s s0 s1 => by have := hd s k s0 s1 (by omega); omega)
    have R : ∀ a i : Int, mkP L ((k : Int) + 1) a i = if a = 4 * L 577 k + 5 ∧ i = 5 then L 1 4 else if a = 4 * L 577 k + 5 ∧ i = 2 then 3 else mkP L k a i := fun a i => by
      rw [← mkP_s (by omega), ap2, ap2]
    rw [show ((k + 1 : Nat) : Int) = (k : Int) + 1 by omega, ct_up (D := mkP L k) (u := L 577 k) (by rw [e1]; exact h1) (by rw [R]; (repeat (first | rw [if_pos (by omega)] | rw [if_neg (by omega)]))) (fun i a1 a2 => by rw [R]; (repeat (first | rw [if_pos (by omega)] | rw [if_neg (by omega)]))) ⟨by rw [e2]; omega, by rw [R]; (repeat (first | rw [if_pos (by omega)] | rw [if_neg (by omega)]))⟩, ih (by omega)]
    omega
theorem tbk_R {M : gM} {n i j : Int} (hi : 0 ≤ i ∧ i < n) : tbk M 1 n (4 * i + 5) j = if (M (4 * i + 5) 2 = 1 ∧ M (4 * i + 5) 4 + M 2 4 ≤ M 1 4 + 1) ∧ (j = 2 ∨ j = 3 ∨ j = 4) then (if j = 2 then 0 else -5) else M (4 * i + 5) j := by
  unfold tbk
  rw [show (1 : Int) + 1 = 2 by omega]
  exact ite_c (by omega)
theorem tbk_n {M : gM} {n a j : Int} (h : a < 5 ∨ (a - 1) % 4 ≠ 0 ∨ 5 + 4 * n ≤ a) : tbk M 1 n a j = M a j := by
  unfold tbk
  rw [if_neg (by omega)]
/-- a day passes -/
theorem prt_Iv {M : gM} {N : Int} (h : Iv M N) : (Iv (prtM M) (N + 1) ∧ prtM M 1 3 = M 1 3 ∧ prtM M 1 4 = M 1 4 + 1 ∧ prtM M 1 5 = M 2 0) ∧ prtM M 2 = M 2 ∧ ctS (prtM M) 3 = ctS M 3 ∧ (∀ i : Int, 0 ≤ i → i < M 1 3 → M (4 * i + 5) 2 = 3 → prtM M (4 * i + 5) 2 = 3 ∧ prtM M (4 * i + 5) 5 = M (4 * i + 5) 5) ∧ ∀ a : Int, (a < 1 ∨ 85 ≤ a) → prtM M a = M a := by
  have h20 := h.1.1
  have hT := h.1.2.1
  have h24 := h.1.2.2.1
  have h6 := h.1.2.2.2.1
  obtain ⟨s0, s1, s2, s3, s4, s5, s6⟩ := h.1.2.2.2.2
  rw [show (1 : Int) + 1 = 2 by omega] at s0 s1 s2 s3 s4
  have R : ∀ a i : Int, prtM M a i = if a = 1 ∧ i = 5 then tbk M 1 (M 1 3) 2 0 else if a = 1 ∧ i = 4 then tbk M 1 (M 1 3) 1 4 + 1 else tbk M 1 (M 1 3) a i := fun a i => by
    unfold prtM
    rw [show (1 : Int) + 1 = 2 by omega, ap2, ap2]
  have O : ∀ a i : Int, (a < 5 ∨ (a - 1) % 4 ≠ 0 ∨ 5 + 4 * M 1 3 ≤ a) → a ≠ 1 → prtM M a i = M a i := fun a i b1 b2 => by
    rw [R, if_neg (by omega), if_neg (by omega)]
    exact tbk_n b1
  have r13 : prtM M 1 3 = M 1 3 := by rw [R, if_neg (by omega), if_neg (by omega)]; exact tbk_n (by omega)
  have r14 : prtM M 1 4 = M 1 4 + 1 := by rw [R, if_neg (by omega), if_pos (by omega), tbk_n (by omega)]
  have r15 : prtM M 1 5 = M 2 0 := by rw [R, if_pos (by omega), tbk_n (by omega)]
  have r16 : prtM M 1 6 = M 1 6 := by rw [R, if_neg (by omega), if_neg (by omega)]; exact tbk_n (by omega)
  have r2 : prtM M 2 = M 2 := funext fun i => O 2 i (by omega) (by omega)
  have r3 : prtM M 3 = M 3 := funext fun i => O 3 i (by omega) (by omega)
  have r169 : prtM M 169 = M 169 := funext fun i => by rw [R, if_neg (by omega), if_neg (by omega)]; exact tbk_out (by omega)
  have Q : ∀ i j : Int, 0 ≤ i → i < M 1 3 → prtM M (4 * i + 5) j = if (M (4 * i + 5) 2 = 1 ∧ M (4 * i + 5) 4 + M 2 4 ≤ M 1 4 + 1) ∧ (j = 2 ∨ j = 3 ∨ j = 4) then (if j = 2 then 0 else -5) else M (4 * i + 5) j := fun i j b1 b2 => by
    rw [R, if_neg (by omega), if_neg (by omega)]
    exact tbk_R ⟨b1, b2⟩
  have Q1 : ∀ i j : Int, 0 ≤ i → i < M 1 3 → (M (4 * i + 5) 2 = 1 ∧ M (4 * i + 5) 4 + M 2 4 ≤ M 1 4 + 1) → prtM M (4 * i + 5) j = if j = 2 then 0 else if j = 3 ∨ j = 4 then -5 else M (4 * i + 5) j := fun i j b1 b2 b3 => by
    rw [Q i j b1 b2]
    by_cases c2 : j = 2
    · rw [if_pos ⟨b3, Or.inl c2⟩, if_pos c2, if_pos c2]
    · by_cases c3 : j = 3 ∨ j = 4
      · rw [if_pos ⟨b3, by omega⟩, if_neg c2, if_neg c2, if_pos c3]
      · rw [if_neg (by omega), if_neg c2, if_neg c3]
  have Q0 : ∀ i : Int, 0 ≤ i → i < M 1 3 → ¬ (M (4 * i + 5) 2 = 1 ∧ M (4 * i + 5) 4 + M 2 4 ≤ M 1 4 + 1) → prtM M (4 * i + 5) = M (4 * i + 5) := fun i b1 b2 b3 => funext fun j => by
    rw [Q i j b1 b2, if_neg (fun z => b3 z.1)]
  refine ⟨⟨⟨⟨by rw [r13]; exact h20, by rw [r14]; omega, by rw [r15]; exact ⟨by omega, by omega⟩, by rw [r16]; omega, ?_⟩, by rw [r169]; exact h.2.1, by rw [r169]; exact h.2.2.1, fun i a1 a2 => ?_⟩, r13, r14, r15⟩, r2, ?_, fun i a1 a2 a3 => ?_, fun a b => funext fun i => ?_⟩
  · rw [show (1 : Int) + 1 = 2 by omega, show (1 : Int) + 2 = 3 by omega, r2, r3, r13, r14]
    rw [show (1 : Int) + 2 = 3 by omega] at s5
    refine ⟨s0, s1, s2, s3, s4, s5, fun i a1 a2 => ?_⟩
    have hl := h.lf ⟨a1, a2⟩
    obtain ⟨l0, l1, l2, l3, l4, l5, l6, l7, l8⟩ := hl
    rw [show 4 * i + 1 + 4 = 4 * i + 5 by omega]
    have k1 : prtM M (4 * i + 5 + 1) = M (4 * i + 5 + 1) := funext fun j => O _ j (by omega) (by omega)
    have k2 : prtM M (4 * i + 5 + 2) = M (4 * i + 5 + 2) := funext fun j => O _ j (by omega) (by omega)
    have k3 : prtM M (4 * i + 5 + 3) = M (4 * i + 5 + 3) := funext fun j => O _ j (by omega) (by omega)
    unfold LfOk
    rw [k1, k2, k3]
    by_cases hc : M (4 * i + 5) 2 = 1 ∧ M (4 * i + 5) 4 + M 2 4 ≤ M 1 4 + 1
    · have p := fun j => Q1 i j a1 a2 hc
      have p0 := p 0
      have p1 := p 1
      have p2' := p 2
      have p3 := p 3
      have p4 := p 4
      have p5' := p 5
      have p6 := p 6
      rw [if_neg (by omega), if_neg (by omega)] at p0 p1 p5' p6
      rw [if_pos (by omega)] at p2'
      rw [if_neg (by omega), if_pos (by omega)] at p3 p4
      rw [p0, p1, p2', p3, p4, p5', p6]
      exact ⟨l0, l1, by omega, by omega, by omega, by omega, l6, fun z => absurd rfl z, fun j b1 b2 => by have := l8 j b1 b2; omega⟩
    · rw [Q0 i a1 a2 hc]
      exact ⟨l0, l1, l2, l3, by omega, by omega, l6, l7, fun j b1 b2 => by have := l8 j b1 b2; omega⟩
  · rw [r13] at a2
    have g := h.2.2.2 i a1 a2
    unfold Lf2 at g ⊢
    by_cases hc : M (4 * i + 5) 2 = 1 ∧ M (4 * i + 5) 4 + M 2 4 ≤ M 1 4 + 1
    · have p2' := Q1 i 2 a1 a2 hc
      have p4 := Q1 i 4 a1 a2 hc
      have p5' := Q1 i 5 a1 a2 hc
      rw [if_pos (by omega)] at p2'
      rw [if_neg (by omega), if_pos (by omega)] at p4
      rw [if_neg (by omega), if_neg (by omega)] at p5'
      omega
    · rw [Q0 i a1 a2 hc]
      exact g
  · unfold ctS
    rw [r13]
    refine smI_congr fun i a1 a2 => ?_
    rw [show 4 * i + 1 + 4 = 4 * i + 5 by omega]
    by_cases hc : M (4 * i + 5) 2 = 1 ∧ M (4 * i + 5) 4 + M 2 4 ≤ M 1 4 + 1
    · have p2' := Q1 i 2 a1 a2 hc
      rw [if_pos (by omega)] at p2'
      rw [p2', if_neg (by omega), if_neg (by omega)]
    · rw [Q0 i a1 a2 hc]
  · rw [Q0 i a1 a2 (by omega)]
    exact ⟨a3, rfl⟩
  · rw [R, if_neg (by omega), if_neg (by omega)]
    exact tbk_out (by omega)
theorem w_print {C C' : gM} {N v : Int} (hI : Iv C N) (hN : N ≤ 500) (hv : (fun v C' => ∃ L, Laid (remC C) L 1 ∧ v = L 573 2 ∧ C' = prtM (mkP L (L 573 2))) v C') : ∃ L : gM, Lq C L ∧ v = L 573 2 ∧ (Iv C' (N + 1) ∧ C' 1 3 = C 1 3 ∧ C' 1 4 = C 1 4 + 1 ∧ C' 1 5 = C' 2 0) ∧ ctS C' 3 = ctS C 3 + L 573 2 ∧ (∀ r : Int, 0 ≤ r → r < L 573 2 → C' (4 * L 577 r + 5) 2 = 3 ∧ C' (4 * L 577 r + 5) 5 = C 1 4) ∧ ∀ a : Int, (a = 0 ∨ (85 ≤ a ∧ a < 169)) → C' a = C a := by
  obtain ⟨L, hL, hv1, hC⟩ := hv
  have hag := remC_ag hI.1.1
  have hLI := (Laid_sc hL).iv (rem_Iv hI)
  have hLq := Lq_ag hag hI.1.1 (Laid_lq hL)
  obtain ⟨f1, f2, f3, f4, f5⟩ := Lq_facts hI hN hLq
  have h20 := hI.1.1
  have eL : ∀ a : Int, a < 169 → L a = C a := fun a ha => (Laid_sc hL a (by omega)).trans (remC_out (by omega) h20)
  have e1 : L 1 = C 1 := eL 1 (by omega)
  have hps : ∀ s : Int, 0 ≤ s → s < L 573 2 → (0 ≤ L 577 s ∧ L 577 s < L 1 3) ∧ L (4 * L 577 s + 5) 2 = 2 := fun s a1 a2 => by
    obtain ⟨b1, b2, -⟩ := f2 s a1 a2
    rw [e1, eL (4 * L 577 s + 5) (by omega)]
    exact ⟨b1, b2⟩
  have hne : ∀ s r : Int, 0 ≤ s → s < r → r < L 573 2 → L 577 s ≠ L 577 r := fun s r a0 a1 a2 z => by
    have := f3 s r a0 a1 a2
    rw [z] at this
    omega
  have hct := mkP_ct hps hne (L 573 2).toNat (by omega)
  rw [Int.toNat_of_nonneg f1.1] at hct
  have M0 : ∀ a : Int, (a < 5 ∨ (a - 5) % 4 ≠ 0) → mkP L (L 573 2) a = L a := fun a ha => mkP_out f1.1 (fun s s0 s1 => by have := (hps s s0 s1).1; omega)
  have M1 : mkP L (L 573 2) 1 = L 1 := M0 1 (by omega)
  have hDM : DkOk (mkP L (L 573 2)) 1 N := DkOk_mk hLI.1 f1.1 (fun s s0 s1 => ⟨(hps s s0 s1).1, (hLI.lf (hps s s0 s1).1).2.2.2.2.2.2.2.1 (by have := (hps s s0 s1).2; omega)⟩)
  have hMI : Iv (mkP L (L 573 2)) N := by
    have h169 : mkP L (L 573 2) 169 = L 169 := mkP_out f1.1 (fun s s0 s1 => by have := (hps s s0 s1).1; rw [e1] at this; omega)
    refine ⟨hDM, by rw [h169]; exact hLI.2.1, by rw [h169]; exact hLI.2.2.1, fun i a1 a2 => ?_⟩
    rw [M1] at a2
    have g := hLI.2.2.2 i a1 a2
    have hT := hLI.1.2.1
    by_cases hz : ∃ s : Int, 0 ≤ s ∧ s < L 573 2 ∧ 4 * i + 5 = 4 * L 577 s + 5
    · have hm := mkP_in f1.1 hz
      unfold Lf2
      rw [hm.1, hm.2]
      omega
    · unfold Lf2
      rw [mkP_out f1.1 (fun s s0 s1 z => hz ⟨s, s0, s1, z⟩)]
      exact g
  obtain ⟨⟨p1, p2', p3, p4⟩, p5', p6, p7, p8⟩ := prt_Iv hMI
  rw [← hC] at p1 p2' p3 p4 p5' p6 p7 p8
  rw [M1, e1] at p2' p3
  have hcL : ctS L 3 = ctS C 3 := ctS_ag (C := C) (M := L) (fun a a1 a2 => eL a (by omega)) h20
  refine ⟨L, hLq, hv1, ⟨p1, p2', p3, by rw [p4, p5']⟩, by rw [p6, hct, hcL], fun r a1 a2 => ?_, fun a ha => ?_⟩
  · have hm := mkP_in (M := L) (a := 4 * L 577 r + 5) f1.1 ⟨r, a1, a2, rfl⟩
    have hr := (hps r a1 a2).1
    obtain ⟨q1, q2⟩ := p7 (L 577 r) hr.1 (by rw [M1]; exact hr.2) hm.1
    exact ⟨q1, by rw [q2, hm.2, e1]⟩
  · rw [p8 a (by omega), ← eL a (by omega)]
    exact mkP_out f1.1 (fun s s0 s1 => by have := (hps s s0 s1).1; rw [e1] at this; omega)
