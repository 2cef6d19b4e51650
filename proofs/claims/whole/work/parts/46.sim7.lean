/-! a page printed, persons of the text joined -/
section
variable {C C' D E S S' L LM P Q : gM} {N N' : Int} {f f' : Int → Int}
theorem mk_step (h : Cur D 1 (E 579) N) {u d e : Int} (hu : 0 ≤ u ∧ u < D 1 3) (hs : D (4 * u + 5) 2 ≠ 0) (hd : d = D 1 4) (he : e = E 579 0) (hC : C' = up2 (up2 D (4 * u + 5) 2 3) (4 * u + 5) 5 d) (hS : S' = up2 (up2 E 579 (32 * u + 18) 3) 579 (32 * u + 22) e) : Cur C' 1 (S' 579) N := by
  have hL := h.2.1 u hu.1 hu.2
  rw [show 4 * u + 1 + 4 = 4 * u + 5 by omega] at hL
  have ⟨⟨b0, b1, b2, b3, b4, b5, b6, b7, b8⟩, ⟨g0, g1, g2, g3, g4⟩, g5, g6, g7, g8, g9, g10⟩ := hL
  have E0 : E 579 0 = D 1 4 := h.1.1.1
  have E2 : E 579 2 = D 1 5 := h.1.1.2.2.1
  have B3 := h.1.2.1.1
  have B4 := h.1.2.1.2.1
  have B5 := h.1.2.1.2.2.1
  have hout : ∀ a : Int, a ≠ 4 * u + 5 → C' a = D a := fun a a1 => by rw [hC, up2_ne _ _ _ a1, up2_ne _ _ _ a1]
  have fout : ∀ x : Int, x ≠ 32 * u + 18 → x ≠ 32 * u + 22 → S' 579 x = E 579 x := fun x a1 a2 => by rw [hS, rd_i a2, rd_i a1]
  have x1 := hout 1 (by omega)
  have x13 : C' 1 3 = D 1 3 := by rw [x1]
  have x14 : C' 1 4 = D 1 4 := by rw [x1]
  have x15 : C' 1 5 = D 1 5 := by rw [x1]
  have x16 : C' 1 6 = D 1 6 := by rw [x1]
  have f2 := fout 2 (by omega) (by omega)
  have w0 : C' (4 * u + 5) 0 = D (4 * u + 5) 0 := by
    rw [hC]
    repeat rw [ap2]
    repeat (first | rw [if_pos (by omega)] | rw [if_neg (by omega)])
  have w1 : C' (4 * u + 5) 1 = D (4 * u + 5) 1 := by
    rw [hC]
    repeat rw [ap2]
    repeat (first | rw [if_pos (by omega)] | rw [if_neg (by omega)])
  have w2 : C' (4 * u + 5) 2 = 3 := by
    rw [hC]
    repeat rw [ap2]
    repeat (first | rw [if_pos (by omega)] | rw [if_neg (by omega)])
  have w3 : C' (4 * u + 5) 3 = D (4 * u + 5) 3 := by
    rw [hC]
    repeat rw [ap2]
    repeat (first | rw [if_pos (by omega)] | rw [if_neg (by omega)])
  have w4 : C' (4 * u + 5) 4 = D (4 * u + 5) 4 := by
    rw [hC]
    repeat rw [ap2]
    repeat (first | rw [if_pos (by omega)] | rw [if_neg (by omega)])
  have w5 : C' (4 * u + 5) 5 = d := by
    rw [hC]
    repeat rw [ap2]
    repeat (first | rw [if_pos (by omega)] | rw [if_neg (by omega)])
  have w6 : C' (4 * u + 5) 6 = D (4 * u + 5) 6 := by
    rw [hC]
    repeat rw [ap2]
    repeat (first | rw [if_pos (by omega)] | rw [if_neg (by omega)])
  have y18 : S' 579 (32 * u + 18) = 3 := by
    rw [hS]
    repeat rw [ap2]
    repeat (first | rw [if_pos (by omega)] | rw [if_neg (by omega)])
  have y20 : S' 579 (32 * u + 20) = E 579 (32 * u + 20) := by
    rw [hS]
    repeat rw [ap2]
    repeat (first | rw [if_pos (by omega)] | rw [if_neg (by omega)])
  have y21 : S' 579 (32 * u + 21) = E 579 (32 * u + 21) := by
    rw [hS]
    repeat rw [ap2]
    repeat (first | rw [if_pos (by omega)] | rw [if_neg (by omega)])
  have y22 : S' 579 (32 * u + 22) = e := by
    rw [hS]
    repeat rw [ap2]
    repeat (first | rw [if_pos (by omega)] | rw [if_neg (by omega)])
  have hLn : LfR C' (4 * u + 5) (S' 579) (32 * u) (D 1 4) := by
    refine LfR_h hL w0 w1 w6 (hout _ (by omega)) (hout _ (by omega)) (hout _ (by omega)) (fun r a1 a2 a3 a4 a5 a6 => fout _ (by omega) (by omega)) (by omega) (by omega) (by omega) (by omega) (fun z => by omega) (by omega) (by omega) (fun z => by omega) (fun z => by omega) (fun z => by omega) (by omega) (by omega)
  exact cur_one h hu (hd_modn h.1 x13 x14 (by omega) x16 (hout 2 (by omega)) (hout 3 (by omega)) (fun x a1 a2 a3 => fout x (by omega) (by omega)) (by omega)) x13 x14 (fun a a1 a2 a3 => hout a (by omega)) (fun x a1 a2 => fout x (by omega) (by omega)) hLn
theorem mk_run (h : Cur L 1 (LM 579) N) {m : Int} (hp : ∀ r : Int, 0 ≤ r → r < m → LM 582 r = L 577 r ∧ (0 ≤ L 577 r ∧ L 577 r < L 1 3) ∧ L (4 * L 577 r + 5) 2 ≠ 0) : ∀ i : Nat, (i : Int) ≤ m → Cur (mkP L i) 1 (mpP LM i 579) N ∧ mkP L i 1 3 = L 1 3 ∧ mkP L i 1 4 = L 1 4 ∧ ∀ r : Int, 0 ≤ r → r < m → mkP L i (4 * L 577 r + 5) 2 ≠ 0 := by
  intro i
  induction i with
  | zero => intro _; exact ⟨h, rfl, rfl, fun r a1 a2 => (hp r a1 a2).2.2⟩
  | succ i ih =>
    intro hi
    obtain ⟨a1, a2, a3, a4⟩ := ih (by omega)
    obtain ⟨b1, b2, b3⟩ := hp i (by omega) (by omega)
    have c1 : mpP LM i 579 0 = LM 579 0 := mpP_j ⟨by omega, by omega⟩
    have e1 : up2 (up2 (mkP L i) (4 * L 577 i + 5) 2 3) (4 * L 577 i + 5) 5 (L 1 4) = mkP L ((i + 1 : Nat) : Int) := mkP_s (by omega)
    have e2 : up2 (up2 (mpP LM i) 579 (32 * LM 582 i + 18) 3) 579 (32 * LM 582 i + 22) (LM 579 0) = mpP LM ((i + 1 : Nat) : Int) := mpP_s (by omega)
    rw [b1] at e2
    refine ⟨mk_step a1 (u := L 577 i) (by omega) (a4 i (by omega) (by omega)) a3.symm c1.symm e1.symm e2.symm, ?_, ?_, fun r z1 z2 => ?_⟩
    · rw [← e1, rd_k (by omega), rd_k (by omega)]
      exact a2
    · rw [← e1, rd_k (by omega), rd_k (by omega)]
      exact a3
    · rw [← e1, rd_i (by omega)]
      by_cases hr : 4 * L 577 r + 5 = 4 * L 577 i + 5
      · rw [rd_hit hr rfl]
        omega
      · rw [rd_k hr]
        exact a4 r z1 z2
theorem prt_cur (h : Cur P 1 (Q 579) N) (hC : C' = prtM P) (hS : S' = prtS Q) : Cur C' 1 (S' 579) (N + 1) := by
  unfold prtM at hC
  unfold prtS at hS
  have hn : Q 579 1 = P 1 3 := h.1.1.2.1
  rw [hn] at hS
  have B3 := h.1.2.1.1
  have B4 := h.1.2.1.2.1
  have h20 := h.1.2.2.2.1.1
  have F0 : Q 579 0 = P 1 4 := h.1.1.1
  have F4 : Q 579 4 = P (1 + 1) 0 := h.1.2.2.1.1
  have F8 : Q 579 8 = P (1 + 1) 4 := h.1.2.2.1.2.2.2.2
  have tout : ∀ a : Int, a < 5 ∨ 85 ≤ a → tbk P 1 (P 1 3) a = P a := fun a a1 => by
    funext j
    exact tbk_out (by omega)
  have x2 : tbk P 1 (P 1 3) (1 + 1) = P (1 + 1) := tout _ (by omega)
  have x1 := tout 1 (by omega)
  rw [x1, x2] at hC
  rw [mtb_j (by omega), mtb_j (by omega)] at hS
  have cout : ∀ a : Int, a ≠ 1 → C' a = tbk P 1 (P 1 3) a := fun a a1 => by rw [hC, up2_ne _ _ _ a1, up2_ne _ _ _ a1]
  have sout : ∀ k : Int, k ≠ 0 → k ≠ 2 → S' 579 k = mtb Q (P 1 3) 579 k := fun k a1 a2 => by rw [hS, rd_i a2, rd_i a1]
  have x13 : C' 1 3 = P 1 3 := by rw [hC, rd_i (by omega), rd_i (by omega), x1]
  have x14 : C' 1 4 = P 1 4 + 1 := by rw [hC, rd_i (by omega), rd_hit rfl rfl]
  have x15 : C' 1 5 = P (1 + 1) 0 := by rw [hC, rd_hit rfl rfl]
  have x16 : C' 1 6 = P 1 6 := by rw [hC, rd_i (by omega), rd_i (by omega), x1]
  have f0 : S' 579 0 = Q 579 0 + 1 := by rw [hS, rd_i (by omega), rd_hit rfl rfl]
  have f2 : S' 579 2 = Q 579 4 := by rw [hS, rd_hit rfl rfl]
  have ff : ∀ k : Int, k ≠ 0 → k ≠ 2 → ¬ ((k - 18) % 32 = 0 ∧ 18 ≤ k ∧ k < 32 * P 1 3 + 18) → S' 579 k = Q 579 k := fun k a1 a2 a3 => by rw [sout k a1 a2, mtb_j a3]
  refine ⟨?_, fun i a1 a2 => ?_, fun i a1 a2 r b1 b2 => ?_⟩
  · obtain ⟨h1, h2, h3, h4, h5⟩ := h.1
    have c2' : C' (1 + 1) = P (1 + 1) := (cout _ (by omega)).trans x2
    have c3' : C' (1 + 2) = P (1 + 2) := (cout _ (by omega)).trans (tout _ (by omega))
    unfold HdR
    rw [c2', c3', x13, x14, x15, x16, f0, f2, ff 1 (by omega) (by omega) (by omega), ff 3 (by omega) (by omega) (by omega), ff 4 (by omega) (by omega) (by omega), ff 5 (by omega) (by omega) (by omega), ff 6 (by omega) (by omega) (by omega), ff 7 (by omega) (by omega) (by omega), ff 8 (by omega) (by omega) (by omega)]
    refine ⟨⟨by omega, h1.2.1, F4, h1.2.2.2⟩, ⟨h2.1, by omega, by omega, by omega⟩, h3, h4, fun s hs => ?_⟩
    rw [ff _ (by omega) (by omega) (by omega)]
    exact h5 s hs
  · rw [x14]
    rw [x13] at a2
    have hL := LfR_T (T' := P 1 4 + 1) (by omega) (h.2.1 i a1 a2)
    obtain ⟨q, hq⟩ : ∃ q : Int, 4 * i + 1 + 4 = q := ⟨_, rfl⟩
    rw [hq] at hL ⊢
    have ⟨⟨b0, b1, b2, b3, b4, b5, b6, b7, b8⟩, ⟨g0, g1, g2, g3, g4⟩, g5, g6, g7, g8, g9, g10⟩ := hL
    have kk : ∀ x : Int, 1 ≤ x → x ≤ 3 → C' (q + x) = P (q + x) := fun x z1 z2 => by
      rw [cout _ (by omega)]
      funext j
      unfold tbk
      exact if_neg (fun z => by have := z.1.2.2.1; omega)
    have hx := ff (32 * i + 20) (by omega) (by omega) (by omega)
    have hy := ff (32 * i + 21) (by omega) (by omega) (by omega)
    have hz := ff (32 * i + 22) (by omega) (by omega) (by omega)
    by_cases hb : P q 2 = 1 ∧ P q 4 + P (1 + 1) 4 ≤ P 1 4 + 1
    · have cq : ∀ j : Int, (j = 2 ∨ j = 3 ∨ j = 4) → C' q j = if j = 2 then 0 else -5 := fun j z => by
        rw [cout _ (by omega)]
        unfold tbk
        exact if_pos ⟨⟨by omega, by omega, by omega, hb.1, hb.2⟩, z⟩
      have cr : ∀ j : Int, ¬ (j = 2 ∨ j = 3 ∨ j = 4) → C' q j = P q j := fun j z => by
        rw [cout _ (by omega)]
        unfold tbk
        exact if_neg (fun y => z y.2)
      have w2 : C' q 2 = 0 := (cq 2 (by omega)).trans (if_pos rfl)
      have w3 : C' q 3 = -5 := (cq 3 (by omega)).trans (if_neg (by omega))
      have w4 : C' q 4 = -5 := (cq 4 (by omega)).trans (if_neg (by omega))
      have w5 := cr 5 (by omega)
      have y18 : S' 579 (32 * i + 18) = 0 := by
        rw [sout _ (by omega) (by omega)]
        unfold mtb
        rw [if_pos rfl]
        have := g5 (by omega)
        exact if_pos ⟨by omega, by omega, by rw [show 32 * i + 18 + 2 = 32 * i + 20 by omega]; omega⟩
      exact LfR_h hL (cr 0 (by omega)) (cr 1 (by omega)) (cr 6 (by omega)) (kk 1 (by omega) (by omega)) (kk 2 (by omega) (by omega)) (kk 3 (by omega) (by omega)) (fun r z1 z2 z3 z4 z5 z6 => ff _ (by omega) (by omega) (by omega)) (by omega) (by omega) (by omega) (by omega) (fun z => by omega) (by omega) (by omega) (fun z => by omega) (fun z => by omega) (fun z => by omega) (by omega) (by omega)
    · have cr : ∀ j : Int, C' q j = P q j := fun j => by
        rw [cout _ (by omega)]
        unfold tbk
        exact if_neg (fun y => hb ⟨y.1.2.2.2.1, y.1.2.2.2.2⟩)
      have y18 : S' 579 (32 * i + 18) = Q 579 (32 * i + 18) := by
        rw [sout _ (by omega) (by omega)]
        unfold mtb
        rw [if_pos rfl]
        refine if_neg (fun z => hb ?_)
        have z1 := z.2.1
        have z2 := z.2.2
        have := g5 (by omega)
        rw [show 32 * i + 18 + 2 = 32 * i + 20 by omega] at z2
        omega
      refine LfR_p (fun j _ _ => cr j) (fun j _ _ => by rw [kk 1 (by omega) (by omega)]) (fun j _ _ => by rw [kk 2 (by omega) (by omega)]) (fun j _ _ => by rw [kk 3 (by omega) (by omega)]) (fun r z1 z2 => ?_) hL
      by_cases hr : r = 18
      · rw [hr]
        exact y18
      · exact ff _ (by omega) (by omega) (by omega)
  · rw [x13] at a1
    rw [ff _ (by omega) (by omega) (by omega)]
    exact h.2.2 i a1 a2 r b1 b2
theorem sm_print {v v' : Int} (hJ : JJ C S N) (hN : N ≤ 512) (hA : (fun v C' => ∃ L, Laid (remC C) L 1 ∧ v = L 573 2 ∧ C' = prtM (mkP L (L 573 2))) v C') (hB : (fun v S' => ∃ L, LyD (recS S) L ∧ v = L 578 5 ∧ S' = prtS (mpP L (L 578 5))) v' S') : v = v' ∧ JJ C' S' (N + 1) := by
  obtain ⟨L, hk, ha, hC⟩ := hA
  obtain ⟨LM, hl, hc, hS⟩ := hB
  have hJ2 := rem_J hJ
  have hpg := page_same hJ2 hN hk hl
  have hJL := page_J hJ2 hk hl
  have hdd := Laid_dead hk
  have ⟨q0, m0, h1, h2, h3, h4, h5, h6, h7, h8⟩ := hk
  have hp : ∀ r : Int, 0 ≤ r → r < L 573 2 → LM 582 r = L 577 r ∧ (0 ≤ L 577 r ∧ L 577 r < L 1 3) ∧ L (4 * L 577 r + 5) 2 ≠ 0 := fun r a1 a2 => by
    have b1 := hdd r a1 a2
    have h20 := hJ2.1.1.2.1.1
    rw [h8 1 (by omega), h8 (4 * L 577 r + 5) (by omega)]
    exact ⟨(hpg.2.2 r a1 a2).symm, b1.1, by omega⟩
  have hr := mk_run hJL.1 hp (L 573 2).toNat (by omega)
  rw [Int.toNat_of_nonneg h5.1] at hr
  rw [← hpg.2.1] at hc hS
  have hcur := prt_cur hr.1 hC hS
  have h20 := hJL.1.1.2.1.1
  refine ⟨by rw [ha, hc], act_J hJL hcur (fun a a1 => ?_) (fun a a1 => ?_) (fun j _ _ => ?_)⟩
  · have e1 : mkP L (L 573 2) a = L a := mkP_out h5.1 (fun s s0 s1 => by have := hp s s0 s1; omega)
    rw [hC]
    unfold prtM
    rw [up2_ne _ _ _ (by omega), up2_ne _ _ _ (by omega), hr.2.1, ← e1]
    funext j
    exact tbk_out (by omega)
  · rw [hS]
    unfold prtS
    rw [up2_ne _ _ _ (by omega), up2_ne _ _ _ (by omega), mtb_ne (by omega), mpP_ne (by omega)]
  · rw [hS]
    unfold prtS
    rw [up2_ne _ _ _ (by omega), up2_ne _ _ _ (by omega), mtb_ne (by omega), mpP_ne (by omega)]
/-! persons of the text -/
theorem rdp_J {t : Int → Int} {n d v w : Int} (hJ : JJ C S N) (ht : C 508 = t) (hn : C 507 1 = n) (hR : RdP C C' t n d v) (hF : FoP S S' t n w) : JJ C' S' N := by
  have hb := hJ.2.2.2.2.1
  rw [ht, hn] at hb
  have hx := txP_b t hb.1
  obtain ⟨r1, ⟨r2, r3, r4⟩, r5, r6⟩ := hR
  obtain ⟨f1, ⟨f2, f3⟩, f4, f5⟩ := hF
  exact ⟨Cur_e (by omega) (fun a x1 x2 => r6 a (by omega)) (fun k _ _ => by rw [f2 579 (by omega) (by omega)]) hJ.1, Rest_e (by omega) hJ.2 (fun a x1 x2 => r6 a (by omega)) (by rw [r6 0 (by omega)]) (r6 508 (by omega)) (by rw [r3, hn]) (by rw [r4]; exact hx.2.2.1) (f2 580 (by omega) (by omega)) (f2 581 (by omega) (by omega)) (f2 584 (by omega) (by omega)) (f3 8 (by omega) (by omega)) (f3 9 (by omega) (by omega)) (f3 10 (by omega) (by omega)) f5⟩
theorem jl_cur (h : Cur D 1 (E 579) N) {r : Int → PR} {k d : Int} (hk : 0 ≤ k ∧ k ≤ 15) (h20 : D 1 3 + k ≤ 20) (hP : ∀ j : Int, 0 ≤ j → j < k → PRok (r j)) (hR : ∀ j : Int, 0 ≤ j → j < k → Row D (4 * j + 510) (r j) d) (hd : d = D 1 4) (hC : C' = jlM D k) (hS : JmI E S' r (D 1 3) k) : Cur C' 1 (S' 579) N := by
  have h13 := h.1.2.1.1
  have B4 := h.1.2.1.2.1
  have F0 : E 579 0 = D 1 4 := h.1.1.1
  obtain ⟨s1, s2, s3, s4⟩ := hS
  obtain ⟨n, hn⟩ : ∃ n : Int, D 1 3 = n := ⟨_, rfl⟩
  rw [hn] at s2 s3 s4
  have c1 : C' 1 = up1 (D 1) 3 (n + k) := by rw [hC, jlM_1, hn]
  have x13 : C' 1 3 = n + k := by rw [c1]; exact if_pos rfl
  have x1 : ∀ j : Int, j ≠ 3 → C' 1 j = D 1 j := fun j hj => by rw [c1]; exact if_neg hj
  have cout : ∀ a : Int, a ≠ 1 → (a < 4 * n + 5 ∨ 4 * n + 5 + 4 * k ≤ a) → C' a = D a := fun a a1 a2 => by rw [hC, jlM_out a1 (by rw [hn]; exact a2)]
  refine ⟨?_, fun i a1 a2 => ?_, fun i a1 a2 y b1 b2 => ?_⟩
  · obtain ⟨h1, h2, h3, h4, h5⟩ := h.1
    have c2' : C' (1 + 1) = D (1 + 1) := cout _ (by omega) (by omega)
    have c3' : C' (1 + 2) = D (1 + 2) := cout _ (by omega) (by omega)
    unfold HdR
    rw [c2', c3', x13, x1 4 (by omega), x1 5 (by omega), x1 6 (by omega), s2, s3 0 (by omega) (by omega), s3 2 (by omega) (by omega), s3 3 (by omega) (by omega), s3 4 (by omega) (by omega), s3 5 (by omega) (by omega), s3 6 (by omega) (by omega), s3 7 (by omega) (by omega), s3 8 (by omega) (by omega)]
    refine ⟨⟨h1.1, rfl, h1.2.2⟩, ⟨by omega, h2.2⟩, h3, h4, fun s hs => ?_⟩
    rw [s3 _ (by omega) (by omega)]
    exact h5 s hs
  · rw [x1 4 (by omega)]
    rw [x13] at a2
    by_cases hi : i < n
    · exact LfR_p (fun j _ _ => by rw [cout _ (by omega) (by omega)]) (fun j _ _ => by rw [cout _ (by omega) (by omega)]) (fun j _ _ => by rw [cout _ (by omega) (by omega)]) (fun j _ _ => by rw [cout _ (by omega) (by omega)]) (fun r b1 b2 => s3 _ (by omega) (by omega)) (h.2.1 i a1 (by omega))
    · obtain ⟨j, rfl⟩ : ∃ j : Int, i = n + j := ⟨i - n, by omega⟩
      have hj : 0 ≤ j ∧ j < k := by omega
      obtain ⟨p1, p2, p3, p4⟩ := hP j hj.1 hj.2
      obtain ⟨w0, w1, w2, w3, w4, w5, w6, w7⟩ := hR j hj.1 hj.2
      obtain ⟨y16, y17, y22, y19, ⟨y18, y20, y21⟩, yf⟩ := s4 j hj.1 hj.2
      have z18 := h.2.2 (n + j) (by omega) (by omega) 18 (by omega) (by omega)
      have z20 := h.2.2 (n + j) (by omega) (by omega) 20 (by omega) (by omega)
      have z21 := h.2.2 (n + j) (by omega) (by omega) 21 (by omega) (by omega)
      have cin : ∀ x : Int, 0 ≤ x → x ≤ 3 → ∀ y : Int, 0 ≤ y → (y < 7 ∨ (1 ≤ x ∧ y < 8)) → C' (4 * (n + j) + 1 + 4 + x) y = D (4 * j + 510 + x) y := fun x e1 e2 y e3 e4 => by
        rw [hC, jlM_in (by omega) (by omega), hn, show 4 * (n + j) + 1 + 4 + x - (4 * n + 5) + 510 = 4 * j + 510 + x by omega]
        refine if_pos ⟨e3, ?_⟩
        by_cases hx : (4 * (n + j) + 1 + 4 + x - (4 * n + 5)) % 4 = 0
        · rw [if_pos hx]
          omega
        · rw [if_neg hx]
          omega
      have c0 : ∀ y : Int, 0 ≤ y → y < 7 → C' (4 * (n + j) + 1 + 4) y = D (4 * j + 510) y := fun y e1 e2 => by
        have := cin 0 (by omega) (by omega) y e1 (by omega)
        rwa [Int.add_zero, Int.add_zero] at this
      have v0 := c0 0 (by omega) (by omega)
      have v1 := c0 1 (by omega) (by omega)
      have v2 := c0 2 (by omega) (by omega)
      have v3 := c0 3 (by omega) (by omega)
      have v4 := c0 4 (by omega) (by omega)
      have v5 := c0 5 (by omega) (by omega)
      have v6 := c0 6 (by omega) (by omega)
      have hf : ∀ y : Int, 0 ≤ y → y < C' (4 * (n + j) + 1 + 4) 6 → (S' 579 (32 * (n + j) + 3 * y + 24) = C' (4 * (n + j) + 1 + 4 + 1) y ∧ S' 579 (32 * (n + j) + 3 * y + 25) = C' (4 * (n + j) + 1 + 4 + 2) y ∧ S' 579 (32 * (n + j) + 3 * y + 26) = C' (4 * (n + j) + 1 + 4 + 3) y) ∧ (0 ≤ C' (4 * (n + j) + 1 + 4 + 1) y ∧ C' (4 * (n + j) + 1 + 4 + 1) y ≤ 5) ∧ (1 ≤ C' (4 * (n + j) + 1 + 4 + 2) y ∧ C' (4 * (n + j) + 1 + 4 + 2) y ≤ 9) ∧ (0 ≤ C' (4 * (n + j) + 1 + 4 + 3) y ∧ C' (4 * (n + j) + 1 + 4 + 3) y ≤ D 1 4) := fun y e1 e2 => by
        have u1 := cin 1 (by omega) (by omega) y e1 (by omega)
        have u2 := cin 2 (by omega) (by omega) y e1 (by omega)
        have u3 := cin 3 (by omega) (by omega) y e1 (by omega)
        have t1 := w7 y e1 (by omega)
        have t2 := yf y e1 (by omega)
        have t3 := p4 y e1 (by omega)
        omega
      exact ⟨⟨by omega, by omega, by omega, by omega, by omega, by omega, by omega, fun z => by omega, fun y e1 e2 => (hf y e1 e2).2⟩, ⟨by omega, by omega, by omega, by omega, by omega⟩, fun z => by omega, fun z => by omega, fun z => by omega, by omega, by omega, fun y e1 e2 => (hf y e1 e2).1⟩
  · rw [x13] at a1
    rw [s3 _ (by omega) (by omega)]
    exact h.2.2 i (by omega) a2 y b1 b2
theorem sm_addPersons {t : Int → Int} {n v v' : Int} (hJ : JJ C S N) (ht : C 508 = t) (hn : C 507 1 = n) (hA : (fun v C' => ((txP t n).ok = 0 ∧ v = -100 - (txP t n).a ∧ RdP C C' t n (C 1 4) 0) ∨ ((txP t n).ok = 1 ∧ 20 - C 1 3 < (txP t n).k ∧ v = -3 ∧ RdP C C' t n (C 1 4) 1) ∨ ((txP t n).ok = 1 ∧ (txP t n).k ≤ 20 - C 1 3 ∧ v = (txP t n).k ∧ ∃ M, RdP C M t n (C 1 4) 1 ∧ C' = jlM (remC M) (txP t n).k)) v C') (hB : (fun v S' => ((txP t n).ok = 0 ∧ v = -100 - (txP t n).a ∧ FoP S S' t n (txP t n).a) ∨ ((txP t n).ok = 1 ∧ 20 < S 579 1 + (txP t n).k ∧ v = -3 ∧ FoP S S' t n (-1)) ∨ ((txP t n).ok = 1 ∧ S 579 1 + (txP t n).k ≤ 20 ∧ v = (txP t n).k ∧ ∃ M, FoP S M t n (-1) ∧ JmI (recS M) S' (txP t n).r (S 579 1) (txP t n).k)) v' S') : v = v' ∧ JJ C' S' (N + 1) := by
  have hb := hJ.2.2.2.2.1
  rw [ht, hn] at hb
  have hx := txP_b t hb.1
  have e1 : S 579 1 = C 1 3 := hJ.1.1.1.2.1
  rcases hA with ⟨a, ha, hR⟩ | ⟨a, a2, ha, hR⟩ | ⟨a, a2, ha, M, hR, hC⟩
  · rcases hB with ⟨c, hc, hF⟩ | ⟨c, c2, hc, hF⟩ | ⟨c, c2, hc, MM, hF, hS⟩
    · exact ⟨by rw [ha, hc], JJ_mono (rdp_J hJ ht hn hR hF)⟩
    · exfalso; omega
    · exfalso; omega
  · rcases hB with ⟨c, hc, hF⟩ | ⟨c, c2, hc, hF⟩ | ⟨c, c2, hc, MM, hF, hS⟩
    · exfalso; omega
    · exact ⟨by rw [ha, hc], JJ_mono (rdp_J hJ ht hn hR hF)⟩
    · exfalso; omega
  · rcases hB with ⟨c, hc, hF⟩ | ⟨c, c2, hc, hF⟩ | ⟨c, c2, hc, MM, hF, hS⟩
    · exfalso; omega
    · exfalso; omega
    · have hJM := rdp_J hJ ht hn hR hF
      have hJ2 := rem_J hJM
      have m1 : M 1 = C 1 := hR.2.2.2 1 (by omega)
      have h13 := hJM.1.1.2.1.1
      have r1 : remC M 1 = M 1 := remC_out (by omega) h13
      have q3 : remC M 1 3 = C 1 3 := by rw [r1, m1]
      have q4 : remC M 1 4 = C 1 4 := by rw [r1, m1]
      have q20 := hJ2.1.1.2.1.1
      have rows : ∀ j : Int, 0 ≤ j → j < (txP t n).k → Row (remC M) (4 * j + 510) ((txP t n).r j) (C 1 4) := fun j z1 z2 => Row_e ((hR.2.2.1 rfl).2 j z1 z2) (fun x y1 y2 => remC_out (by omega) h13)
      rw [e1, ← q3] at hS
      have key := jl_cur hJ2.1 ⟨hx.2.1.1, hx.2.1.2⟩ (by omega) hx.2.2.2 rows q4.symm hC hS
      refine ⟨by rw [ha, hc], act_J hJ2 (Cur_e (by omega) (fun _ _ _ => rfl) (fun _ _ _ => rfl) key) (fun x y1 => by rw [hC, jlM_out (by omega) (by omega)]) (fun x y1 => hS.1 x (by omega)) (fun j _ _ => by rw [hS.1 578 (by omega)])⟩
end
