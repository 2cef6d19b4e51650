/-! the other class: how its page is laid -/
def mky (f : Int → Int) (i : Int) : Int := 10000 * f (32 * i + 17) + (9999 - f (32 * i + 20))
def mP (f : Int → Int) (i : Int) : Prop := i < f 1 ∧ f (32 * i + 18) = 2 ∧ mRdy f i
theorem mAh_ahd {f : Int → Int} {N u t : Int} (hM : MO f N) (hN : N ≤ 512) (hu : 0 ≤ u ∧ u < 20) (ht : 0 ≤ t ∧ t < 20) : mAh f u t ↔ ahd (mky f) u t := by
  have h0 := hM.2.1
  have h1 := hM.2.2.2.2.2.2.2.2.2.2.1 u hu.1 hu.2
  have h2 := hM.2.2.2.2.2.2.2.2.2.2.1 t ht.1 ht.2
  have a1 := h1.2.1
  have a2 := h1.2.2.2.2.1
  have b1 := h2.2.1
  have b2 := h2.2.2.2.2.1
  unfold mAh ahd mky
  omega
theorem smI_del (h : Int → Int) {b : Int} (hb : 0 ≤ b) : ∀ k : Nat, b < (k : Int) → smI h k = h b + smI (fun x => if x = b then 0 else h x) k := by
  intro k
  induction k with
  | zero => intro z; omega
  | succ k ih =>
    intro hk
    rw [show ((k + 1 : Nat) : Int) = (k : Int) + 1 by omega, smI_s _ (by omega), smI_s _ (by omega)]
    by_cases hkb : b = (k : Int)
    · have e : smI (fun x => if x = b then 0 else h x) k = smI h k := smI_congr (fun j a1 a2 => if_neg (by omega))
      rw [e, if_pos hkb.symm, hkb]
      omega
    · rw [ih (by omega), if_neg (show ¬ (k : Int) = b by omega)]
      omega
/-- while the page is laid: e, the first m of those who are ready, in their order -/
def LyI (S SM : gM) (e : Int → Int) (m : Int) : Prop :=
  ((∀ a : Int, a ≠ 578 → a ≠ 582 → a ≠ 583 → SM a = S a) ∧ ∀ j : Int, j ≠ 5 → j ≠ 6 → SM 578 j = S 578 j) ∧
  (∀ t : Int, 0 ≤ t → t < m → (0 ≤ e t ∧ e t < 20) ∧ mP (S 579) (e t)) ∧
  (∀ s t : Int, 0 ≤ s → s < t → t < m → ahd (mky (S 579)) (e s) (e t)) ∧
  (∀ x : Int, 0 ≤ x → x < 20 → (SM 583 x = 0 ∨ SM 583 x = 1) ∧ (SM 583 x = 0 → mP (S 579) x ∧ ∀ t : Int, 0 ≤ t → t < m → ahd (mky (S 579)) (e t) x)) ∧
  (∀ g : Int → Int, (∀ x : Int, 0 ≤ x → x < 20 → ¬ mP (S 579) x → g x = 0) → smI g 20 = smI (fun t => g (e t)) m + smI (fun x => if SM 583 x = 0 then g x else 0) 20) ∧
  SM 578 6 = pgf e (mLn (S 579)) (S 579 5) m ∧ SM 578 5 = pgc e (mLn (S 579)) (S 579 5) m ∧ ∀ t : Int, 0 ≤ t → t < m → tkn e (mLn (S 579)) (S 579 5) t → SM 582 (pgc e (mLn (S 579)) (S 579 5) t) = e t
section
variable {S SM SM' : gM} {e : Int → Int} {m b : Int}
theorem LyI_0 {e : Int → Int} (hf : ∀ a : Int, a ≠ 578 → a ≠ 583 → SM a = S a) (hj : ∀ j : Int, j ≠ 5 → j ≠ 6 → SM 578 j = S 578 j) (h5 : SM 578 5 = 0) (h6 : SM 578 6 = S 579 5) (hs : ∀ x : Int, 0 ≤ x → x < 20 → (SM 583 x = 0 ∧ mP (S 579) x) ∨ (SM 583 x = 1 ∧ ¬ mP (S 579) x)) : LyI S SM e 0 := by
  refine ⟨⟨fun a h1 _ h3 => hf a h1 h3, hj⟩, fun t a1 a2 => by omega, fun s t a1 a2 a3 => by omega, fun x a1 a2 => ?_, fun g hg => ?_, h6, h5, fun t a1 a2 => by omega⟩
  · rcases hs x a1 a2 with ⟨g1, g2⟩ | ⟨g1, g2⟩
    · exact ⟨Or.inl g1, fun _ => ⟨g2, fun t b1 b2 => by omega⟩⟩
    · exact ⟨Or.inr g1, fun z => by omega⟩
  · rw [smI_0, Int.zero_add]
    refine smI_congr (fun x a1 a2 => ?_)
    rcases hs x a1 a2 with ⟨g1, g2⟩ | ⟨g1, g2⟩
    · rw [if_pos g1]
    · rw [if_neg (by omega)]; exact hg x a1 a2 g2
theorem LyI_m (h : LyI S SM e m) (hm : 0 ≤ m) : m + smI (fun x => if SM 583 x = 0 then 1 else 0) 20 ≤ 20 := by
  obtain ⟨-, h2, -, h4, h5, -⟩ := h
  have h := h5 (fun x => ci (mP (S 579) x)) (fun x _ _ hx => ci_f hx)
  have e1 : smI (fun t => ci (mP (S 579) (e t))) m = smI (fun _ => 1) m := smI_congr (fun t a1 a2 => ci_t (h2 t a1 a2).2)
  have e2 := smI_le (f := fun _ => 1) (n := m) (a := 1) (c := 1) hm (fun _ _ _ => by omega)
  have e3 := smI_le (f := fun x => ci (mP (S 579) x)) (n := 20) (a := 0) (c := 1) (by omega) (fun j _ _ => ci_b _)
  have e4 : smI (fun x => if SM 583 x = 0 then ci (mP (S 579) x) else 0) 20 = smI (fun x => if SM 583 x = 0 then 1 else 0) 20 := smI_congr (fun x a1 a2 => by
    by_cases c : SM 583 x = 0
    · rw [if_pos c, if_pos c]; exact ci_t ((h4 x a1 a2).2 c).1
    · rw [if_neg c, if_neg c])
  rw [e1, e4] at h
  omega
theorem LyI_lt (h : LyI S SM e m) (hm : 0 ≤ m) : m ≤ 20 ∧ ((0 ≤ b ∧ b < 20 ∧ SM 583 b = 0) → m < 20) := by
  have h1 := LyI_m h hm
  have h2 := smI_le (f := fun x => if SM 583 x = 0 then 1 else 0) (n := 20) (a := 0) (c := 1) (by omega) (fun j _ _ => by split <;> omega)
  refine ⟨by omega, fun ⟨b0, b1, b2⟩ => ?_⟩
  have h3 := smI_del (fun x => if SM 583 x = 0 then 1 else 0) b0 20 (by omega)
  have h4 := smI_le (f := fun x => if x = b then 0 else if SM 583 x = 0 then 1 else 0) (n := 20) (a := 0) (c := 1) (by omega) (fun j _ _ => by split <;> (try split) <;> omega)
  rw [if_pos b2] at h3
  rw [show ((20 : Nat) : Int) = 20 from rfl] at h3
  omega
/-- one more is taken from those who are left, the first of them -/
theorem LyI_s (h : LyI S SM e m) (hm : 0 ≤ m) (hb : isBest (fun x => SM 583 x = 0) (mky (S 579)) 20 b) (hb0 : 0 ≤ b) (hf : ∀ a : Int, a ≠ 578 → a ≠ 582 → a ≠ 583 → SM' a = SM a) (hj : ∀ j : Int, j ≠ 5 → j ≠ 6 → SM' 578 j = SM 578 j) (hs : ∀ x : Int, SM' 583 x = if x = b then 1 else SM 583 x)
    (hl : (mLn (S 579) b ≤ SM 578 6 ∧ SM' 578 6 = SM 578 6 - mLn (S 579) b ∧ SM' 578 5 = SM 578 5 + 1 ∧ ∀ x : Int, SM' 582 x = if x = SM 578 5 then b else SM 582 x) ∨ (¬ mLn (S 579) b ≤ SM 578 6 ∧ SM' 578 6 = SM 578 6 ∧ SM' 578 5 = SM 578 5 ∧ SM' 582 = SM 582)) : LyI S SM' (fun t => if t = m then b else e t) (m + 1) := by
  obtain ⟨h1, h2, h3, h4, h5, h6, h7, h8⟩ := h
  have hbk := isBest_k hb hb0
  have hbu : SM 583 b = 0 := hbk.2
  have hb4 := (h4 b hb0 hbk.1).2 hbu
  have hbest : ∀ x : Int, 0 ≤ x → x < 20 → SM 583 x = 0 → x ≠ b → ahd (mky (S 579)) b x := by
    intro x a1 a2 a3 a4
    rcases hb with ⟨g1, g2⟩ | ⟨g1, g2, g3, g4⟩
    · omega
    · have := g4 x a1 a2 a3
      unfold ahd
      omega
  have E : ∀ t : Int, t < m → (fun t => if t = m then b else e t) t = e t := fun t a => if_neg (by omega)
  have Em : (fun t => if t = m then b else e t) m = b := if_pos rfl
  have pc := pg_congr (e := fun t => if t = m then b else e t) (e' := e) (ln := mLn (S 579)) (ln' := mLn (S 579)) (f0 := S 579 5) (m := m) (fun t a1 a2 => by rw [if_neg (show ¬ t = m by omega)]; exact ⟨rfl, rfl⟩)
  have pm := pc m hm (Int.le_refl m)
  refine ⟨⟨fun a a1 a2 a3 => (hf a a1 a2 a3).trans (h1.1 a a1 a2 a3), fun j a1 a2 => (hj j a1 a2).trans (h1.2 j a1 a2)⟩, fun t a1 a2 => ?_, fun s t a1 a2 a3 => ?_, fun x a1 a2 => ?_, fun g hg => ?_, ?_⟩
  · by_cases ht : t = m
    · dsimp only
      rw [if_pos ht]
      exact ⟨⟨hb0, hbk.1⟩, hb4.1⟩
    · dsimp only
      rw [if_neg ht]
      exact h2 t a1 (by omega)
  · dsimp only
    rw [if_neg (show ¬ s = m by omega)]
    by_cases ht : t = m
    · rw [if_pos ht]
      exact hb4.2 s a1 (by omega)
    · rw [if_neg ht]
      exact h3 s t a1 a2 (by omega)
  · rw [hs x]
    by_cases hx : x = b
    · rw [if_pos hx]
      exact ⟨Or.inr rfl, fun z => by omega⟩
    · rw [if_neg hx]
      have := h4 x a1 a2
      refine ⟨this.1, fun z => ⟨(this.2 z).1, fun t b1 b2 => ?_⟩⟩
      by_cases ht : t = m
      · dsimp only
        rw [if_pos ht]
        exact hbest x a1 a2 z hx
      · dsimp only
        rw [if_neg ht]
        exact (this.2 z).2 t b1 (by omega)
  · rw [h5 g hg, smI_s _ hm]
    have e1 : smI (fun t => g ((fun t => if t = m then b else e t) t)) m = smI (fun t => g (e t)) m := smI_congr (fun t a1 a2 => by rw [E t a2])
    have e2 := smI_del (fun x => if SM 583 x = 0 then g x else 0) hb0 20 (by have := hbk.1; omega)
    have e3 : smI (fun x => if SM' 583 x = 0 then g x else 0) 20 = smI (fun x => if x = b then 0 else if SM 583 x = 0 then g x else 0) 20 := smI_congr (fun x a1 a2 => by
      rw [hs x]
      by_cases hx : x = b
      · rw [if_pos hx, if_pos hx]; exact if_neg (by omega)
      · rw [if_neg hx, if_neg hx])
    rw [show ((20 : Nat) : Int) = 20 from rfl, if_pos hbu] at e2
    have e4 : g ((fun t => if t = m then b else e t) m) = g b := by rw [Em]
    dsimp only at e1 e4 ⊢
    rw [e1, e4, e3, e2]
    omega
  · rcases hl with ⟨l1, l2, l3, l4⟩ | ⟨l1, l2, l3, l4⟩
    · have hk : tkn (fun t => if t = m then b else e t) (mLn (S 579)) (S 579 5) m := by
        unfold tkn
        rw [pm.1, ← h6]
        show mLn (S 579) (if m = m then b else e m) ≤ SM 578 6
        rw [if_pos rfl]
        exact l1
      have hs := pg_s hm hk
      have eb : (if m = m then b else e m) = b := if_pos rfl
      rw [pm.1, pm.2, eb] at hs
      rw [hs.1, hs.2, l2, l3, ← h6, ← h7]
      refine ⟨rfl, rfl, fun t a1 a2 a3 => ?_⟩
      rw [l4]
      by_cases ht : t = m
      · rw [ht, pm.2, ← h7, if_pos rfl]; exact eb.symm
      · have pt := pc t a1 (by omega)
        have a4 : tkn e (mLn (S 579)) (S 579 5) t := by
          unfold tkn at a3 ⊢
          rw [pt.1] at a3
          dsimp only at a3
          rwa [if_neg ht] at a3
        have := pg_lt (m := m) ⟨a1, by omega⟩ a4
        rw [pt.2, if_neg (by omega)]
        exact (h8 t a1 (by omega) a4).trans (E t (by omega)).symm
    · have hk : ¬ tkn (fun t => if t = m then b else e t) (mLn (S 579)) (S 579 5) m := by
        unfold tkn
        rw [pm.1, ← h6]
        show ¬ mLn (S 579) (if m = m then b else e m) ≤ SM 578 6
        rw [if_pos rfl]
        exact l1
      have hs := pg_n hm hk
      rw [pm.1, pm.2] at hs
      rw [hs.1, hs.2, l2, l3, l4]
      refine ⟨h6, h7, fun t a1 a2 a3 => ?_⟩
      have ht : t ≠ m := fun z => hk (z ▸ a3)
      have pt := pc t a1 (by omega)
      have a4 : tkn e (mLn (S 579)) (S 579 5) t := by
        unfold tkn at a3 ⊢
        rw [pt.1] at a3
        dsimp only at a3
        rwa [if_neg ht] at a3
      dsimp only
      rw [pt.2, if_neg ht]
      exact h8 t a1 (by omega) a4
end
/-- the page, laid -/
def LyD (S S' : gM) : Prop := ∃ (e : Int → Int) (m : Int), Rnk e m (mP (S 579)) (mky (S 579)) 20 ∧ S' 578 6 = pgf e (mLn (S 579)) (S 579 5) m ∧ S' 578 5 = pgc e (mLn (S 579)) (S 579 5) m ∧ (∀ t : Int, 0 ≤ t → t < m → tkn e (mLn (S 579)) (S 579 5) t → S' 582 (pgc e (mLn (S 579)) (S 579 5) t) = e t) ∧ (∀ a : Int, a ≠ 578 → a ≠ 582 → a ≠ 583 → S' a = S a) ∧ ∀ j : Int, j ≠ 5 → j ≠ 6 → S' 578 j = S 578 j
theorem LyD_of {S S' : gM} {e : Int → Int} {m : Int} (h : LyI S S' e m) (hm : 0 ≤ m) (hn : ∀ x : Int, 0 ≤ x → x < 20 → S' 583 x ≠ 0) : LyD S S' := by
  have hm2 := (LyI_lt (b := 0) h hm).1
  obtain ⟨h1, h2, h3, h4, h5, h6, h7, h8⟩ := h
  refine ⟨e, m, ⟨⟨hm, hm2⟩, fun t a1 a2 => ⟨(h2 t a1 a2).1.1, (h2 t a1 a2).1.2, (h2 t a1 a2).2⟩, h3, fun g hg => ?_⟩, h6, h7, h8, h1.1, h1.2⟩
  rw [h5 g hg, smI_0f (f := fun x => if S' 583 x = 0 then g x else 0) (fun j a1 a2 => if_neg (hn j a1 a2))]
  exact Int.add_zero _
theorem pgb5 {S SM : gM} {e : Int → Int} {m : Int} (h : LyI S SM e m) (hm : 0 ≤ m) : 0 ≤ SM 578 5 ∧ SM 578 5 ≤ m := by
  obtain ⟨-, -, -, -, -, -, h7, -⟩ := h
  have := pgc_b e (mLn (S 579)) (S 579 5) m.toNat
  rw [h7]
  unfold pgc
  omega
theorem pgb6 {S SM : gM} {N : Int} {e : Int → Int} {m : Int} (hM : MO (S 579) N) (h : LyI S SM e m) (hm : 0 ≤ m) : 0 ≤ SM 578 6 ∧ SM 578 6 ≤ 200 := by
  obtain ⟨-, h2, -, -, -, h6, -⟩ := h
  have h5 := hM.2.2.2.2.2.1
  have := pgf_b e (mLn (S 579)) (S 579 5) (by omega) m.toNat (fun j hj => (mLn_b (hM.2.2.2.2.2.2.2.2.2.2.1 (e j) (h2 j (by omega) (by omega)).1.1 (h2 j (by omega) (by omega)).1.2)).1)
  rw [h6]
  unfold pgf
  omega
set_option maxHeartbeats 4000000 in
theorem tX7_layPage (l : Launch) (G : gG) (b : Nat) (C S : gM) (N : Int) (hM : MO (S 579) N) (hN : N ≤ 512) : Ct l G b yX7_layPage cX7_layPage 4 none rmX7_layPage [.ref (ad b (578))] 586 (wM G b C S) (SV G b C (fun S' => LyD S S')) := by
  refine CtK_of (by decide) (Nat.le_of_ble_eq_true rfl) q929 ?_
  intro x hl hB hE _
  subst hl
  show YM x G b 0 0 C S 0 [(0, .ref (ad b (578)))] []
  obtain ⟨hm1, hm0, hm2, hm3, hm4, hm5, hm6, hm7, hm8, hmt, hmp, hmz⟩ := id hM
  refine y_aload_n hB 0 dX7_layPage_0 rfl rfl ?_
  refine y_iconst (v := 0) hB dX7_layPage_1 rfl ?_
  refine pt_7_5 hB (by decide) dX7_layPage_2 ?_
  refine y_aload_n hB 0 dX7_layPage_5 rfl rfl ?_
  refine y_aload_n hB 0 dX7_layPage_6 rfl rfl ?_
  refine gt_7_0 hB (by decide) (t1 := 579) (by omega) dX7_layPage_7 ?_
  refine y_iconst (v := 5) hB dX7_layPage_10 rfl ?_
  refine ald_21 hB (by decide) (t1 := S 579 5) (by omega) (rd_k (by omega)) dX7_layPage_11 ?_
  refine pt_7_6 hB (by decide) dX7_layPage_12 ?_
  refine y_iconst (v := 0) hB dX7_layPage_15 rfl ?_
  refine y_istore_n (lv' := [(1, .int (iI (0))), (0, .ref (ad b (578)))]) hB dX7_layPage_16 rfl (by decide) rfl ?_
  have LOOP_17 : ∀ (fu : Nat) (i : Int) (SM : gM), (0 ≤ i ∧ i ≤ 20) → (∀ x : Int, 0 ≤ x → x < i → (SM 583 x = 0 ∧ mP (S 579) x) ∨ (SM 583 x = 1 ∧ ¬ mP (S 579) x)) → (∀ a : Int, a ≠ 583 → SM a = (up2 (up2 S 578 5 0) 578 6 (S 579 5)) a) → 20 - i < (fu : Int) → YM x G b 0 0 C SM 17 [(0, .ref (ad b (578))), (1, .int (iI (i)))] [] := by
    intro fu
    induction fu with
    | zero => intro i SM hi hs hf hm_17; exfalso; omega
    | succ fu ih_17 =>
      intro i SM hi hs hf hm_17
      have e579 : SM 579 = S 579 := by rw [hf 579 (by omega), up2_ne _ _ _ (by omega), up2_ne _ _ _ (by omega)]
      have hMM : MO (SM 579) N := by rw [e579]; exact hM
      have e1 : SM 579 1 = S 579 1 := by rw [e579]
      refine y_iload_n hB 1 dX7_layPage_17 rfl rfl ?_
      refine y_bipush (v := 20) hB dX7_layPage_18 (by decide) ?_
      refine y_icmp_ge hB 68 dX7_layPage_20 (by decide) (by omega) (by omega) (fun c_20 => ?_) (fun c_20 => ?_)
      · refine y_iconst (v := 1) hB dX7_layPage_68 rfl ?_
        refine y_istore_n (lv' := [(1, .int (iI (1))), (0, .ref (ad b (578)))]) hB dX7_layPage_69 rfl (by decide) rfl ?_
        have LOOP_70 : ∀ (fu : Nat) (m more : Int) (e : Int → Int) (SM : gM), (0 ≤ m) → (LyI S SM e m) → (more = 1 ∨ (more = 0 ∧ ∀ x : Int, 0 ≤ x → x < 20 → SM 583 x ≠ 0)) → 20 - m + more < (fu : Int) → YM x G b 0 0 C SM 70 [(0, .ref (ad b (578))), (1, .int (iI (more)))] [] := by
          intro fu
          induction fu with
          | zero => intro m more e SM hm0 hL hmore hm_70; exfalso; have h9 := (LyI_lt (b := 0) hL hm0).1; omega
          | succ fu ih_70 =>
            intro m more e SM hm0 hL hmore hm_70
            have e579 : SM 579 = S 579 := hL.1.1 579 (by omega) (by omega) (by omega)
            have hMM : MO (SM 579) N := by rw [e579]; exact hM
            have hm20 := LyI_lt (b := 0) hL hm0
            refine y_iload_n hB 1 dX7_layPage_70 rfl rfl ?_
            refine y_if_eq hB 193 dX7_layPage_71 (by decide) (by omega) (fun c_71 => ?_) (fun c_71 => ?_)
            · exact m_sv hB hE dX7_layPage_193 (LyD_of hL hm0 (by rcases hmore with g | g; omega; exact g.2))
            · have hmk : more = 1 := by omega
              refine y_bipush (v := -5) hB dX7_layPage_74 (by decide) ?_
              refine y_istore_n (lv' := [(2, .int (iI (-5))), (0, .ref (ad b (578))), (1, .int (iI (more)))]) hB dX7_layPage_76 rfl (by decide) rfl ?_
              refine y_iconst (v := 0) hB dX7_layPage_77 rfl ?_
              refine y_istore_n (lv' := [(3, .int (iI (0))), (2, .int (iI (-5))), (0, .ref (ad b (578))), (1, .int (iI (more)))]) hB dX7_layPage_78 rfl (by decide) rfl ?_
              have LOOP_79 : ∀ (fu : Nat) (k v : Int), (0 ≤ k ∧ k ≤ 20) → (isBest (fun x => SM 583 x = 0) (mky (S 579)) k v) → 20 - k < (fu : Int) → YM x G b 0 0 C SM 79 [(0, .ref (ad b (578))), (2, .int (iI (v))), (3, .int (iI (k)))] [] := by
                intro fu
                induction fu with
                | zero => intro k v hk hb hm_79; exfalso; omega
                | succ fu ih_79 =>
                  intro k v hk hb hm_79
                  have hvr : v = -5 ∨ (0 ≤ v ∧ v < k) := by rcases hb with ⟨g1, g2⟩ | ⟨g1, g2, g3⟩; exact Or.inl g1; exact Or.inr ⟨g1, g2⟩
                  refine y_iload_n hB 2 dX7_layPage_79 rfl rfl ?_
                  refine y_bipush (v := 20) hB dX7_layPage_80 (by decide) ?_
                  refine y_icmp_ge hB 121 dX7_layPage_82 (by decide) (by omega) (by omega) (fun c_82 => ?_) (fun c_82 => ?_)
                  · refine y_iload_n hB 1 dX7_layPage_121 rfl rfl ?_
                    refine y_bipush (v := -5) hB dX7_layPage_122 (by decide) ?_
                    refine y_icmp_eq hB 131 dX7_layPage_124 (by decide) (by omega) (by omega) (fun c_124 => ?_) (fun c_124 => ?_)
                    · have hnone : ∀ x : Int, 0 ≤ x → x < k → SM 583 x ≠ 0 := (by rcases hb with ⟨g1, g2⟩ | ⟨g1, g2, g3⟩; exact g2; omega)
                      refine y_iconst (v := 0) hB dX7_layPage_131 rfl ?_
                      refine y_istore_n (lv' := [(1, .int (iI (0))), (0, .ref (ad b (578))), (2, .int (iI (v))), (3, .int (iI (k)))]) hB dX7_layPage_132 rfl (by decide) rfl ?_
                      refine y_iload_n hB 0 dX7_layPage_133 rfl rfl ?_
                      refine y_if_eq hB 190 dX7_layPage_134 (by decide) (by omega) (fun c_134 => ?_) (fun c_134 => ?_)
                      · refine y_goto hB 70 dX7_layPage_190 (by decide) ?_
                        refine y_sub (lv' := [(0, .ref (ad b (578))), (1, .int (iI (0)))]) [1, 0] rfl ?_
                        exact ih_70 m 0 e _ hm0 hL (Or.inr ⟨rfl, fun x a1 a2 z => hnone x a1 (by omega) z⟩) (by omega)
                      · exfalso
                        omega
                    · have hv0 : 0 ≤ v := by omega
                      have hb20 : isBest (fun x => SM 583 x = 0) (mky (S 579)) 20 v := by rw [show (20 : Int) = k by omega]; exact hb
                      have hm19 := (LyI_lt (b := v) hL hm0).2 ⟨hv0, by omega, (isBest_k hb hv0).2⟩
                      have hlb := mLn_b (hmp v hv0 (by omega))
                      have h6 := pgb6 hM hL hm0
                      have h5 := pgb5 hL hm0
                      refine y_iconst (v := 1) hB dX7_layPage_127 rfl ?_
                      refine y_goto hB 132 dX7_layPage_128 (by decide) ?_
                      refine y_istore_n (lv' := [(1, .int (iI (1))), (0, .ref (ad b (578))), (2, .int (iI (v))), (3, .int (iI (k)))]) hB dX7_layPage_132 rfl (by decide) rfl ?_
                      refine y_iload_n hB 0 dX7_layPage_133 rfl rfl ?_
                      refine y_if_eq hB 190 dX7_layPage_134 (by decide) (by omega) (fun c_134 => ?_) (fun c_134 => ?_)
                      · exfalso
                        omega
                      · refine y_aload_n hB 1 dX7_layPage_137 rfl rfl ?_
                        refine gt_7_4 hB (by decide) (t1 := 583) (by omega) dX7_layPage_138 ?_
                        refine y_iload_n hB 2 dX7_layPage_141 rfl rfl ?_
                        refine y_iconst (v := 1) hB dX7_layPage_142 rfl ?_
                        refine ast_25 hB (by decide) (by omega) (by omega) dX7_layPage_143 ?_
                        refine y_aload_n hB 1 dX7_layPage_144 rfl rfl ?_
                        refine y_iload_n hB 2 dX7_layPage_145 rfl rfl ?_
                        have e_hM1 : (up2 SM 583 v 1) 579 = S 579 := by rw [up2_ne _ _ _ (by omega)]; exact e579
                        have hM1 : MO ((up2 SM 583 v 1) 579) N := by rw [e_hM1]; exact hM
                        refine m_V hB msX7_lines q942 (tX7_lines _ G b C (up2 SM 583 v 1) v N hM1 hN (by omega)) (t := 20) (by decide) (by decide) rfl rfl rfl rfl rfl ⟨Nat.le_of_ble_eq_true rfl, Nat.le_of_ble_eq_true rfl⟩ (Nat.le_of_ble_eq_true rfl) ⟨rfl, rfl⟩ ⟨Nat.le_of_ble_eq_true rfl, Nat.le_of_ble_eq_true rfl⟩ dX7_layPage_146 (k_RI (fun v_146 h_146 => ?_))
                        rw [e_hM1] at h_146
                        refine y_aload_n hB 1 dX7_layPage_149 rfl rfl ?_
                        refine gt_7_6 hB (by decide) (t1 := SM 578 6) (rd_k (by omega)) dX7_layPage_150 ?_
                        refine y_icmp_gt hB 190 dX7_layPage_153 (by decide) (by omega) (by omega) (fun c_153 => ?_) (fun c_153 => ?_)
                        · refine y_goto hB 70 dX7_layPage_190 (by decide) ?_
                          refine y_sub (lv' := [(0, .ref (ad b (578))), (1, .int (iI (1)))]) [1, 0] rfl ?_
                          exact ih_70 (m + 1) 1 _ _ (by omega) (LyI_s hL hm0 hb20 hv0 (fun a a1 a2 a3 => up2_ne _ _ _ a3) (fun j a1 a2 => rd_k (by omega)) (fun x => rd_at) (Or.inr ⟨by omega, rd_k (by omega), rd_k (by omega), up2_ne _ _ _ (by omega)⟩)) (Or.inl rfl) (by omega)
                        · refine y_aload_n hB 1 dX7_layPage_156 rfl rfl ?_
                          refine gt_7_3 hB (by decide) (t1 := 582) (by omega) dX7_layPage_157 ?_
                          refine y_aload_n hB 1 dX7_layPage_160 rfl rfl ?_
                          refine gt_7_5 hB (by decide) (t1 := SM 578 5) (rd_k (by omega)) dX7_layPage_161 ?_
                          refine y_iload_n hB 2 dX7_layPage_164 rfl rfl ?_
                          refine ast_24 hB (by decide) (by omega) dX7_layPage_165 ?_
                          refine y_aload_n hB 1 dX7_layPage_166 rfl rfl ?_
                          refine y_dup hB dX7_layPage_167 rfl ?_
                          refine gt_7_5 hB (by decide) (t1 := SM 578 5) ((rd_k (by omega)).trans (rd_k (by omega))) dX7_layPage_168 ?_
                          refine y_iconst (v := 1) hB dX7_layPage_171 rfl ?_
                          refine y_iadd (t := SM 578 5 + 1) hB dX7_layPage_172 (by omega) ?_
                          refine pt_7_5 hB (by decide) dX7_layPage_173 ?_
                          refine y_aload_n hB 1 dX7_layPage_176 rfl rfl ?_
                          refine y_dup hB dX7_layPage_177 rfl ?_
                          refine gt_7_6 hB (by decide) (t1 := SM 578 6) ((rd_i (by omega)).trans ((rd_k (by omega)).trans (rd_k (by omega)))) dX7_layPage_178 ?_
                          refine y_aload_n hB 1 dX7_layPage_181 rfl rfl ?_
                          refine y_iload_n hB 2 dX7_layPage_182 rfl rfl ?_
                          have e_hM2 : (up2 (up2 (up2 SM 583 v 1) 582 (SM 578 5) v) 578 5 (SM 578 5 + 1)) 579 = S 579 := by rw [up2_ne _ _ _ (by omega), up2_ne _ _ _ (by omega), up2_ne _ _ _ (by omega)]; exact e579
                          have hM2 : MO ((up2 (up2 (up2 SM 583 v 1) 582 (SM 578 5) v) 578 5 (SM 578 5 + 1)) 579) N := by rw [e_hM2]; exact hM
                          refine m_V hB msX7_lines q942 (tX7_lines _ G b C (up2 (up2 (up2 SM 583 v 1) 582 (SM 578 5) v) 578 5 (SM 578 5 + 1)) v N hM2 hN (by omega)) (t := 20) (by decide) (by decide) rfl rfl rfl rfl rfl ⟨Nat.le_of_ble_eq_true rfl, Nat.le_of_ble_eq_true rfl⟩ (Nat.le_of_ble_eq_true rfl) ⟨rfl, rfl⟩ ⟨Nat.le_of_ble_eq_true rfl, Nat.le_of_ble_eq_true rfl⟩ dX7_layPage_183 (k_RI (fun v_183 h_183 => ?_))
                          rw [e_hM2] at h_183
                          refine y_isub (t := SM 578 6 - v_183) hB dX7_layPage_186 (by omega) ?_
                          refine pt_7_6 hB (by decide) dX7_layPage_187 ?_
                          refine y_goto hB 70 dX7_layPage_190 (by decide) ?_
                          refine y_sub (lv' := [(0, .ref (ad b (578))), (1, .int (iI (1)))]) [1, 0] rfl ?_
                          exact ih_70 (m + 1) 1 _ _ (by omega) (LyI_s hL hm0 hb20 hv0 (fun a a1 a2 a3 => (by rw [up2_ne _ _ _ a1, up2_ne _ _ _ a1, up2_ne _ _ _ a2, up2_ne _ _ _ a3])) (fun j a1 a2 => (by rw [rd_i a2, rd_i a1, rd_k (by omega), rd_k (by omega)])) (fun x => (by rw [rd_k (by omega), rd_k (by omega), rd_k (by omega), rd_at])) (Or.inl ⟨by omega, by rw [rd_hit rfl rfl]; omega, by rw [rd_i (by omega), rd_hit rfl rfl], fun x => (by rw [rd_k (by omega), rd_k (by omega), rd_at, rd_k (by omega)])⟩)) (Or.inl rfl) (by omega)
                  · refine y_aload_n hB 0 dX7_layPage_85 rfl rfl ?_
                    refine gt_7_4 hB (by decide) (t1 := 583) (by omega) dX7_layPage_86 ?_
                    refine y_iload_n hB 2 dX7_layPage_89 rfl rfl ?_
                    refine ald_25 hB (by decide) (t1 := SM 583 k) (by omega) rfl dX7_layPage_90 ?_
                    refine y_if_ne hB 113 dX7_layPage_91 (by decide) (by have h9 := (hL.2.2.2.1 k hk.1 (by omega)).1; omega) (fun c_91 => ?_) (fun c_91 => ?_)
                    · have hb2 := isBest_no hb hk.1 (by omega)
                      refine y_iload_n hB 1 dX7_layPage_113 rfl rfl ?_
                      refine y_istore_n (lv' := [(2, .int (iI (v))), (0, .ref (ad b (578))), (3, .int (iI (k)))]) hB dX7_layPage_114 rfl (by decide) rfl ?_
                      refine y_iinc (v := k + 1) (lv' := [(3, .int (iI (k + 1))), (2, .int (iI (v))), (0, .ref (ad b (578)))]) hB 2 dX7_layPage_115 rfl (by omega) (by decide) rfl ?_
                      refine y_goto hB 79 dX7_layPage_118 (by decide) ?_
                      refine y_sub (lv' := [(0, .ref (ad b (578))), (2, .int (iI (v))), (3, .int (iI (k + 1)))]) [2, 1, 0] rfl ?_
                      exact ih_79 (k + 1) v (by omega) hb2 (by omega)
                    · have hsn := ((hL.2.2.2.1 k hk.1 (by omega)).1)
                      refine y_iload_n hB 1 dX7_layPage_94 rfl rfl ?_
                      refine y_bipush (v := -5) hB dX7_layPage_95 (by decide) ?_
                      refine y_icmp_eq hB 109 dX7_layPage_97 (by decide) (by omega) (by omega) (fun c_97 => ?_) (fun c_97 => ?_)
                      · have hgt : v = -5 ∨ mky (S 579) v < mky (S 579) k := Or.inl (by omega)
                        refine y_iload_n hB 2 dX7_layPage_109 rfl rfl ?_
                        refine y_goto hB 114 dX7_layPage_110 (by decide) ?_
                        refine y_istore_n (lv' := [(2, .int (iI (k))), (0, .ref (ad b (578))), (3, .int (iI (k)))]) hB dX7_layPage_114 rfl (by decide) rfl ?_
                        refine y_iinc (v := k + 1) (lv' := [(3, .int (iI (k + 1))), (2, .int (iI (k))), (0, .ref (ad b (578)))]) hB 2 dX7_layPage_115 rfl (by omega) (by decide) rfl ?_
                        refine y_goto hB 79 dX7_layPage_118 (by decide) ?_
                        refine y_sub (lv' := [(0, .ref (ad b (578))), (2, .int (iI (k))), (3, .int (iI (k + 1)))]) [2, 1, 0] rfl ?_
                        exact ih_79 (k + 1) k (by omega) (isBest_new hb hk.1 (by omega) hgt) (by omega)
                      · refine y_aload_n hB 0 dX7_layPage_100 rfl rfl ?_
                        refine y_iload_n hB 2 dX7_layPage_101 rfl rfl ?_
                        refine y_iload_n hB 1 dX7_layPage_102 rfl rfl ?_
                        refine m_V hB msX7_isAhead q938 (tX7_isAhead _ G b C SM k v N hMM hN (by omega) (by omega)) (t := 20) (by decide) (by decide) rfl rfl rfl rfl rfl ⟨Nat.le_of_ble_eq_true rfl, Nat.le_of_ble_eq_true rfl⟩ (Nat.le_of_ble_eq_true rfl) ⟨rfl, rfl⟩ ⟨Nat.le_of_ble_eq_true rfl, Nat.le_of_ble_eq_true rfl⟩ dX7_layPage_103 (k_RI (fun v_103 h_103 => ?_))
                        rw [e579] at h_103
                        refine y_if_eq hB 113 dX7_layPage_106 (by decide) (by omega) (fun c_106 => ?_) (fun c_106 => ?_)
                        · have hb2 := isBest_old hb hk.1 (by omega) (by rcases h_103 with g | g; omega; have h9 : ¬ ahd (mky (S 579)) k v := fun z => g.2 ((mAh_ahd hM hN (by omega) (by omega)).mpr z); unfold ahd at h9; omega)
                          refine y_iload_n hB 1 dX7_layPage_113 rfl rfl ?_
                          refine y_istore_n (lv' := [(2, .int (iI (v))), (0, .ref (ad b (578))), (3, .int (iI (k)))]) hB dX7_layPage_114 rfl (by decide) rfl ?_
                          refine y_iinc (v := k + 1) (lv' := [(3, .int (iI (k + 1))), (2, .int (iI (v))), (0, .ref (ad b (578)))]) hB 2 dX7_layPage_115 rfl (by omega) (by decide) rfl ?_
                          refine y_goto hB 79 dX7_layPage_118 (by decide) ?_
                          refine y_sub (lv' := [(0, .ref (ad b (578))), (2, .int (iI (v))), (3, .int (iI (k + 1)))]) [2, 1, 0] rfl ?_
                          exact ih_79 (k + 1) v (by omega) hb2 (by omega)
                        · have hgt : v = -5 ∨ mky (S 579) v < mky (S 579) k := Or.inr (by rcases h_103 with g | g; have h9 := (mAh_ahd hM hN (by omega) (by omega)).mp g.2; unfold ahd at h9; omega; omega)
                          refine y_iload_n hB 2 dX7_layPage_109 rfl rfl ?_
                          refine y_goto hB 114 dX7_layPage_110 (by decide) ?_
                          refine y_istore_n (lv' := [(2, .int (iI (k))), (0, .ref (ad b (578))), (3, .int (iI (k)))]) hB dX7_layPage_114 rfl (by decide) rfl ?_
                          refine y_iinc (v := k + 1) (lv' := [(3, .int (iI (k + 1))), (2, .int (iI (k))), (0, .ref (ad b (578)))]) hB 2 dX7_layPage_115 rfl (by omega) (by decide) rfl ?_
                          refine y_goto hB 79 dX7_layPage_118 (by decide) ?_
                          refine y_sub (lv' := [(0, .ref (ad b (578))), (2, .int (iI (k))), (3, .int (iI (k + 1)))]) [2, 1, 0] rfl ?_
                          exact ih_79 (k + 1) k (by omega) (isBest_new hb hk.1 (by omega) hgt) (by omega)
              refine y_sub (lv' := [(0, .ref (ad b (578))), (2, .int (iI (-5))), (3, .int (iI (0)))]) [2, 1, 0] rfl ?_
              exact LOOP_79 (((20 : Int)).toNat + 1) 0 (-5) (by omega) (isBest_0 _ _) (by omega)
        refine y_sub (lv' := [(0, .ref (ad b (578))), (1, .int (iI (1)))]) [1, 0] rfl ?_
        exact LOOP_70 (((21 : Int)).toNat + 1) 0 1 (fun _ => 0) _ (by omega) (LyI_0 (fun a a1 a2 => (by rw [hf a a2, up2_ne _ _ _ a1, up2_ne _ _ _ a1])) (fun j a1 a2 => (by rw [hf 578 (by omega), rd_i a2, rd_i a1])) (by rw [hf 578 (by omega), rd_i (by omega), rd_hit rfl rfl]) (by rw [hf 578 (by omega), rd_hit rfl rfl]) (fun x a1 a2 => hs x a1 (by omega))) (Or.inl rfl) (by omega)
      · refine y_aload_n hB 0 dX7_layPage_23 rfl rfl ?_
        refine gt_7_4 hB (by decide) (t1 := 583) (by omega) dX7_layPage_24 ?_
        refine y_iload_n hB 1 dX7_layPage_27 rfl rfl ?_
        refine y_iload_n hB 1 dX7_layPage_28 rfl rfl ?_
        refine y_aload_n hB 0 dX7_layPage_29 rfl rfl ?_
        refine gt_7_0 hB (by decide) (t1 := 579) (by omega) dX7_layPage_30 ?_
        refine y_iconst (v := 1) hB dX7_layPage_33 rfl ?_
        refine ald_21 hB (by decide) (t1 := SM 579 1) (by omega) rfl dX7_layPage_34 ?_
        refine y_icmp_ge hB 56 dX7_layPage_35 (by decide) (by omega) (by omega) (fun c_35 => ?_) (fun c_35 => ?_)
        · have hn : ¬ mP (S 579) i := fun z => by have h9 := z.1; omega
          refine y_iconst (v := 1) hB dX7_layPage_56 rfl ?_
          refine y_goto hB 61 dX7_layPage_57 (by decide) ?_
          refine ast_25 hB (by decide) (by omega) (by omega) dX7_layPage_61 ?_
          refine y_iinc (v := i + 1) (lv' := [(1, .int (iI (i + 1))), (0, .ref (ad b (578)))]) hB 1 dX7_layPage_62 rfl (by omega) (by decide) rfl ?_
          refine y_goto hB 17 dX7_layPage_65 (by decide) ?_
          refine y_sub (lv' := [(0, .ref (ad b (578))), (1, .int (iI (i + 1)))]) [1, 0] rfl ?_
          exact ih_17 (i + 1) _ (by omega) (fun x a1 a2 => (by rcases (show x = i ∨ x < i by omega) with a3 | a3; rw [a3]; exact Or.inr ⟨rd_hit rfl rfl, hn⟩; rw [rd_i (by omega)]; exact hs x a1 a3)) (fun a ha => (by rw [up2_ne _ _ _ ha]; exact hf a ha)) (by omega)
        · have hst9 := MO_st hMM i hi.1 (by omega)
          refine y_aload_n hB 0 dX7_layPage_38 rfl rfl ?_
          refine y_iload_n hB 1 dX7_layPage_39 rfl rfl ?_
          refine y_iconst (v := 2) hB dX7_layPage_40 rfl ?_
          refine m_V hB msX7_of q842 (tX7_of _ G b C SM i 2 (32 * i + 18) (SM 579 (32 * i + 18)) (by omega) (by omega) rfl) (t := 20) (by decide) (by decide) rfl rfl rfl rfl rfl ⟨Nat.le_of_ble_eq_true rfl, Nat.le_of_ble_eq_true rfl⟩ (Nat.le_of_ble_eq_true rfl) ⟨rfl, rfl⟩ ⟨Nat.le_of_ble_eq_true rfl, Nat.le_of_ble_eq_true rfl⟩ dX7_layPage_41 (k_RI (fun v_41 h_41 => ?_))
          obtain rfl := h_41
          refine y_iconst (v := 2) hB dX7_layPage_44 rfl ?_
          refine y_icmp_ne hB 56 dX7_layPage_45 (by decide) (by omega) (by omega) (fun c_45 => ?_) (fun c_45 => ?_)
          · have hn : ¬ mP (S 579) i := fun z => by have h9 := z.2.1; rw [e579] at c_45; omega
            refine y_iconst (v := 1) hB dX7_layPage_56 rfl ?_
            refine y_goto hB 61 dX7_layPage_57 (by decide) ?_
            refine ast_25 hB (by decide) (by omega) (by omega) dX7_layPage_61 ?_
            refine y_iinc (v := i + 1) (lv' := [(1, .int (iI (i + 1))), (0, .ref (ad b (578)))]) hB 1 dX7_layPage_62 rfl (by omega) (by decide) rfl ?_
            refine y_goto hB 17 dX7_layPage_65 (by decide) ?_
            refine y_sub (lv' := [(0, .ref (ad b (578))), (1, .int (iI (i + 1)))]) [1, 0] rfl ?_
            exact ih_17 (i + 1) _ (by omega) (fun x a1 a2 => (by rcases (show x = i ∨ x < i by omega) with a3 | a3; rw [a3]; exact Or.inr ⟨rd_hit rfl rfl, hn⟩; rw [rd_i (by omega)]; exact hs x a1 a3)) (fun a ha => (by rw [up2_ne _ _ _ ha]; exact hf a ha)) (by omega)
          · refine y_aload_n hB 0 dX7_layPage_48 rfl rfl ?_
            refine y_iload_n hB 1 dX7_layPage_49 rfl rfl ?_
            refine m_V hB msX7_isReady q930 (tX7_isReady _ G b C SM i N hMM hN (by omega)) (t := 20) (by decide) (by decide) rfl rfl rfl rfl rfl ⟨Nat.le_of_ble_eq_true rfl, Nat.le_of_ble_eq_true rfl⟩ (Nat.le_of_ble_eq_true rfl) ⟨rfl, rfl⟩ ⟨Nat.le_of_ble_eq_true rfl, Nat.le_of_ble_eq_true rfl⟩ dX7_layPage_50 (k_RI (fun v_50 h_50 => ?_))
            rw [e579] at h_50
            refine y_if_ne hB 60 dX7_layPage_53 (by decide) (by omega) (fun c_53 => ?_) (fun c_53 => ?_)
            · have hy : mP (S 579) i := (by rcases h_50 with g | g; exact ⟨by omega, by rw [e579] at c_45; omega, g.2⟩; omega)
              refine y_iconst (v := 0) hB dX7_layPage_60 rfl ?_
              refine ast_25 hB (by decide) (by omega) (by omega) dX7_layPage_61 ?_
              refine y_iinc (v := i + 1) (lv' := [(1, .int (iI (i + 1))), (0, .ref (ad b (578)))]) hB 1 dX7_layPage_62 rfl (by omega) (by decide) rfl ?_
              refine y_goto hB 17 dX7_layPage_65 (by decide) ?_
              refine y_sub (lv' := [(0, .ref (ad b (578))), (1, .int (iI (i + 1)))]) [1, 0] rfl ?_
              exact ih_17 (i + 1) _ (by omega) (fun x a1 a2 => (by rcases (show x = i ∨ x < i by omega) with a3 | a3; rw [a3]; exact Or.inl ⟨rd_hit rfl rfl, hy⟩; rw [rd_i (by omega)]; exact hs x a1 a3)) (fun a ha => (by rw [up2_ne _ _ _ ha]; exact hf a ha)) (by omega)
            · have hn : ¬ mP (S 579) i := fun z => (by rcases h_50 with g | g; omega; exact g.2 z.2.2)
              refine y_iconst (v := 1) hB dX7_layPage_56 rfl ?_
              refine y_goto hB 61 dX7_layPage_57 (by decide) ?_
              refine ast_25 hB (by decide) (by omega) (by omega) dX7_layPage_61 ?_
              refine y_iinc (v := i + 1) (lv' := [(1, .int (iI (i + 1))), (0, .ref (ad b (578)))]) hB 1 dX7_layPage_62 rfl (by omega) (by decide) rfl ?_
              refine y_goto hB 17 dX7_layPage_65 (by decide) ?_
              refine y_sub (lv' := [(0, .ref (ad b (578))), (1, .int (iI (i + 1)))]) [1, 0] rfl ?_
              exact ih_17 (i + 1) _ (by omega) (fun x a1 a2 => (by rcases (show x = i ∨ x < i by omega) with a3 | a3; rw [a3]; exact Or.inr ⟨rd_hit rfl rfl, hn⟩; rw [rd_i (by omega)]; exact hs x a1 a3)) (fun a ha => (by rw [up2_ne _ _ _ ha]; exact hf a ha)) (by omega)
  refine y_sub (lv' := [(0, .ref (ad b (578))), (1, .int (iI (0)))]) [1, 0] rfl ?_
  exact LOOP_17 (((20 : Int)).toNat + 1) 0 _ (by omega) (fun x a1 a2 => by omega) (fun a _ => rfl) (by omega)
