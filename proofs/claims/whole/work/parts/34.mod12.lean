/-! the other class: the persons of the text, joined -/
def rowJ (D M : gM) (b0 : Int) (p : PR) (d m : Int) : Prop := M 579 (b0 + 16) = p.age ∧ M 579 (b0 + 17) = p.rank ∧ M 579 (b0 + 22) = -5 ∧ M 579 (b0 + 19) = m ∧ M 579 (b0 + 18) = D 579 (b0 + 18) ∧ ∀ j : Int, 0 ≤ j → j < m → M 579 (b0 + 3 * j + 24) = p.s j ∧ M 579 (b0 + 3 * j + 25) = p.l j ∧ M 579 (b0 + 3 * j + 26) = d
def JmI (D M : gM) (r : Int → PR) (n0 k : Int) : Prop := (∀ x : Int, x ≠ 579 → M x = D x) ∧ M 579 1 = n0 + k ∧ (∀ j : Int, j ≠ 1 → (j < 32 * n0 + 16 ∨ 32 * (n0 + k) + 16 ≤ j) → M 579 j = D 579 j) ∧ ∀ i : Int, 0 ≤ i → i < k → rowJ D M (32 * (n0 + i)) (r i) (D 579 0) (r i).m
def Jm2 (D M : gM) (r : Int → PR) (n0 k m : Int) : Prop := (∀ x : Int, x ≠ 579 → M x = D x) ∧ M 579 1 = n0 + k + 1 ∧ (∀ j : Int, j ≠ 1 → (j < 32 * n0 + 16 ∨ 32 * (n0 + k + 1) + 16 ≤ j) → M 579 j = D 579 j) ∧ (∀ i : Int, 0 ≤ i → i < k → rowJ D M (32 * (n0 + i)) (r i) (D 579 0) (r i).m) ∧ rowJ D M (32 * (n0 + k)) (r k) (D 579 0) m
section
variable {D M M' : gM} {r : Int → PR} {n0 k m : Int}
theorem rowJ_e {b0 d : Int} {p : PR} (h : rowJ D M b0 p d m) (hm : m ≤ 8) (e : ∀ j : Int, b0 + 16 ≤ j → j < b0 + 48 → M' 579 j = M 579 j) : rowJ D M' b0 p d m := by
  obtain ⟨h1, h2, h3, h4, h5, h6⟩ := h
  refine ⟨(e _ (by omega) (by omega)).trans h1, (e _ (by omega) (by omega)).trans h2, (e _ (by omega) (by omega)).trans h3, (e _ (by omega) (by omega)).trans h4, (e _ (by omega) (by omega)).trans h5, fun j a1 a2 => ?_⟩
  obtain ⟨g1, g2, g3⟩ := h6 j a1 a2
  exact ⟨(e _ (by omega) (by omega)).trans g1, (e _ (by omega) (by omega)).trans g2, (e _ (by omega) (by omega)).trans g3⟩
theorem JmI_0 (h : D 579 1 = n0) : JmI D D r n0 0 := ⟨fun _ _ => rfl, by omega, fun _ _ _ => rfl, fun i a1 a2 => by omega⟩
theorem Jm_come (h : JmI D M r n0 k) (h0 : 0 ≤ n0 ∧ 0 ≤ k) (hz : D 579 (32 * (n0 + k) + 19) = 0) (hm : ∀ i : Int, 0 ≤ i → i < k → (r i).m ≤ 8) {u t : Int} (hu : u = (r k).age) (ht : t = (r k).rank) : Jm2 D (up2 (up2 (up2 (up2 M 579 (32 * M 579 1 + 16) u) 579 (32 * M 579 1 + 17) t) 579 (32 * M 579 1 + 22) (-5)) 579 1 (M 579 1 + 1)) r n0 k 0 := by
  obtain ⟨h1, h2, h3, h4⟩ := h
  rw [h2]
  have O : ∀ j : Int, j ≠ 1 → j ≠ 32 * (n0 + k) + 16 → j ≠ 32 * (n0 + k) + 17 → j ≠ 32 * (n0 + k) + 22 → up2 (up2 (up2 (up2 M 579 (32 * (n0 + k) + 16) u) 579 (32 * (n0 + k) + 17) t) 579 (32 * (n0 + k) + 22) (-5)) 579 1 (n0 + k + 1) 579 j = M 579 j := fun j a1 a2 a3 a4 => by rw [rd_i a1, rd_i a4, rd_i a3, rd_i a2]
  refine ⟨fun x hx => ?_, ?_, fun j a1 a2 => ?_, fun i a1 a2 => ?_, ?_, ?_, ?_, ?_, ?_, fun j a1 a2 => by omega⟩
  · rw [up2_ne _ _ _ hx, up2_ne _ _ _ hx, up2_ne _ _ _ hx, up2_ne _ _ _ hx]; exact h1 x hx
  · rw [rd_hit rfl rfl]
  · rw [O j a1 (by omega) (by omega) (by omega)]; exact h3 j a1 (by omega)
  · exact rowJ_e (h4 i a1 a2) (hm i a1 a2) (fun j b1 b2 => O j (by omega) (by omega) (by omega) (by omega))
  · rw [rd_i (by omega), rd_i (by omega), rd_i (by omega), rd_hit rfl rfl]; exact hu
  · rw [rd_i (by omega), rd_i (by omega), rd_hit rfl rfl]; exact ht
  · rw [rd_i (by omega), rd_hit rfl rfl]
  · rw [O _ (by omega) (by omega) (by omega) (by omega), h3 _ (by omega) (by omega)]; exact hz
  · rw [O _ (by omega) (by omega) (by omega) (by omega), h3 _ (by omega) (by omega)]
theorem Jm_add (h : Jm2 D M r n0 k m) (h0 : 0 ≤ n0 ∧ 0 ≤ k) (hm8 : 0 ≤ m ∧ m < 8) (hm : ∀ i : Int, 0 ≤ i → i < k → (r i).m ≤ 8) {p N u t d : Int} (hp : p = n0 + k) (hN : N = m) (hu : u = (r k).s m) (ht : t = (r k).l m) (hd : d = D 579 0) : Jm2 D (up2 (up2 (up2 (up2 M 579 (32 * p + 3 * N + 24) u) 579 (32 * p + 3 * N + 25) t) 579 (32 * p + 3 * N + 26) d) 579 (32 * p + 19) (N + 1)) r n0 k (m + 1) := by
  subst hp
  subst hN
  obtain ⟨h1, h2, h3, h4, h5⟩ := h
  have O : ∀ j : Int, j ≠ 32 * (n0 + k) + 3 * N + 24 → j ≠ 32 * (n0 + k) + 3 * N + 25 → j ≠ 32 * (n0 + k) + 3 * N + 26 → j ≠ 32 * (n0 + k) + 19 → up2 (up2 (up2 (up2 M 579 (32 * (n0 + k) + 3 * N + 24) u) 579 (32 * (n0 + k) + 3 * N + 25) t) 579 (32 * (n0 + k) + 3 * N + 26) d) 579 (32 * (n0 + k) + 19) (N + 1) 579 j = M 579 j := fun j a1 a2 a3 a4 => by rw [rd_i a4, rd_i a3, rd_i a2, rd_i a1]
  obtain ⟨g1, g2, g3, g4, g5, g6⟩ := h5
  refine ⟨fun x hx => ?_, ?_, fun j a1 a2 => ?_, fun i a1 a2 => ?_, ?_, ?_, ?_, ?_, ?_, fun j a1 a2 => ?_⟩
  · rw [up2_ne _ _ _ hx, up2_ne _ _ _ hx, up2_ne _ _ _ hx, up2_ne _ _ _ hx]; exact h1 x hx
  · rw [O 1 (by omega) (by omega) (by omega) (by omega)]; exact h2
  · rw [O j (by omega) (by omega) (by omega) (by omega)]; exact h3 j a1 a2
  · exact rowJ_e (h4 i a1 a2) (hm i a1 a2) (fun j b1 b2 => O j (by omega) (by omega) (by omega) (by omega))
  · rw [O _ (by omega) (by omega) (by omega) (by omega)]; exact g1
  · rw [O _ (by omega) (by omega) (by omega) (by omega)]; exact g2
  · rw [O _ (by omega) (by omega) (by omega) (by omega)]; exact g3
  · rw [rd_hit rfl rfl]
  · rw [O _ (by omega) (by omega) (by omega) (by omega)]; exact g5
  · by_cases hj : j = N
    · subst hj
      refine ⟨?_, ?_, ?_⟩
      · rw [rd_i (by omega), rd_i (by omega), rd_i (by omega), rd_hit rfl rfl]; exact hu
      · rw [rd_i (by omega), rd_i (by omega), rd_hit rfl rfl]; exact ht
      · rw [rd_i (by omega), rd_hit rfl rfl]; exact hd
    · obtain ⟨f1, f2, f3⟩ := g6 j a1 (by omega)
      refine ⟨?_, ?_, ?_⟩
      · rw [O _ (by omega) (by omega) (by omega) (by omega)]; exact f1
      · rw [O _ (by omega) (by omega) (by omega) (by omega)]; exact f2
      · rw [O _ (by omega) (by omega) (by omega) (by omega)]; exact f3
theorem Jm_end (h : Jm2 D M r n0 k m) (hm : m = (r k).m) : JmI D M r n0 (k + 1) := by
  subst hm
  obtain ⟨h1, h2, h3, h4, h5⟩ := h
  refine ⟨h1, by omega, fun j a1 a2 => h3 j a1 (by omega), fun i a1 a2 => ?_⟩
  by_cases hi : i = k
  · subst hi; exact h5
  · exact h4 i a1 (by omega)
end
