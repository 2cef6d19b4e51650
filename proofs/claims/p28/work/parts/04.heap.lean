/-! the heap's rows over a numbered world -/
def upW (w : Int → va_E) (k : Int) (e : va_E) : Int → va_E := fun j => if j = k then e else w j
theorem upW_self (w : Int → va_E) (k : Int) (e : va_E) : upW w k e k = e := by simp [upW]
theorem upW_ne (w : Int → va_E) {k j : Int} (e : va_E) (h : j ≠ k) : upW w k e j = w j := by simp [upW, h]
theorem ad_ge (b : Nat) (k : Int) : b ≤ ad b k := Nat.le_add_right _ _
theorem ad_inj {b : Nat} {k j : Int} (hk : 0 ≤ k) (hj : 0 ≤ j) (h : ad b k = ad b j) : k = j := by
  unfold ad at h
  omega
theorem Rp.set {G : gG} {b : Nat} {n : Int} {w : Int → va_E} {H H1 : Heap} {k : Int} {e : va_E} (h : Rp G b n w H) (hk : 0 ≤ k ∧ k < n) (he : va_at G.1 vwCl (ad b k, e) H1) (z : H1.size = H.size) (oq : ∀ q : Nat, q ≠ ad b k → H1[q]? = H[q]?) : Rp G b n (upW w k e) H1 := by
  refine ⟨h.1, by rw [z]; exact h.2.1, fun j h0 h1 => ?_⟩
  by_cases hj : j = k
  · subst hj
    rw [upW_self]
    exact he
  · rw [upW_ne _ _ hj]
    exact (h.2.2 j h0 h1).kept (oq _ (fun z => hj (ad_inj h0 hk.1 z)))
theorem Rp.push {G : gG} {b : Nat} {n : Int} {w : Int → va_E} {H H1 : Heap} {e : va_E} (h : Rp G b n w H) (he : va_at G.1 vwCl (ad b n, e) H1) (z : H1.size = H.size + 1) (oq : ∀ q : Nat, q < H.size → H1[q]? = H[q]?) : Rp G b (n + 1) (upW w n e) H1 := by
  have h0 := h.1
  refine ⟨by omega, by rw [z, h.2.1]; unfold ad; omega, fun j h0 h1 => ?_⟩
  by_cases hj : j = n
  · subst hj
    rw [upW_self]
    exact he
  · rw [upW_ne _ _ hj]
    have h2 := h.2.2 j h0 (by omega)
    exact h2.kept (oq _ h2.lt)
theorem Rp.recv {G : gG} {b : Nat} {n : Int} {w : Int → va_E} {H : Heap} {s : State} {k : Int} {ci : Nat} {fs : List Value} {q : vw_C} (h : Rp G b n w H) (hK : Kx G s) (hk : 0 ≤ k ∧ k < n) (he : w k = .inr (ci, fs)) (hc : vwCl[ci]? = some q) : ∃ cell : Cell, H[ad b k]? = some cell ∧ cell.vm.isStatics = false ∧ s.vm.findClass q.1 = some cell.cls := by
  obtain ⟨q', h1, cell, g1, g2, g3, -⟩ := (show va_at G.1 vwCl (ad b k, .inr (ci, fs)) H by rw [← he]; exact h.2.2 k hk.1 hk.2)
  exact ⟨cell, g1, by rw [g3]; rfl, by rw [g2]; exact (hK.1.1 ci q hc).2.1⟩
section
variable {x : gX} {G : gG} {b cl sl nL : Nat} {own nm : String} {cc : ByteArray} {ret : Option FieldType} {rm : Room} {n : Int} {w : Int → va_E} {pc : Nat} {lv : List (Nat × Value)} {st : List Value}
theorem y_get (hB : Bx x G b own cc nL ret rm nm) {C : String} {T : u_T} {N ci index : Nat} {k : Int} {fs : List Value} {v : Value} (hin : ∀ w ∈ u_ws C T N, w ∈ lw_g) (hk : 0 ≤ k ∧ k < n) (he : w k = .inr (ci, fs)) (hc : vwCl[ci]? = some (C, T, N)) (j : Nat) (hj : j < N) (hq : (.fieldLink own index (T j).1 (T j).2.1 (T j).2.2.1 : Cond) ∈ lw_g) (hv : fs[j]? = some v) (d : decode cc pc = .ok (.getfield index, 3))
    (kk : Y x G b cl sl n w (pc + 3) lv (v :: st)) : Y x G b cl sl n w pc lv (.ref (ad b k) :: st) := by
  obtain ⟨hx, hb, hml, hown, hts, hK, hbs, hlk, hrt, hR, hnm⟩ := hB
  intro H locs ls hRp hS hL
  exact va_get (ws := [(ad b k, .inr (ci, fs))]) hx hb hts hin hown hK.1 (fun i q hi => by
    have hi0 : i = 0 := by
      have := (List.getElem?_eq_some_iff.mp hi).1
      simp at this
      exact this
    subst hi0
    cases hi
    rw [← he]
    exact hRp.2.2 k hk.1 hk.2) 0 rfl hc j hj (hts _ hq) (fun _ h => h) hv d (kk H locs ls hRp hS hL)
theorem y_put (hB : Bx x G b own cc nL ret rm nm) {C : String} {T : u_T} {N ci index : Nat} {k : Int} {fs : List Value} {v : Value} (ty0 : Nat → FieldType) (hty : ∀ k, k < N → parseFieldDescriptor (T k).2.2.1 = some (ty0 k)) (hnm2 : ∀ a, a < N → ∀ b, b < N → a ≠ b → (T a).2.1 ≠ (T b).2.1) (hin : ∀ w ∈ u_ws C T N, w ∈ lw_g) (hk : 0 ≤ k ∧ k < n) (he : w k = .inr (ci, fs)) (hc : vwCl[ci]? = some (C, T, N)) (j : Nat) (hj : j < N) (hq : (.fieldLink own index (T j).1 (T j).2.1 (T j).2.2.1 : Cond) ∈ lw_g) (hfin : (T j).2.2.2 = false) (hn : narrow (ty0 j) v = v) (hfit : fits (ty0 j) v = true) (hl : j < fs.length) (d : decode cc pc = .ok (.putfield index, 3))
    (kk : Y x G b cl sl n (upW w k (.inr (ci, fs.set j v))) (pc + 3) lv st) : Y x G b cl sl n w pc lv (v :: .ref (ad b k) :: st) := by
  obtain ⟨hx, hb, hml, hown, hts, hK, hbs, hlk, hrt, hR, hnm⟩ := hB
  intro H locs ls hRp hS0 hL
  have hap := va_apart (own := own) hts hin ty0 hty hnm2 hK.1 hc
  obtain ⟨r, h1, cell, q1, q2, q3, q4⟩ := (show va_at G.1 vwCl (ad b k, .inr (ci, fs)) H by rw [← he]; exact hRp.2.2 k hk.1 hk.2)
  have hr : r = (C, T, N) := Option.some.inj (h1.symm.trans hc)
  subst hr
  obtain ⟨hS, hfc, kC, hkC, hkind⟩ := hK.1.1 ci _ hc
  obtain ⟨cf, kf, fi, f, hi, hsl⟩ := hS j hj
  have hlay := hts _ (hin _ (u_in_lay hj))
  unfold u_lay at hlay
  rw [if_neg (by rw [hfin]; decide)] at hlay
  have hst := (u_facts hfc hkC (u_lays hts hin hj) hi).1
  have h6 := u_store hfc hkC hkind hlay hi (hty j hj) hn hfit
  refine W.putK hx hb (f := f) ⟨hown, hts _ hq, ⟨_, _, _, hi⟩, hst⟩ (by rw [q2]; exact h6) q1 q3 (by rw [hsl]; exact k2_hasslot (q4 j hj)) rfl rfl d fun H' e1 e2 e3 => ?_
  rw [hsl] at e1 ⊢
  exact kk H' _ ls (hRp.set hk ⟨_, hc, t_OB.to (V := updV (vp_V fs) j v) ⟨_, e1, q2, q3, t_set q4 hap hj v⟩ (fun i _ => vp_updV_set hl v i)⟩ e2 e3) (hS0.put e2 e3 (ad_ge b k)) hL
theorem y_putF (hB : Bx x G b own cc nL ret rm "<init>") {T : u_T} {N ci index : Nat} {k : Int} {fs : List Value} {v : Value} (ty0 : Nat → FieldType) (hty : ∀ k, k < N → parseFieldDescriptor (T k).2.2.1 = some (ty0 k)) (hnm2 : ∀ a, a < N → ∀ b, b < N → a ≠ b → (T a).2.1 ≠ (T b).2.1) (hin : ∀ w ∈ u_ws own T N, w ∈ lw_g) (hk : 0 ≤ k ∧ k < n) (he : w k = .inr (ci, fs)) (hc : vwCl[ci]? = some (own, T, N)) (j : Nat) (hj : j < N) (hq : (.fieldLink own index (T j).1 (T j).2.1 (T j).2.2.1 : Cond) ∈ lw_g) (hfin : (T j).2.2.2 = true) (hdecl : (T j).1 = own) (hn : narrow (ty0 j) v = v) (hfit : fits (ty0 j) v = true) (hl : j < fs.length) (d : decode cc pc = .ok (.putfield index, 3))
    (kk : Y x G b cl sl n (upW w k (.inr (ci, fs.set j v))) (pc + 3) lv st) : Y x G b cl sl n w pc lv (v :: .ref (ad b k) :: st) := by
  obtain ⟨hx, hb, hml, hown, hts, hK, hbs, hlk, hrt, hR, hnm⟩ := hB
  intro H locs ls hRp hS0 hL
  have hap := va_apart (own := own) hts hin ty0 hty hnm2 hK.1 hc
  obtain ⟨r, h1, cell, q1, q2, q3, q4⟩ := (show va_at G.1 vwCl (ad b k, .inr (ci, fs)) H by rw [← he]; exact hRp.2.2 k hk.1 hk.2)
  have hr : r = (own, T, N) := Option.some.inj (h1.symm.trans hc)
  subst hr
  obtain ⟨hS, hfc, kC, hkC, hkind⟩ := hK.1.1 ci _ hc
  obtain ⟨cf, kf, fi, f, hi, hsl⟩ := hS j hj
  have hlay := hts _ (hin _ (u_in_lay hj))
  unfold u_lay at hlay
  rw [if_pos hfin] at hlay
  have hst := (u_facts hfc hkC (u_lays hts hin hj) hi).1
  have hcf : x.2.1.1.cls = cf := by
    obtain ⟨_, _, c', _, _, _, -, -, hf', -, -, -, hown2, -⟩ := Cond.laysFinal_spec hlay
    have e1 : c' = cf := by have := hi.symm.trans hf'; simp at this; exact this.1.symm
    rw [hdecl] at hown2
    rw [← e1]; exact Option.some.inj (hown.symm.trans hown2)
  have h6 := u_fits hfc hkC hkind (Or.inr hlay) hi (hty j hj) hn hfit
  refine W.putFinK hx hb hown (hts _ hq) hi hst hcf hnm (by rw [q2]; exact h6) q1 q3 (by rw [hsl]; exact k2_hasslot (q4 j hj)) rfl rfl d fun H' e1 e2 e3 => ?_
  rw [hsl] at e1 ⊢
  exact kk H' _ ls (hRp.set hk ⟨_, hc, t_OB.to (V := updV (vp_V fs) j v) ⟨_, e1, q2, q3, t_set q4 hap hj v⟩ (fun i _ => vp_updV_set hl v i)⟩ e2 e3) (hS0.put e2 e3 (ad_ge b k)) hL
/-- reads of arrays of ints, booleans, chars -/
theorem y_ald (ty : Nat) (hB : Bx x G b own cc nL ret rm nm) {k i : Int} {N : Nat} {f : Nat → Int32} (hk : 0 ≤ k ∧ k < n) (he : w k = .inl (G.2 ty, N, .inl f)) (hty : ty = 0 ∨ ty = 2) (hi : 0 ≤ i ∧ i < N) (hN : N < 2147483648) (d : decode cc pc = .ok ((match ty with | 0 => .iaload | 1 => .baload | _ => .caload), 1))
    (kk : Y x G b cl sl n w (pc + 1) lv (.int (f i.toNat) :: st)) : Y x G b cl sl n w pc lv (.int (iI i) :: .ref (ad b k) :: st) := by
  obtain ⟨hx, hb, hml, hown, hts, hK, hbs, hlk, hrt, hR, hnm⟩ := hB
  intro H locs ls hRp hS hL
  have hc : H[ad b k]? = some (vp_cell (G.2 ty) (N, .inl f)) := (show va_at G.1 vwCl (ad b k, .inl (G.2 ty, N, .inl f)) H by rw [← he]; exact hRp.2.2 k hk.1 hk.2)
  have hin := iI_in hi hN
  have hcl : (iI i).toNatClampNeg = i.toNat := iI_cl (by omega)
  have hlt : i.toNat < N := by omega
  rcases hty with rfl | rfl
  · exact W.iald (v := .int (f i.toNat)) hx hb hc ((hK.1.2 0 _ rfl).1 N (fun j => .int (f j))) (fun q => by cases q) (by show ¬ (iI i < 0 ∨ (arrV _ _ _).slots.size ≤ _); rw [arrV_size]; exact hin) (by show (arrV _ _ _).slots[_]? = _; rw [hcl, arrV_read _ _ hlt]) rfl rfl d (kk H locs ls hRp hS hL)
  · exact W.cald (v := .int (f i.toNat)) hx hb hc ((hK.1.2 2 _ rfl).1 N (fun j => .int (f j))) (fun q => by cases q) (by show ¬ (iI i < 0 ∨ (arrV _ _ _).slots.size ≤ _); rw [arrV_size]; exact hin) (by show (arrV _ _ _).slots[_]? = _; rw [hcl, arrV_read _ _ hlt]) rfl rfl d (kk H locs ls hRp hS hL)
theorem y_aald (ty : Nat) (hB : Bx x G b own cc nL ret rm nm) {k i : Int} {N : Nat} {f : Nat → Option Nat} (hk : 0 ≤ k ∧ k < n) (he : w k = .inl (G.2 ty, N, .inr (.inr (.inr (.inr f))))) (hty : ty = 3 ∨ ty = 4) (hi : 0 ≤ i ∧ i < N) (hN : N < 2147483648) (d : decode cc pc = .ok (.aaload, 1))
    (kk : Y x G b cl sl n w (pc + 1) lv (va_rf (f i.toNat) :: st)) : Y x G b cl sl n w pc lv (.int (iI i) :: .ref (ad b k) :: st) := by
  obtain ⟨hx, hb, hml, hown, hts, hK, hbs, hlk, hrt, hR, hnm⟩ := hB
  intro H locs ls hRp hS hL
  have hc : va_at G.1 vwCl (ad b k, .inl (G.2 ty, N, .inr (.inr (.inr (.inr f))))) H := (by rw [← he]; exact hRp.2.2 k hk.1 hk.2)
  have hin := iI_in hi hN
  have hcl : (iI i).toNatClampNeg = i.toNat := iI_cl (by omega)
  have hP : va_P G.1 vwCl [(ad b k, .inl (G.2 ty, N, .inr (.inr (.inr (.inr f)))))] H := (fun i q hi => by
    have hi0 : i = 0 := by
      have := (List.getElem?_eq_some_iff.mp hi).1
      simp at this
      exact this
    subst hi0
    cases hi
    exact hc)
  rcases hty with rfl | rfl
  · exact va_aldq hx hb hK.1 hP 0 3 rfl rfl hin d (by rw [hcl]; exact kk H locs ls hRp hS hL)
  · exact va_aldq hx hb hK.1 hP 0 4 rfl rfl hin d (by rw [hcl]; exact kk H locs ls hRp hS hL)
theorem y_iast (hB : Bx x G b own cc nL ret rm nm) {k i v : Int} {N : Nat} {f : Nat → Int32} (hk : 0 ≤ k ∧ k < n) (he : w k = .inl (G.2 0, N, .inl f)) (hi : 0 ≤ i ∧ i < N) (hN : N < 2147483648) (d : decode cc pc = .ok (.iastore, 1))
    (kk : Y x G b cl sl n (upW w k (.inl (G.2 0, N, .inl (upd f i.toNat (iI v))))) (pc + 1) lv st) : Y x G b cl sl n w pc lv (.int (iI v) :: .int (iI i) :: .ref (ad b k) :: st) := by
  obtain ⟨hx, hb, hml, hown, hts, hK, hbs, hlk, hrt, hR, hnm⟩ := hB
  intro H locs ls hRp hS hL
  have hc : H[ad b k]? = some (vp_cell (G.2 0) (N, .inl f)) := (show va_at G.1 vwCl (ad b k, .inl (G.2 0, N, .inl f)) H by rw [← he]; exact hRp.2.2 k hk.1 hk.2)
  have hin := iI_in hi hN
  have hcl : (iI i).toNatClampNeg = i.toNat := iI_cl (by omega)
  refine W.iast hx hb hc ((hK.1.2 0 _ rfl).1 N (fun j => .int (f j))) (fun q => by cases q) (by show ¬ (iI i < 0 ∨ (arrV _ _ _).slots.size ≤ _); rw [arrV_size]; exact hin) rfl rfl d fun H1 e z oq => ?_
  refine kk H1 _ ls (hRp.set hk ?_ z oq) (hS.put z oq (ad_ge b k)) hL
  show H1[ad b k]? = some (vp_cell _ _)
  rw [e]
  rw [vp_cell_i, vp_cell_i, arrV_store]
  congr 2
  funext q
  rw [hcl]
  by_cases hq : q = i.toNat
  · subst hq
    simp [updV, upd]
  · simp [updV, upd, hq]
theorem y_cast (hB : Bx x G b own cc nL ret rm nm) {k i v : Int} {N : Nat} {f : Nat → Int32} (hk : 0 ≤ k ∧ k < n) (he : w k = .inl (G.2 2, N, .inl f)) (hi : 0 ≤ i ∧ i < N) (hN : N < 2147483648) (hv : 0 ≤ v ∧ v < 65536) (d : decode cc pc = .ok (.castore, 1))
    (kk : Y x G b cl sl n (upW w k (.inl (G.2 2, N, .inl (upd f i.toNat (iI v))))) (pc + 1) lv st) : Y x G b cl sl n w pc lv (.int (iI v) :: .int (iI i) :: .ref (ad b k) :: st) := by
  obtain ⟨hx, hb, hml, hown, hts, hK, hbs, hlk, hrt, hR, hnm⟩ := hB
  intro H locs ls hRp hS hL
  have hc : H[ad b k]? = some (vp_cell (G.2 2) (N, .inl f)) := (show va_at G.1 vwCl (ad b k, .inl (G.2 2, N, .inl f)) H by rw [← he]; exact hRp.2.2 k hk.1 hk.2)
  have hin := iI_in hi hN
  have hcl : (iI i).toNatClampNeg = i.toNat := iI_cl (by omega)
  have hnar : narrow .char (.int (iI v)) = .int (iI v) := by
    have h9 := (pk_charN (q := v.toNat) (by omega)).1
    rw [iI_nI, show ((v.toNat : Nat) : Int) = v by omega] at h9
    exact h9
  refine W.cast hx hb hc ((hK.1.2 2 _ rfl).1 N (fun j => .int (f j))) (fun q => by cases q) (by show ¬ (iI i < 0 ∨ (arrV _ _ _).slots.size ≤ _); rw [arrV_size]; exact hin) rfl rfl d fun H1 e z oq => ?_
  refine kk H1 _ ls (hRp.set hk ?_ z oq) (hS.put z oq (ad_ge b k)) hL
  show H1[ad b k]? = some (vp_cell _ _)
  rw [e]
  rw [vp_cell_i, vp_cell_i, arrV_store]
  congr 2
  funext q
  rw [hcl]
  by_cases hq : q = i.toNat
  · subst hq
    simp [updV, upd, hnar]
  · simp [updV, upd, hq]
theorem y_aast (ty : Nat) (hB : Bx x G b own cc nL ret rm nm) {k i v : Int} {N ci : Nat} {f : Nat → Option Nat} {vs : List Value} (hk : 0 ≤ k ∧ k < n) (he : w k = .inl (G.2 ty, N, .inr (.inr (.inr (.inr f))))) (hv : 0 ≤ v ∧ v < n) (hv2 : w v = .inr (ci, vs)) (hty : (ty = 3 ∧ ci = 2) ∨ (ty = 4 ∧ ci = 0)) (hi : 0 ≤ i ∧ i < N) (hN : N < 2147483648) (d : decode cc pc = .ok (.aastore, 1))
    (kk : Y x G b cl sl n (upW w k (.inl (G.2 ty, N, .inr (.inr (.inr (.inr (va_up f i.toNat (some (ad b v))))))))) (pc + 1) lv st) : Y x G b cl sl n w pc lv (.ref (ad b v) :: .int (iI i) :: .ref (ad b k) :: st) := by
  obtain ⟨hx, hb, hml, hown, hts, hK, hbs, hlk, hrt, hR, hnm⟩ := hB
  intro H locs ls hRp hS hL
  have hc : H[ad b k]? = some (vp_cell (G.2 ty) (N, .inr (.inr (.inr (.inr f))))) := (show va_at G.1 vwCl (ad b k, .inl (G.2 ty, N, .inr (.inr (.inr (.inr f))))) H by rw [← he]; exact hRp.2.2 k hk.1 hk.2)
  have hin := iI_in hi hN
  have hcl : (iI i).toNatClampNeg = i.toNat := iI_cl (by omega)
  have hlt : (iI i).toNatClampNeg < N := by rw [hcl]; omega
  have h0 : ¬ iI i < 0 := fun q => hin (Or.inl q)
  obtain ⟨r', hr', cellV, g1, g2, g3, -⟩ := (show va_at G.1 vwCl (ad b v, .inr (ci, vs)) H by rw [← hv2]; exact hRp.2.2 v hv.1 hv.2)
  have key : ∀ (t0 : Nat), (tysG G)[t0]? = some (G.2 ty, .object r'.1) → gW x H locs cl sl (F0 x.2.1.1 pc ls (.ref (ad b v) :: .int (iI i) :: .ref (ad b k) :: st)) := by
    intro t0 ht
    have hcls := (hK.1.1 ci r' hr').2
    obtain ⟨kA, comp, k1, k2, k3, -⟩ := (hK.1.2 t0 _ ht).2
    have hcomp : comp = G.1.1 ci := Option.some.inj (k3.symm.trans hcls.1)
    subst hcomp
    obtain ⟨kC, hkC, -⟩ := hcls.2
    refine W.aast hx hb hc (fun q h => by cases h) (fun h => by cases h) k1 k2 rfl hkC ⟨h0, by show _ < (arrV _ _ _).slots.size; rw [arrV_size]; exact hlt⟩ g1 (fun q h => by rw [g3] at h; cases h) (by rw [g2]; exact hkC) (by rw [g2]; exact va_assign hcls) rfl rfl d fun H1 e z oq => ?_
    refine kk H1 _ ls (hRp.set hk ?_ z oq) (hS.put z oq (ad_ge b k)) hL
    show H1[ad b k]? = some (vp_cell _ _)
    rw [e]
    rw [vp_cell_q, vp_cell_q, arrV_store]
    congr 2
    funext q
    rw [hcl]
    by_cases hq : q = i.toNat
    · subst hq
      simp [updV, va_up, va_rf]
    · simp [updV, va_up, hq]
  rcases hty with ⟨rfl, rfl⟩ | ⟨rfl, rfl⟩
  · cases hr'
    exact key 3 rfl
  · cases hr'
    exact key 4 rfl
/-- System.arraycopy between int arrays -/
theorem y_copyi (hB : Bx x G b own cc nL ret rm nm) {index : Nat} {k0 k1 sp dp m : Int} {n0 n1 : Nat} {f g : Nat → Int32} (hk0 : 0 ≤ k0 ∧ k0 < n) (hk1 : 0 ≤ k1 ∧ k1 < n) (he0 : w k0 = .inl (G.2 0, n0, .inl f)) (he1 : w k1 = .inl (G.2 0, n1, .inl g)) (h1 : 0 ≤ sp ∧ 0 ≤ dp ∧ 0 ≤ m) (h4 : sp + m ≤ n0) (h5 : dp + m ≤ n1) (h0 : n0 < 2147483648) (h9 : n1 < 2147483648)
    (q1 : (.methodLink own index arraycopyName : Cond) ∈ lw_g) (q2 : (.native arraycopyName : Cond) ∈ lw_g) (q3 : (.static arraycopyName : Cond) ∈ lw_g) (q4 : (.initialized "java/lang/System" : Cond) ∈ lw_g) (hfr : 1 ≤ rm.frames) (hlo : (st.map fun v => v.category).sum + (nativeFrameWords "java/lang/System" "arraycopy" 5 + 11) ≤ rm.locals) (d : decode cc pc = .ok (.invokestatic index, 3))
    (kk : Y x G b cl sl n (upW w k1 (.inl (G.2 0, n1, .inl (va_cpy f g sp.toNat dp.toNat m.toNat)))) (pc + 3) lv st) : Y x G b cl sl n w pc lv (.int (iI m) :: .int (iI dp) :: .ref (ad b k1) :: .int (iI sp) :: .ref (ad b k0) :: st) := by
  obtain ⟨hx, hb, hml, hown, hts, hK, hbs, hlk, hrt, hR, hnm⟩ := hB
  subst hR
  intro H locs ls hRp hS hL T hT X
  have hc0 : H[ad b k0]? = some (vp_cell (G.2 0) (n0, .inl f)) := (show va_at G.1 vwCl (ad b k0, .inl (G.2 0, n0, .inl f)) H by rw [← he0]; exact hRp.2.2 k0 hk0.1 hk0.2)
  have hc1 : H[ad b k1]? = some (vp_cell (G.2 0) (n1, .inl g)) := (show va_at G.1 vwCl (ad b k1, .inl (G.2 0, n1, .inl g)) H by rw [← he1]; exact hRp.2.2 k1 hk1.1 hk1.2)
  obtain ⟨-, k0', hk0', cm0, hkk0⟩ := (hK.1.2 0 _ rfl).1 n0 (fun j => .int (f j))
  obtain ⟨-, k1', hk1', cm1, hkk1⟩ := (hK.1.2 0 _ rfl).1 n1 (fun j => .int (g j))
  have cs := iI_cl (u := sp) (by omega)
  have cd := iI_cl (u := dp) (by omega)
  have cm := iI_cl (u := m) (by omega)
  have hneg : ∀ u : Int, 0 ≤ u → u ≤ 2147483647 → ¬ iI u < 0 := fun u h2 h3 h => by
    have := (iI_lt (u := u) (v := 0) (by omega) (by omega)).mp (by rw [iI_0]; exact h)
    omega
  obtain ⟨vm', X', step⟩ := X.arraycopy hx hown (hts _ q1) (hts _ q2) (hts _ q3) (hts _ q4) (src := ad b k0) (dst := ad b k1) (cs := vp_cell (G.2 0) (n0, .inl f)) (cd := vp_cell (G.2 0) (n1, .inl g)) (srcPos := iI sp) (destPos := iI dp) (n := iI m) (by rw [hT]; exact hc0) (by rw [hT]; exact hc1)
    (fun _ h => by cases h) (fun _ h => by cases h) (fun h => by cases h) (fun h => by cases h) hk0' hk1' hkk0 hkk1 (by simp [refKind]) (hneg _ h1.1 (by omega)) (hneg _ h1.2.1 (by omega)) (hneg _ h1.2.2 (by omega))
    (by rw [iI_toInt (by omega), iI_toInt (by omega)]; show ¬ _ > ((arrV (G.2 0) n0 (fun j => .int (f j))).slots.size : Int); rw [arrV_size]; omega)
    (by rw [iI_toInt (by omega), iI_toInt (by omega)]; show ¬ _ > ((arrV (G.2 0) n1 (fun j => .int (g j))).slots.size : Int); rw [arrV_size]; omega)
    (fun vm₁ _ i hi => by
      have e : (vp_cell (G.2 0) (n0, .inl f)).slots.getD ((iI sp).toNatClampNeg + i) .null = .int (f ((iI sp).toNatClampNeg + i)) := by
        show (arrV (G.2 0) n0 (fun j => .int (f j))).slots.getD _ _ = _
        rw [Array.getD_eq_getD_getElem?, arrV_read _ _ (by rw [cm] at hi; rw [cs]; omega)]
        rfl
      refine ⟨?_, ?_⟩
      · rw [e]
        rfl
      · rw [e]
        exact trivial)
    (g := F0 x.2.1.1 pc ls (.int (iI m) :: .int (iI dp) :: .ref (ad b k1) :: .int (iI sp) :: .ref (ad b k0) :: st)) rfl (by rw [hL.1]) (rest := st) rfl (by rw [hb]; exact d) hfr (by show 2 * 0 + _ + _ ≤ _; omega)
  have e1 : copied (vp_cell (G.2 0) (n0, .inl f)) (vp_cell (G.2 0) (n1, .inl g)) (iI sp) (iI dp) (iI m) = vp_cell (G.2 0) (n1, .inl (va_cpy f g (iI sp).toNatClampNeg (iI dp).toNatClampNeg (iI m).toNatClampNeg)) := va_copied (fun z => .int z) (G.2 0) (G.2 0) f g (by rw [cs, cm]; omega)
  rw [e1, cs, cd, cm] at X'
  rw [e1, cs, cd, cm] at step
  have hl : ad b k1 < H.size := (Array.getElem?_eq_some_iff.mp hc1).1
  have hheap : ((T.setVm vm').setCell (ad b k1) (vp_cell (G.2 0) (n1, .inl (va_cpy f g sp.toNat dp.toNat m.toNat)))).heap = H.setIfInBounds (ad b k1) (vp_cell (G.2 0) (n1, .inl (va_cpy f g sp.toNat dp.toNat m.toNat))) := by rw [← hT]; rfl
  have oq : ∀ q : Nat, q ≠ ad b k1 → (H.setIfInBounds (ad b k1) (vp_cell (G.2 0) (n1, .inl (va_cpy f g sp.toNat dp.toNat m.toNat))))[q]? = H[q]? := fun q hq => by simp [Array.getElem?_setIfInBounds, Ne.symm hq]
  obtain ⟨t, a1, b1⟩ := kk _ _ ls (hRp.set hk1 (show (H.setIfInBounds (ad b k1) _)[ad b k1]? = some _ by simp [Array.getElem?_setIfInBounds, hl]) (by simp) oq) ⟨by simp; exact hS.1, fun q g1 g2 => by
      rw [oq q (fun e => g2 (by rw [e]; exact ad_ge b k1))]
      exact hS.2.1 q g1 g2, fun q hq => by
      rcases List.mem_append.mp hq with h | h
      · exact hS.2.2 q h
      · obtain ⟨z, -, hz⟩ := List.mem_map.mp h
        rw [← hz]
        exact ad_ge b k1⟩ hL _ hheap X'
  exact ⟨t, step t a1, b1⟩
/-- making -/
theorem y_new (hB : Bx x G b own cc nL ret rm nm) {C : String} {T : u_T} {N ci index : Nat} (ty : Nat → FieldType) (hty : ∀ k, k < N → parseFieldDescriptor (T k).2.2.1 = some (ty k)) (hin : ∀ w ∈ u_ws C T N, w ∈ lw_g) (q1 : (.classLink own index C : Cond) ∈ lw_g) (q2 : (.instantiable C N : Cond) ∈ lw_g) (q3 : (.initialized C : Cond) ∈ lw_g) (hc : vwCl[ci]? = some (C, T, N)) {fs : List Value} (hfs : ∀ j, j < N → defaultValue (ty j) = vp_V fs j) (hcells : cl + 1 ≤ rm.cells) (hslots : sl + N ≤ rm.slots) (d : decode cc pc = .ok (.new index, 3))
    (kk : Y x G b (cl + 1) (sl + N) (n + 1) (upW w n (.inr (ci, fs))) (pc + 3) lv (.ref (ad b n) :: st)) : Y x G b cl sl n w pc lv st := by
  obtain ⟨hx, hb, hml, hown, hts, hK, hbs, hlk, hrt, hR, hnm⟩ := hB
  subst hR
  intro H locs ls hRp hS hL
  have hKn := hK.1.1 ci _ hc
  refine W.newcK hx hb hown (hts _ q1) (hts _ q2) (hts _ q3) rfl d hcells hslots hKn.2.1 hRp.2.1 fun H1 kC hkC e1 z1 o1 => ?_
  rw [← hRp.2.1] at z1 o1
  exact kk H1 locs ls (hRp.push ⟨_, hc, (u_born ty hts hin hKn hkC e1 hty).to hfs⟩ z1 o1) ⟨Nat.le_trans hS.1 (by omega), fun x h1 h2 => (o1 x (Nat.lt_of_lt_of_le h1 hS.1)).trans (hS.2.1 x h1 h2), hS.2.2⟩ hL
theorem y_newa (ty : Nat) (hB : Bx x G b own cc nL ret rm nm) {atype : ArrayType} {m : Int} {N : Nat} (hty : (ty = 0 ∧ atype = .int) ∨ (ty = 2 ∧ atype = .char)) (q1 : (.arrayClass (newarray.typeOf atype) : Cond) ∈ lw_g) (hm : m = (N : Int)) (hN : N < 10000) (hcells : cl + 1 ≤ rm.cells) (hslots : sl + N ≤ rm.slots) (d : decode cc pc = .ok (.newarray atype, 2))
    (kk : Y x G b (cl + 1) (sl + N) (n + 1) (upW w n (.inl (G.2 ty, N, .inl (fun _ => iI 0)))) (pc + 2) lv (.ref (ad b n) :: st)) : Y x G b cl sl n w pc lv (.int (iI m) :: st) := by
  obtain ⟨hx, hb, hml, hown, hts, hK, hbs, hlk, hrt, hR, hnm⟩ := hB
  subst hR
  intro H locs ls hRp hS hL
  have hneg : ¬ iI m < 0 := fun h => by
    have := (iI_lt (u := m) (v := 0) (by omega) (by omega)).mp (by rw [iI_0]; exact h)
    omega
  have hcl : (iI m).toNatClampNeg = N := by rw [iI_cl (by omega)]; omega
  refine va_newaK hx hb (hts _ q1) rfl d rfl hneg hcl (by rcases hty with ⟨-, rfl⟩ | ⟨-, rfl⟩ <;> (simp [newarray.typeOf, componentBytes]; omega)) hcells hslots hRp.2.1 fun H1 cA e1 z1 o1 hAr hNm => ?_
  rw [← hRp.2.1] at z1 o1
  have hcA : cA = G.2 ty := by
    rcases hty with ⟨rfl, rfl⟩ | ⟨rfl, rfl⟩
    · exact Option.some.inj (hNm.symm.trans (hK.1.2 0 _ rfl).2)
    · exact Option.some.inj (hNm.symm.trans (hK.1.2 2 _ rfl).2)
  subst hcA
  refine kk H1 locs ls (hRp.push ?_ z1 o1) ⟨Nat.le_trans hS.1 (by omega), fun x h1 h2 => (o1 x (Nat.lt_of_lt_of_le h1 hS.1)).trans (hS.2.1 x h1 h2), hS.2.2⟩ hL
  show H1[ad b n]? = some (vp_cell _ _)
  rw [e1, vp_cell_i]
  rcases hty with ⟨rfl, rfl⟩ | ⟨rfl, rfl⟩ <;> rfl
theorem y_anew (ty : Nat) (hB : Bx x G b own cc nL ret rm nm) {C : String} {index : Nat} {m : Int} {N : Nat} (hty : (ty = 3 ∧ C = RX2) ∨ (ty = 4 ∧ C = RX0)) (q1 : (.classLink own index C : Cond) ∈ lw_g) (hm : m = (N : Int)) (hN : N < 10000) (hcells : cl + 1 ≤ rm.cells) (hslots : sl + N ≤ rm.slots) (d : decode cc pc = .ok (.anewarray index, 3))
    (kk : Y x G b (cl + 1) (sl + N) (n + 1) (upW w n (.inl (G.2 ty, N, .inr (.inr (.inr (.inr (fun _ => none))))))) (pc + 3) lv (.ref (ad b n) :: st)) : Y x G b cl sl n w pc lv (.int (iI m) :: st) := by
  obtain ⟨hx, hb, hml, hown, hts, hK, hbs, hlk, hrt, hR, hnm⟩ := hB
  subst hR
  intro H locs ls hRp hS hL
  have hneg : ¬ iI m < 0 := fun h => by
    have := (iI_lt (u := m) (v := 0) (by omega) (by omega)).mp (by rw [iI_0]; exact h)
    omega
  have hcl : (iI m).toNatClampNeg = N := by rw [iI_cl (by omega)]; omega
  subst hcl
  have hover : va_AO C (gs x) := by
    rcases hty with ⟨-, rfl⟩ | ⟨-, rfl⟩
    · exact hK.2.1
    · exact hK.2.2.1
  refine W.anew hx hb hown (hts _ q1) (va_AO.use hover) rfl d rfl hneg (by omega) hcells hslots fun cA kA comp f1 f2 f3 f4 => ?_
  generalize hH1 : H.push ({ cls := cA, slots := Array.replicate (iI m).toNatClampNeg .null, vm := .none } : Cell) = H1
  have z1 : H1.size = H.size + 1 := by rw [← hH1, Array.size_push]
  have e1 : H1[H.size]? = some (arrV cA (iI m).toNatClampNeg (fun _ => .null)) := by rw [← hH1, Array.getElem?_push_size, ← arrV_new]
  have o1 : ∀ q : Nat, q < H.size → H1[q]? = H[q]? := fun q hq => by rw [← hH1, Array.getElem?_push, if_neg (Nat.ne_of_lt hq)]
  have hcA : cA = G.2 ty := by
    rcases hty with ⟨rfl, rfl⟩ | ⟨rfl, rfl⟩
    · obtain ⟨_, _, -, -, -, g4⟩ := (hK.1.2 3 _ rfl).2
      exact Option.some.inj (f1.symm.trans g4)
    · obtain ⟨_, _, -, -, -, g4⟩ := (hK.1.2 4 _ rfl).2
      exact Option.some.inj (f1.symm.trans g4)
  subst hcA
  have hsz := hRp.2.1
  show gW x H1 locs (cl + 1) (sl + (iI m).toNatClampNeg) (F0 x.2.1.1 (pc + 3) ls (.ref H.size :: st))
  rw [hsz]
  rw [hsz] at e1
  refine kk H1 locs ls (hRp.push ?_ z1 o1) ⟨Nat.le_trans hS.1 (by omega), fun x h1 h2 => (o1 x (Nat.lt_of_lt_of_le h1 hS.1)).trans (hS.2.1 x h1 h2), hS.2.2⟩ hL
  show H1[ad b n]? = some (vp_cell _ _)
  rw [e1, vp_cell_q]
  rfl
theorem y_objInit (hB : Bx x G b own cc nL ret rm nm) {index : Nat} {v : Nat} (q1 : (.methodLink own index objectInit : Cond) ∈ lw_g) (q2 : (.instanceMethod objectInit : Cond) ∈ lw_g) (q3 : (.code objectInit ⟨#[0xb1]⟩ 1 none : Cond) ∈ lw_g) (d : decode cc pc = .ok (.invokespecial index, 3)) (hfr : 1 ≤ rm.frames) (hlo : (st.map fun v => v.category).sum + 12 ≤ rm.locals)
    (kk : Y x G b cl sl n w (pc + 3) lv st) : Y x G b cl sl n w pc lv (.ref v :: st) := by
  obtain ⟨hx, hb, hml, hown, hts, hK, hbs, hlk, hrt, hR, hnm⟩ := hB
  subst hR
  intro H locs ls hRp hS hL
  exact W.objInit hx hb hown (hts _ q1) (hts _ q2) (hts _ q3) rfl hL.1 rfl d hfr (by show 2 * 0 + _ + 12 ≤ _; omega) (kk H locs ls hRp hS hL)
end
/-- the field words of the classes -/
theorem inX0 : ∀ w ∈ u_ws RX0 TX0 7, w ∈ lw_g := by decide +kernel
theorem inX1 : ∀ w ∈ u_ws RX1 TX1 3, w ∈ lw_g := by decide +kernel
theorem inX2 : ∀ w ∈ u_ws RX2 TX2 10, w ∈ lw_g := by decide +kernel
theorem inX3 : ∀ w ∈ u_ws RX3 TX3 4, w ∈ lw_g := by decide +kernel
theorem inX4 : ∀ w ∈ u_ws RX4 TX4 5, w ∈ lw_g := by decide +kernel
theorem inX5 : ∀ w ∈ u_ws RX5 TX5 3, w ∈ lw_g := by decide +kernel
theorem inX6 : ∀ w ∈ u_ws RX6 TX6 7, w ∈ lw_g := by decide +kernel
