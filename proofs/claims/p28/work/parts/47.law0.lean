/-! the law's own rows: shifts, the script -/
theorem shr_4 {c : Int} (h : 0 ≤ c ∧ c ≤ 2147483647) : (iI c) >>> ((iI 4) &&& 31) = iI (c / 16) := iI_shr h 4 4 (by decide)
theorem shr_7 {c : Int} (h : 0 ≤ c ∧ c ≤ 2147483647) : (iI c) >>> ((iI 7) &&& 31) = iI (c / 128) := iI_shr h 7 7 (by decide)
theorem shr_9 {c : Int} (h : 0 ≤ c ∧ c ≤ 2147483647) : (iI c) >>> ((iI 9) &&& 31) = iI (c / 512) := iI_shr h 9 9 (by decide)
theorem shr_12 {c : Int} (h : 0 ≤ c ∧ c ≤ 2147483647) : (iI c) >>> ((iI 12) &&& 31) = iI (c / 4096) := iI_shr h 12 12 (by decide)
theorem shr_20 {c : Int} (h : 0 ≤ c ∧ c ≤ 2147483647) : (iI c) >>> ((iI 20) &&& 31) = iI (c / 1048576) := iI_shr h 20 20 (by decide)
def m31 (x : Int32) : Int := ((x.toBitVec.toNat % 2147483648 : Nat) : Int)
theorem and31 (x : Int32) : x &&& (iI 2147483647) = iI (m31 x) := by
  rw [pk_and x (m := iI 2147483647) 31 (by decide), iI_nI]
  rfl
theorem m31_b (x : Int32) : 0 ≤ m31 x ∧ m31 x ≤ 2147483647 := by
  unfold m31
  omega
theorem mod_b (c : Int) {m : Int} (h : 0 < m) : 0 ≤ c % m ∧ c % m < m := ⟨Int.emod_nonneg _ (by omega), Int.emod_lt_of_pos _ h⟩
/-- the script, as it stands in any state behind the law's start -/
def SX (b sb L : Nat) (xs : Nat → Int32) (U : State) : Prop := va_X sb L xs U U.heap ∧ sb < U.heap.size ∧ sb < b
theorem SX_call {b sb L : Nat} {xs : Nat → Int32} (U : State) (g : JFrame) (mk : MethodId) (a : Array Value) (h : SX b sb L xs U) : SX b sb L xs (U.calling g mk a) := h
theorem SX_warm {b sb L : Nat} {xs : Nat → Int32} {s : State} (h : SX b sb L xs s) (H : Heap) (locs : List Loc) (U : State) (hS : va_S (fun q => b ≤ q) s.heap H locs) (hU : U.heap = H) (hW : s.WarmedH U.vm) : SX b sb L xs U := by
  subst hU
  obtain ⟨h1, h2, h3⟩ := h
  exact ⟨(h1.moved hW.alike).kept (hS.2.1 sb h2 (by omega)), Nat.lt_of_lt_of_le h2 hS.1, h3⟩
section
variable {x : gX} {G : gG} {b cl sl nL : Nat} {own nm : String} {cc : ByteArray} {ret : Option FieldType} {rm : Room} {n : Int} {w : Int → va_E} {pc : Nat} {lv : List (Nat × Value)} {st stk : List Value}
theorem y_ldci (hB : Bx x G b own cc nL ret rm nm) {index : Nat} {v : Int32} (hq : (.constant own index v : Cond) ∈ lw_g) (d : decode cc pc = .ok (.ldc index, 2)) (kk : Y x G b cl sl n w (pc + 2) lv (.int v :: st)) : Y x G b cl sl n w pc lv st := by
  obtain ⟨hx, hb, hml, hown, hts, hK, hbs, hlk, hrt, hR, hnm⟩ := hB
  intro H locs ls hRp hS hL
  exact lv_ldc hx hb hown (hts _ hq) d (kk H locs ls hRp hS hL)
/-- an int of the script -/
theorem y_scr (hB : Bx x G b own cc nL ret rm nm) {a L : Nat} {xs : Nat → Int32} (hX : SX b a L xs (gs x)) {i u : Int} (hi : 0 ≤ i ∧ i < L) (hL : L ≤ 260) (he : (xs i.toNat).toInt = u) (d : decode cc pc = .ok (.iaload, 1)) (kk : Y x G b cl sl n w (pc + 1) lv (.int (iI u) :: st)) : Y x G b cl sl n w pc lv (.int (iI i) :: .ref a :: st) := by
  obtain ⟨hx, hb, hml, hown, hts, hK, hbs, hlk, hrt, hR, hnm⟩ := hB
  intro H locs ls hRp hS hL2
  refine va_sld hx hb hX.1 hX.2.1 (fun z => by have := hX.2.2; omega) hS (iI_in hi (by omega)) d ?_
  rw [iI_cl (by omega), iI_of (xs i.toNat), he]
  exact kk H locs ls hRp hS hL2
theorem y_scl (hB : Bx x G b own cc nL ret rm nm) {a L : Nat} {xs : Nat → Int32} (hX : SX b a L xs (gs x)) (d : decode cc pc = .ok (.arraylength, 1)) (kk : Y x G b cl sl n w (pc + 1) lv (.int (iI (L : Int)) :: st)) : Y x G b cl sl n w pc lv (.ref a :: st) := by
  obtain ⟨hx, hb, hml, hown, hts, hK, hbs, hlk, hrt, hR, hnm⟩ := hB
  intro H locs ls hRp hS hL2
  exact va_slen hx hb hX.1 hX.2.1 (fun z => by have := hX.2.2; omega) hS d (kk H locs ls hRp hS hL2)
variable {C S : gM} {y : MethodName} {cc' : ByteArray} {nL' na index : Nat} {ret' : Option FieldType} {rm' : Room} {Po : gP} {K : State → Prop}
theorem m_VK (hB : Bx x G b own cc nL ret rm nm) (hM : Ms y cc' nL' ret' na) (q1 : (.methodLink own index y : Cond) ∈ lw_g) {k : Int} {As : List Value} (hC : CtK x.1.2.1 G b K y cc' nL' ret' rm' (.ref (ad b k) :: As) 578 (wM G b C S) Po)
    (hKb : ∀ (U : State) (g : JFrame) (mk : MethodId) (a : Array Value), K U → K (U.calling g mk a)) (hKs : ∀ (H : Heap) (locs : List Loc) (U : State), va_S (fun q => b ≤ q) (gs x).heap H locs → U.heap = H → (gs x).WarmedH U.vm → K U)
    {t ci : Nat} {fs : List Value} {qq : vw_C} (hk : kd k = t) (ht : t ≠ 99) (hw : wS G b t k (C k) (S k) = .inr (ci, fs)) (hc : vwCl[ci]? = some qq) (hcn : qq.1 = y.cls) (hn : As.length = na) (hst : stk = As.reverse ++ .ref (ad b k) :: st) (hR0 : rm'.frames + 1 ≤ rm.frames ∧ 8 + (nL' + 11) + rm'.locals ≤ rm.locals) (hrs : (st.map fun v => v.category).sum ≤ 8) (hz : rm'.cells = 0 ∧ rm'.slots = 0) (hcl : cl ≤ rm.cells ∧ sl ≤ rm.slots) (d : decode cc pc = .ok (.invokevirtual index, 3))
    (kk : ∀ (r : Option Value) (n' : Int) (w' : Int → va_E), Po r n' w' → Y x G b cl sl n' w' (pc + 3) lv (r.toList ++ st)) : YM x G b cl sl C S pc lv stk := by
  obtain ⟨z1, z2⟩ := hz
  exact y_callVK hB hM q1 hC hKb hKs (kd_rng hk ht) ((wM_at hk).trans hw) hc hcn hn hst hR0 hrs (by rw [z1, z2]; exact hcl) d (by rw [z1, z2]; exact kk)
theorem m_SK (hB : Bx x G b own cc nL ret rm nm) (hM : Mt y cc' nL' ret' na) (q1 : (.methodLink own index y : Cond) ∈ lw_g) {As : List Value} (hC : CtK x.1.2.1 G b K y cc' nL' ret' rm' As 578 (wM G b C S) Po)
    (hKb : ∀ (U : State) (g : JFrame) (mk : MethodId) (a : Array Value), K U → K (U.calling g mk a)) (hKs : ∀ (H : Heap) (locs : List Loc) (U : State), va_S (fun q => b ≤ q) (gs x).heap H locs → U.heap = H → (gs x).WarmedH U.vm → K U)
    (hn : As.length = na) (hst : stk = As.reverse ++ st) (hR0 : rm'.frames + 1 ≤ rm.frames ∧ 8 + (nL' + 11) + rm'.locals ≤ rm.locals) (hrs : (st.map fun v => v.category).sum ≤ 8) (hz : rm'.cells = 0 ∧ rm'.slots = 0) (hcl : cl ≤ rm.cells ∧ sl ≤ rm.slots) (d : decode cc pc = .ok (.invokestatic index, 3))
    (kk : ∀ (r : Option Value) (n' : Int) (w' : Int → va_E), Po r n' w' → Y x G b cl sl n' w' (pc + 3) lv (r.toList ++ st)) : YM x G b cl sl C S pc lv stk := by
  obtain ⟨z1, z2⟩ := hz
  exact y_callSK hB hM q1 hC hKb hKs hn hst hR0 hrs (by rw [z1, z2]; exact hcl) d (by rw [z1, z2]; exact kk)
end
