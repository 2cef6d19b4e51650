/-! calls -/
def Ms (y : MethodName) (cc : ByteArray) (nL : Nat) (ret : Option FieldType) (na : Nat) : Prop := (.code y cc nL ret : Cond) ∈ lw_g ∧ (.instanceMethod y : Cond) ∈ lw_g ∧ (.selects y.cls y y : Cond) ∈ lw_g ∧ (.initialized y.cls : Cond) ∈ lw_g ∧ y.cls ≠ "java/lang/invoke/MethodHandle" ∧ y.cls ≠ "java/lang/invoke/VarHandle" ∧ (parseMethodDescriptor y.desc).map (fun d => d.parameters.length) = some na
def Mt (y : MethodName) (cc : ByteArray) (nL : Nat) (ret : Option FieldType) (na : Nat) : Prop := (.code y cc nL ret : Cond) ∈ lw_g ∧ (.static y : Cond) ∈ lw_g ∧ (.initialized y.cls : Cond) ∈ lw_g ∧ y.cls ≠ "java/lang/invoke/MethodHandle" ∧ y.cls ≠ "java/lang/invoke/VarHandle" ∧ (parseMethodDescriptor y.desc).map (fun d => d.parameters.length) = some na
def Mi (y : MethodName) (cc : ByteArray) (nL : Nat) (na : Nat) : Prop := (.code y cc nL none : Cond) ∈ lw_g ∧ (.instanceMethod y : Cond) ∈ lw_g ∧ (.initialized y.cls : Cond) ∈ lw_g ∧ y.cls ≠ "java/lang/invoke/MethodHandle" ∧ y.cls ≠ "java/lang/invoke/VarHandle" ∧ (parseMethodDescriptor y.desc).map (fun d => d.parameters.length) = some na ∧ y.name = "<init>"
theorem good_g {w : Cond} (h : w ∈ lw_g) : (w.onTables && w.keeps) = true ∨ ∃ ty, w = .arrayClass ty := good_of_word (List.mem_filter.mp h).2
theorem gd_app {a c : List Cond} (ha : ∀ w ∈ a, w ∈ lw_g) (hc : GoodIn lw_g c) : GoodIn lw_g (a ++ c) := fun w h => (List.mem_append.mp h).elim (fun h => ⟨ha w h, good_g (ha w h)⟩) (hc w)
section
variable {x : gX} {G : gG} {b cl sl nL : Nat} {own nm : String} {cc : ByteArray} {ret : Option FieldType} {rm : Room} {n : Int} {w : Int → va_E} {pc : Nat} {lv : List (Nat × Value)} {st stk : List Value}
variable {y : MethodName} {cc' : ByteArray} {nL' na index : Nat} {ret' : Option FieldType} {rm' : Room} {K : State → Prop} {av : List Value} {Po : gP}
/-- behind a call -/
theorem y_back {Qa : Array Value} (kk : ∀ (r : Option Value) (n' : Int) (w' : Int → va_E), Po r n' w' → Y x G b (cl + rm'.cells) (sl + rm'.slots) n' w' (pc + 3) lv (r.toList ++ st)) {H : Heap} {locs : List Loc} {ls : Array Slot} (hS : va_S (fun q => b ≤ q) (gs x).heap H locs) (hL : lv_has ls (gc x).maxLocals lv)
    (hr : va_Run x.1.1 x.1.2.1 x.1.2.2.1 x.1.2.2.2.1 (gs x) x.2.1.1 x.2.1.2.1 x.2.1.2.2.1 x.2.1.2.2.2.1 (gc x) H locs cl sl rm'.cells rm'.slots (F0 x.2.1.1 pc ls stk) st (Qx G b Po Qa) (fun q => b ≤ q)) : gW x H locs cl sl (F0 x.2.1.1 pc ls stk) := by
  intro T hT X
  obtain ⟨v, st₀, t, T', L, h0, X', hL9, e1, e2, ⟨r, n', w', hv, hp, hRp, hz, hk⟩, stp⟩ := hr T hT X
  cases hv
  rw [h0] at hz hk
  obtain ⟨t2, a1, b1⟩ := kk _ n' w' hp T'.heap (locs ++ L) ls (by rw [e1]; exact hRp)
    ⟨Nat.le_trans hS.1 (by rw [e1]; exact hz), fun q h1 h2 => by rw [e1, hk q (Nat.lt_of_lt_of_le h1 hS.1) h2]; exact hS.2.1 q h1 h2, fun q hq => by
      rcases List.mem_append.mp hq with h | h
      · exact hS.2.2 q h
      · exact hL9 q h⟩ hL T' rfl X'
  exact ⟨t2, stp t2 a1, b1⟩
theorem y_callVK (hB : Bx x G b own cc nL ret rm nm) (hM : Ms y cc' nL' ret' na) (q1 : (.methodLink own index y : Cond) ∈ lw_g) {k : Int} {As : List Value} (hC : CtK x.1.2.1 G b K y cc' nL' ret' rm' (.ref (ad b k) :: As) n w Po)
    (hKb : ∀ (U : State) (g : JFrame) (mk : MethodId) (a : Array Value), K U → K (U.calling g mk a)) (hKs : ∀ (H : Heap) (locs : List Loc) (U : State), va_S (fun q => b ≤ q) (gs x).heap H locs → U.heap = H → (gs x).WarmedH U.vm → K U)
    (hk : 0 ≤ k ∧ k < n) {ci : Nat} {fs : List Value} {qq : vw_C} (hw : w k = .inr (ci, fs)) (hc : vwCl[ci]? = some qq) (hcn : qq.1 = y.cls) (hn : As.length = na) (hst : stk = As.reverse ++ .ref (ad b k) :: st) (hR0 : rm'.frames + 1 ≤ rm.frames ∧ 8 + (nL' + 11) + rm'.locals ≤ rm.locals) (hrs : (st.map fun v => v.category).sum ≤ 8) (hcl : cl + rm'.cells ≤ rm.cells ∧ sl + rm'.slots ≤ rm.slots) (d : decode cc pc = .ok (.invokevirtual index, 3))
    (kk : ∀ (r : Option Value) (n' : Int) (w' : Int → va_E), Po r n' w' → Y x G b (cl + rm'.cells) (sl + rm'.slots) n' w' (pc + 3) lv (r.toList ++ st)) : Y x G b cl sl n w pc lv stk := by
  obtain ⟨hx, hb, hml, hown, hts, hK, hbs, hlk, hrt, hR, hnm⟩ := hB
  obtain ⟨m1, m2, m3, m4, m5, m6, m7⟩ := hM
  subst hR
  intro H locs ls hRp hS hL
  have hrec := hRp.recv hK hk hw hc
  rw [hcn] at hrec
  refine y_back kk hS hL (va_runV (C := y.cls) (n := na) (nL := nL) ⟨hx, hb, hml, hown, hts⟩ hC (cwV na hts (gd_app (fun w hw => by
    simp only [List.mem_cons, List.not_mem_nil, or_false] at hw
    rcases hw with rfl | rfl | rfl | rfl
    · exact q1
    · exact m2
    · exact m3
    · exact m4) (gd_all m1)) rfl rfl rfl ⟨rfl, m5, m6, m7⟩ hR0) ⟨Px.blind hKb, hrec, fun U hU hW => ⟨rfl, by rw [hU]; exact hRp, hK.warm hW, hKs H locs U hS hU hW⟩⟩ rfl hn (by rw [← hml]; exact hL.1) hst (by show 2 * 0 + _ ≤ 8; omega) d hcl)
theorem y_callSK (hB : Bx x G b own cc nL ret rm nm) (hM : Mt y cc' nL' ret' na) (q1 : (.methodLink own index y : Cond) ∈ lw_g) {As : List Value} (hC : CtK x.1.2.1 G b K y cc' nL' ret' rm' As n w Po)
    (hKb : ∀ (U : State) (g : JFrame) (mk : MethodId) (a : Array Value), K U → K (U.calling g mk a)) (hKs : ∀ (H : Heap) (locs : List Loc) (U : State), va_S (fun q => b ≤ q) (gs x).heap H locs → U.heap = H → (gs x).WarmedH U.vm → K U)
    (hn : As.length = na) (hst : stk = As.reverse ++ st) (hR0 : rm'.frames + 1 ≤ rm.frames ∧ 8 + (nL' + 11) + rm'.locals ≤ rm.locals) (hrs : (st.map fun v => v.category).sum ≤ 8) (hcl : cl + rm'.cells ≤ rm.cells ∧ sl + rm'.slots ≤ rm.slots) (d : decode cc pc = .ok (.invokestatic index, 3))
    (kk : ∀ (r : Option Value) (n' : Int) (w' : Int → va_E), Po r n' w' → Y x G b (cl + rm'.cells) (sl + rm'.slots) n' w' (pc + 3) lv (r.toList ++ st)) : Y x G b cl sl n w pc lv stk := by
  obtain ⟨hx, hb, hml, hown, hts, hK, hbs, hlk, hrt, hR, hnm⟩ := hB
  obtain ⟨m1, m2, m4, m5, m6, m7⟩ := hM
  subst hR
  intro H locs ls hRp hS hL
  refine y_back kk hS hL (va_runS (n := na) (nL := nL) ⟨hx, hb, hml, hown, hts⟩ hC (va_cwS na hts (gd_app (fun w hw => by
    simp only [List.mem_cons, List.not_mem_nil, or_false] at hw
    rcases hw with rfl | rfl | rfl
    · exact q1
    · exact m2
    · exact m4) (gd_all m1)) rfl rfl rfl ⟨m5, m6, m7⟩ hR0) ⟨Px.blind hKb, fun U hU hW => ⟨rfl, by rw [hU]; exact hRp, hK.warm hW, hKs H locs U hS hU hW⟩⟩ rfl hn (by rw [← hml]; exact hL.1) hst (by show 2 * 0 + _ ≤ 8; omega) d hcl)
theorem y_callSNK (hB : Bx x G b own cc nL ret rm nm) (hM : Mt y cc' nL' ret' na) {host : String} (q1 : (.methodLinkNest own index y host : Cond) ∈ nestW) {As : List Value} (hC : CtK x.1.2.1 G b K y cc' nL' ret' rm' As n w Po)
    (hKb : ∀ (U : State) (g : JFrame) (mk : MethodId) (a : Array Value), K U → K (U.calling g mk a)) (hKs : ∀ (H : Heap) (locs : List Loc) (U : State), va_S (fun q => b ≤ q) (gs x).heap H locs → U.heap = H → (gs x).WarmedH U.vm → K U)
    (hn : As.length = na) (hst : stk = As.reverse ++ st) (hR0 : rm'.frames + 1 ≤ rm.frames ∧ 8 + (nL' + 11) + rm'.locals ≤ rm.locals) (hrs : (st.map fun v => v.category).sum ≤ 8) (hcl : cl + rm'.cells ≤ rm.cells ∧ sl + rm'.slots ≤ rm.slots) (d : decode cc pc = .ok (.invokestatic index, 3))
    (kk : ∀ (r : Option Value) (n' : Int) (w' : Int → va_E), Po r n' w' → Y x G b (cl + rm'.cells) (sl + rm'.slots) n' w' (pc + 3) lv (r.toList ++ st)) : Y x G b cl sl n w pc lv stk := by
  obtain ⟨hx, hb, hml, hown, hts, hK, hbs, hlk, hrt, hR, hnm⟩ := hB
  obtain ⟨m1, m2, m4, m5, m6, m7⟩ := hM
  subst hR
  intro H locs ls hRp hS hL
  exact y_back kk hS hL (va_runSN (n := na) (nL := nL) (host := host) ⟨hx, hb, hml, hown, hts⟩ hC ⟨va_cnB na hts (gd_all m1) rfl rfl rfl (hK.2.2.2 _ q1) (hts _ m4) ⟨m5, m6, m7⟩ hR0, hts _ m2, trivial⟩ ⟨Px.blind hKb, fun U hU hW => ⟨rfl, by rw [hU]; exact hRp, hK.warm hW, hKs H locs U hS hU hW⟩⟩ rfl hn (by rw [← hml]; exact hL.1) hst (by show 2 * 0 + _ ≤ 8; omega) d hcl)
theorem y_callI (hB : Bx x G b own cc nL ret rm nm) (hM : Mi y cc' nL' na) (q1 : (.methodLink own index y : Cond) ∈ lw_g) {k : Nat} {As : List Value} (hC : Ct x.1.2.1 G b y cc' nL' none rm' (.ref k :: As) n w Po)
    (hn : As.length = na) (hst : stk = As.reverse ++ .ref k :: st) (hR0 : rm'.frames + 1 ≤ rm.frames ∧ 8 + (nL' + 11) + rm'.locals ≤ rm.locals) (hrs : (st.map fun v => v.category).sum ≤ 8) (hcl : cl + rm'.cells ≤ rm.cells ∧ sl + rm'.slots ≤ rm.slots) (d : decode cc pc = .ok (.invokespecial index, 3))
    (kk : ∀ (r : Option Value) (n' : Int) (w' : Int → va_E), Po r n' w' → Y x G b (cl + rm'.cells) (sl + rm'.slots) n' w' (pc + 3) lv (r.toList ++ st)) : Y x G b cl sl n w pc lv stk := by
  obtain ⟨hx, hb, hml, hown, hts, hK, hbs, hlk, hrt, hR, hnm⟩ := hB
  obtain ⟨m1, m2, m4, m5, m6, m7, m8⟩ := hM
  subst hR
  intro H locs ls hRp hS hL
  exact y_back kk hS hL (va_runI (n := na) (nL := nL) ⟨hx, hb, hml, hown, hts⟩ hC (cwI na hts (gd_all m1) rfl rfl rfl (hts _ m4) (hts _ q1) (hts _ m2) m8 ⟨m5, m6, m7⟩ hR0) ⟨Px.blind (fun _ _ _ _ h => h), fun U hU hW => ⟨rfl, by rw [hU]; exact hRp, hK.warm hW, trivial⟩⟩ rfl hn (by rw [← hml]; exact hL.1) hst (by show 2 * 0 + _ ≤ 8; omega) d hcl)
theorem y_callIN (hB : Bx x G b own cc nL ret rm nm) (hM : Mi y cc' nL' na) {host : String} (q1 : (.methodLinkNest own index y host : Cond) ∈ nestW) {k : Nat} {As : List Value} (hC : Ct x.1.2.1 G b y cc' nL' none rm' (.ref k :: As) n w Po)
    (hn : As.length = na) (hst : stk = As.reverse ++ .ref k :: st) (hR0 : rm'.frames + 1 ≤ rm.frames ∧ 8 + (nL' + 11) + rm'.locals ≤ rm.locals) (hrs : (st.map fun v => v.category).sum ≤ 8) (hcl : cl + rm'.cells ≤ rm.cells ∧ sl + rm'.slots ≤ rm.slots) (d : decode cc pc = .ok (.invokespecial index, 3))
    (kk : ∀ (r : Option Value) (n' : Int) (w' : Int → va_E), Po r n' w' → Y x G b (cl + rm'.cells) (sl + rm'.slots) n' w' (pc + 3) lv (r.toList ++ st)) : Y x G b cl sl n w pc lv stk := by
  obtain ⟨hx, hb, hml, hown, hts, hK, hbs, hlk, hrt, hR, hnm⟩ := hB
  obtain ⟨m1, m2, m4, m5, m6, m7, m8⟩ := hM
  subst hR
  intro H locs ls hRp hS hL
  exact y_back kk hS hL (va_runIN (n := na) (nL := nL) (host := host) ⟨hx, hb, hml, hown, hts⟩ hC ⟨va_cnB na hts (gd_all m1) rfl rfl rfl (hK.2.2.2 _ q1) (hts _ m4) ⟨m5, m6, m7⟩ hR0, m8, hts _ m2⟩ ⟨Px.blind (fun _ _ _ _ h => h), fun U hU hW => ⟨rfl, by rw [hU]; exact hRp, hK.warm hW, trivial⟩⟩ rfl hn (by rw [← hml]; exact hL.1) hst (by show 2 * 0 + _ ≤ 8; omega) d hcl)
end
