/-! contracts and calls over the two memories -/
abbrev gM : Type := Int → Int → Int
def RI (G : gG) (b : Nat) (C S : gM) (Q : Int → Prop) : gP := fun r n w => ∃ v : Int, r = some (.int (iI v)) ∧ n = 578 ∧ w = wM G b C S ∧ Q v
def RF (G : gG) (b : Nat) (C S : gM) (Q : UInt32 → Prop) : gP := fun r n w => ∃ v : UInt32, r = some (.float v) ∧ n = 578 ∧ w = wM G b C S ∧ Q v
def RR (G : gG) (b : Nat) (C S : gM) (v : Value) : gP := fun r n w => r = some v ∧ n = 578 ∧ w = wM G b C S
def WI (G : gG) (b : Nat) (S : gM) (Q : Int → gM → Prop) : gP := fun r n w => ∃ (v : Int) (C' : gM), r = some (.int (iI v)) ∧ n = 578 ∧ w = wM G b C' S ∧ Q v C'
def WV (G : gG) (b : Nat) (S : gM) (Q : gM → Prop) : gP := fun r n w => ∃ (C' : gM), r = none ∧ n = 578 ∧ w = wM G b C' S ∧ Q C'
def SI (G : gG) (b : Nat) (C : gM) (Q : Int → gM → Prop) : gP := fun r n w => ∃ (v : Int) (S' : gM), r = some (.int (iI v)) ∧ n = 578 ∧ w = wM G b C S' ∧ Q v S'
def SV (G : gG) (b : Nat) (C : gM) (Q : gM → Prop) : gP := fun r n w => ∃ (S' : gM), r = none ∧ n = 578 ∧ w = wM G b C S' ∧ Q S'
section
variable {x : gX} {G : gG} {b cl sl nL : Nat} {own nm : String} {cc : ByteArray} {ty : FieldType} {rm : Room} {pc : Nat} {lv : List (Nat × Value)} {C S : gM}
theorem m_ri (hB : Bx x G b own cc nL (some ty) rm nm) {Q : Int → Prop} {v : Int} (hE : Ex x G b (RI G b C S Q) cl sl) (d : decode cc pc = .ok (.ireturn, 1)) (hn : narrow ty (.int (iI v)) = .int (iI v)) (hq : Q v) : YM x G b cl sl C S pc lv [.int (iI v)] := y_iret hB hE d hn ⟨v, rfl, rfl, rfl, hq⟩
theorem m_rf (hB : Bx x G b own cc nL (some .float) rm nm) {Q : UInt32 → Prop} {v : UInt32} (hE : Ex x G b (RF G b C S Q) cl sl) (d : decode cc pc = .ok (.freturn, 1)) (hq : Q v) : YM x G b cl sl C S pc lv [.float v] := y_fret hB hE d ⟨v, rfl, rfl, rfl, hq⟩
theorem m_rr {Cn : String} (hB : Bx x G b own cc nL (some (.object Cn)) rm nm) {v : Value} (hE : Ex x G b (RR G b C S v) cl sl) (d : decode cc pc = .ok (.areturn, 1)) (hv : v = .null ∨ ∃ a, v = .ref a) : YM x G b cl sl C S pc lv [v] := y_aret hB hE d hv ⟨rfl, rfl, rfl⟩
theorem m_wi (hB : Bx x G b own cc nL (some ty) rm nm) {Q : Int → gM → Prop} {v : Int} (hE : Ex x G b (WI G b S Q) cl sl) (d : decode cc pc = .ok (.ireturn, 1)) (hn : narrow ty (.int (iI v)) = .int (iI v)) (hq : Q v C) : YM x G b cl sl C S pc lv [.int (iI v)] := y_iret hB hE d hn ⟨v, C, rfl, rfl, rfl, hq⟩
theorem m_wv (hB : Bx x G b own cc nL none rm nm) {Q : gM → Prop} (hE : Ex x G b (WV G b S Q) cl sl) (d : decode cc pc = .ok (.return_, 1)) (hq : Q C) : YM x G b cl sl C S pc lv [] := y_vret hB hE d ⟨C, rfl, rfl, rfl, hq⟩
theorem m_si (hB : Bx x G b own cc nL (some ty) rm nm) {Q : Int → gM → Prop} {v : Int} (hE : Ex x G b (SI G b C Q) cl sl) (d : decode cc pc = .ok (.ireturn, 1)) (hn : narrow ty (.int (iI v)) = .int (iI v)) (hq : Q v S) : YM x G b cl sl C S pc lv [.int (iI v)] := y_iret hB hE d hn ⟨v, S, rfl, rfl, rfl, hq⟩
theorem m_sv (hB : Bx x G b own cc nL none rm nm) {Q : gM → Prop} (hE : Ex x G b (SV G b C Q) cl sl) (d : decode cc pc = .ok (.return_, 1)) (hq : Q S) : YM x G b cl sl C S pc lv [] := y_vret hB hE d ⟨S, rfl, rfl, rfl, hq⟩
end
section
variable {x : gX} {G : gG} {b cl sl nL : Nat} {own nm : String} {cc : ByteArray} {ret : Option FieldType} {rm : Room} {C S : gM} {pc : Nat} {lv : List (Nat × Value)} {st stk : List Value}
variable {y : MethodName} {cc' : ByteArray} {nL' na index : Nat} {ret' : Option FieldType} {rm' : Room} {av : List Value} {Po : gP}
/-- the three kinds of calls, of methods that make nothing -/
theorem m_V (hB : Bx x G b own cc nL ret rm nm) (hM : Ms y cc' nL' ret' na) (q1 : (.methodLink own index y : Cond) ∈ lw_g) {k : Int} {As : List Value} (hC : Ct x.1.2.1 G b y cc' nL' ret' rm' (.ref (ad b k) :: As) 578 (wM G b C S) Po)
    {t ci : Nat} {fs : List Value} {qq : vw_C} (hk : kd k = t) (ht : t ≠ 99) (hw : wS G b t k (C k) (S k) = .inr (ci, fs)) (hc : vwCl[ci]? = some qq) (hcn : qq.1 = y.cls) (hn : As.length = na) (hst : stk = As.reverse ++ .ref (ad b k) :: st) (hR0 : rm'.frames + 1 ≤ rm.frames ∧ 8 + (nL' + 11) + rm'.locals ≤ rm.locals) (hrs : (st.map fun v => v.category).sum ≤ 8) (hz : rm'.cells = 0 ∧ rm'.slots = 0) (hcl : cl ≤ rm.cells ∧ sl ≤ rm.slots) (d : decode cc pc = .ok (.invokevirtual index, 3))
    (kk : ∀ (r : Option Value) (n' : Int) (w' : Int → va_E), Po r n' w' → Y x G b cl sl n' w' (pc + 3) lv (r.toList ++ st)) : YM x G b cl sl C S pc lv stk := by
  obtain ⟨z1, z2⟩ := hz
  exact y_callVK hB hM q1 hC (fun _ _ _ _ h => h) (fun _ _ _ _ _ _ => trivial) (kd_rng hk ht) ((wM_at hk).trans hw) hc hcn hn hst hR0 hrs (by rw [z1, z2]; exact hcl) d (by rw [z1, z2]; exact kk)
theorem m_S (hB : Bx x G b own cc nL ret rm nm) (hM : Mt y cc' nL' ret' na) (q1 : (.methodLink own index y : Cond) ∈ lw_g) {As : List Value} (hC : Ct x.1.2.1 G b y cc' nL' ret' rm' As 578 (wM G b C S) Po)
    (hn : As.length = na) (hst : stk = As.reverse ++ st) (hR0 : rm'.frames + 1 ≤ rm.frames ∧ 8 + (nL' + 11) + rm'.locals ≤ rm.locals) (hrs : (st.map fun v => v.category).sum ≤ 8) (hz : rm'.cells = 0 ∧ rm'.slots = 0) (hcl : cl ≤ rm.cells ∧ sl ≤ rm.slots) (d : decode cc pc = .ok (.invokestatic index, 3))
    (kk : ∀ (r : Option Value) (n' : Int) (w' : Int → va_E), Po r n' w' → Y x G b cl sl n' w' (pc + 3) lv (r.toList ++ st)) : YM x G b cl sl C S pc lv stk := by
  obtain ⟨z1, z2⟩ := hz
  exact y_callSK hB hM q1 hC (fun _ _ _ _ h => h) (fun _ _ _ _ _ _ => trivial) hn hst hR0 hrs (by rw [z1, z2]; exact hcl) d (by rw [z1, z2]; exact kk)
theorem m_N (hB : Bx x G b own cc nL ret rm nm) (hM : Mt y cc' nL' ret' na) {host : String} (q1 : (.methodLinkNest own index y host : Cond) ∈ nestW) {As : List Value} (hC : Ct x.1.2.1 G b y cc' nL' ret' rm' As 578 (wM G b C S) Po)
    (hn : As.length = na) (hst : stk = As.reverse ++ st) (hR0 : rm'.frames + 1 ≤ rm.frames ∧ 8 + (nL' + 11) + rm'.locals ≤ rm.locals) (hrs : (st.map fun v => v.category).sum ≤ 8) (hz : rm'.cells = 0 ∧ rm'.slots = 0) (hcl : cl ≤ rm.cells ∧ sl ≤ rm.slots) (d : decode cc pc = .ok (.invokestatic index, 3))
    (kk : ∀ (r : Option Value) (n' : Int) (w' : Int → va_E), Po r n' w' → Y x G b cl sl n' w' (pc + 3) lv (r.toList ++ st)) : YM x G b cl sl C S pc lv stk := by
  obtain ⟨z1, z2⟩ := hz
  exact y_callSNK hB hM q1 hC (fun _ _ _ _ h => h) (fun _ _ _ _ _ _ => trivial) hn hst hR0 hrs (by rw [z1, z2]; exact hcl) d (by rw [z1, z2]; exact kk)
variable {cl sl : Nat} {x : gX} {pc : Nat} {lv : List (Nat × Value)} {st : List Value}
/-- what comes back, by the kind of the contract -/
theorem k_RI {Q : Int → Prop} (kk : ∀ v : Int, Q v → YM x G b cl sl C S pc lv (.int (iI v) :: st)) : ∀ (r : Option Value) (n' : Int) (w' : Int → va_E), RI G b C S Q r n' w' → Y x G b cl sl n' w' pc lv (r.toList ++ st) := by
  rintro r n' w' ⟨v, rfl, rfl, rfl, hq⟩
  exact kk v hq
theorem k_RF {Q : UInt32 → Prop} (kk : ∀ v : UInt32, Q v → YM x G b cl sl C S pc lv (.float v :: st)) : ∀ (r : Option Value) (n' : Int) (w' : Int → va_E), RF G b C S Q r n' w' → Y x G b cl sl n' w' pc lv (r.toList ++ st) := by
  rintro r n' w' ⟨v, rfl, rfl, rfl, hq⟩
  exact kk v hq
theorem k_RR {v : Value} (kk : YM x G b cl sl C S pc lv (v :: st)) : ∀ (r : Option Value) (n' : Int) (w' : Int → va_E), RR G b C S v r n' w' → Y x G b cl sl n' w' pc lv (r.toList ++ st) := by
  rintro r n' w' ⟨rfl, rfl, rfl⟩
  exact kk
theorem k_WI {Q : Int → gM → Prop} (kk : ∀ (v : Int) (C' : gM), Q v C' → YM x G b cl sl C' S pc lv (.int (iI v) :: st)) : ∀ (r : Option Value) (n' : Int) (w' : Int → va_E), WI G b S Q r n' w' → Y x G b cl sl n' w' pc lv (r.toList ++ st) := by
  rintro r n' w' ⟨v, C', rfl, rfl, rfl, hq⟩
  exact kk v C' hq
theorem k_WV {Q : gM → Prop} (kk : ∀ (C' : gM), Q C' → YM x G b cl sl C' S pc lv st) : ∀ (r : Option Value) (n' : Int) (w' : Int → va_E), WV G b S Q r n' w' → Y x G b cl sl n' w' pc lv (r.toList ++ st) := by
  rintro r n' w' ⟨C', rfl, rfl, rfl, hq⟩
  exact kk C' hq
theorem k_SI {Q : Int → gM → Prop} (kk : ∀ (v : Int) (S' : gM), Q v S' → YM x G b cl sl C S' pc lv (.int (iI v) :: st)) : ∀ (r : Option Value) (n' : Int) (w' : Int → va_E), SI G b C Q r n' w' → Y x G b cl sl n' w' pc lv (r.toList ++ st) := by
  rintro r n' w' ⟨v, S', rfl, rfl, rfl, hq⟩
  exact kk v S' hq
theorem k_SV {Q : gM → Prop} (kk : ∀ (S' : gM), Q S' → YM x G b cl sl C S' pc lv st) : ∀ (r : Option Value) (n' : Int) (w' : Int → va_E), SV G b C Q r n' w' → Y x G b cl sl n' w' pc lv (r.toList ++ st) := by
  rintro r n' w' ⟨S', rfl, rfl, rfl, hq⟩
  exact kk S' hq
end
def isLife (q : Int) : Prop := kd q = 5 ∧ kd (q + 1) = 6 ∧ kd (q + 2) = 6 ∧ kd (q + 3) = 6 ∧ 0 ≤ q
def isDesk (o : Int) : Prop := kd o = 1 ∧ kd (o + 1) = 2 ∧ kd (o + 2) = 3 ∧ kd (o + 3) = 4 ∧ 0 ≤ o ∧ ∀ i : Int, 0 ≤ i ∧ i < 20 → isLife (o + 4 + 4 * i)
theorem co_all {P : Int → Prop} [DecidablePred P] (m : Nat) (h : (List.range m).all (fun i => decide (P (i : Int))) = true) {i : Int} (hi : 0 ≤ i ∧ i < m) : P i := by
  have h1 := List.all_eq_true.mp h i.toNat (List.mem_range.mpr (by omega))
  have h2 := of_decide_eq_true h1
  rwa [Int.toNat_of_nonneg hi.1] at h2
theorem desk_1 : isDesk 1 := ⟨by decide, by decide, by decide, by decide, by decide, fun i hi => co_all (P := fun i => kd (1 + 4 + 4 * i) = 5 ∧ kd (1 + 4 + 4 * i + 1) = 6 ∧ kd (1 + 4 + 4 * i + 2) = 6 ∧ kd (1 + 4 + 4 * i + 3) = 6 ∧ 0 ≤ 1 + 4 + 4 * i) 20 (by decide +kernel) hi⟩
theorem desk_85 : isDesk 85 := ⟨by decide, by decide, by decide, by decide, by decide, fun i hi => co_all (P := fun i => kd (85 + 4 + 4 * i) = 5 ∧ kd (85 + 4 + 4 * i + 1) = 6 ∧ kd (85 + 4 + 4 * i + 2) = 6 ∧ kd (85 + 4 + 4 * i + 3) = 6 ∧ 0 ≤ 85 + 4 + 4 * i) 20 (by decide +kernel) hi⟩
theorem desk_h0 : isDesk 171 := ⟨by decide, by decide, by decide, by decide, by decide, fun i hi => co_all (P := fun i => kd (171 + 4 + 4 * i) = 5 ∧ kd (171 + 4 + 4 * i + 1) = 6 ∧ kd (171 + 4 + 4 * i + 2) = 6 ∧ kd (171 + 4 + 4 * i + 3) = 6 ∧ 0 ≤ 171 + 4 + 4 * i) 20 (by decide +kernel) hi⟩
theorem desk_h1 : isDesk 255 := ⟨by decide, by decide, by decide, by decide, by decide, fun i hi => co_all (P := fun i => kd (255 + 4 + 4 * i) = 5 ∧ kd (255 + 4 + 4 * i + 1) = 6 ∧ kd (255 + 4 + 4 * i + 2) = 6 ∧ kd (255 + 4 + 4 * i + 3) = 6 ∧ 0 ≤ 255 + 4 + 4 * i) 20 (by decide +kernel) hi⟩
theorem desk_h2 : isDesk 339 := ⟨by decide, by decide, by decide, by decide, by decide, fun i hi => co_all (P := fun i => kd (339 + 4 + 4 * i) = 5 ∧ kd (339 + 4 + 4 * i + 1) = 6 ∧ kd (339 + 4 + 4 * i + 2) = 6 ∧ kd (339 + 4 + 4 * i + 3) = 6 ∧ 0 ≤ 339 + 4 + 4 * i) 20 (by decide +kernel) hi⟩
theorem desk_h3 : isDesk 423 := ⟨by decide, by decide, by decide, by decide, by decide, fun i hi => co_all (P := fun i => kd (423 + 4 + 4 * i) = 5 ∧ kd (423 + 4 + 4 * i + 1) = 6 ∧ kd (423 + 4 + 4 * i + 2) = 6 ∧ kd (423 + 4 + 4 * i + 3) = 6 ∧ 0 ≤ 423 + 4 + 4 * i) 20 (by decide +kernel) hi⟩
theorem desk_h {t : Int} (h : 0 ≤ t ∧ t < 4) : isDesk (170 + 1 + 84 * t) := by
  rcases (show t = 0 ∨ t = 1 ∨ t = 2 ∨ t = 3 by omega) with rfl | rfl | rfl | rfl
  · exact desk_h0
  · exact desk_h1
  · exact desk_h2
  · exact desk_h3
theorem life_t {i : Int} (h : 0 ≤ i ∧ i < 15) : isLife (509 + 1 + 4 * i) := co_all (P := fun i => kd (509 + 1 + 4 * i) = 5 ∧ kd (509 + 1 + 4 * i + 1) = 6 ∧ kd (509 + 1 + 4 * i + 2) = 6 ∧ kd (509 + 1 + 4 * i + 3) = 6 ∧ 0 ≤ 509 + 1 + 4 * i) 15 (by decide +kernel) h
