/-! the machine, seen through a numbered world: cell k of ours lies at the address b + k; Y: from here the end is reached, whatever the heap, as long as it shows this world -/
abbrev gG : Type := va_G × (Nat → ClassId)
abbrev gX : Type := (Program × Launch × Env × Room × State) × (MethodId × Array Value × List Frame × Method × Code) × (State → Prop)
def iI (a : Int) : Int32 := Int32.ofInt a
def ad (b : Nat) (k : Int) : Nat := b + k.toNat
abbrev gs (x : gX) : State := x.1.2.2.2.2
abbrev gc (x : gX) : Code := x.2.1.2.2.2.2
def gW (x : gX) (H : Heap) (locs : List Loc) (cl sl : Nat) (g : JFrame) : Prop := W x.1.1 x.1.2.1 x.1.2.2.1 x.1.2.2.2.1 (gs x) x.2.1.1 x.2.1.2.1 x.2.1.2.2.1 x.2.1.2.2.2.1 (gc x) H locs cl sl x.2.2 g
def tysG (G : gG) : List (ClassId × FieldType) := [(G.2 0, .int), (G.2 1, .int), (G.2 2, .char), (G.2 3, .object RX2), (G.2 4, .object RX0)]
def nestW : List Cond := [.methodLinkNest RX0 24 yX2_init RX6, .methodLinkNest RX4 21 yX2_init RX6, .methodLinkNest RX6 35 yX5_init RX6, .methodLinkNest RX6 42 yX3_init RX6, .methodLinkNest RX3 11 yX5_init RX6, .methodLinkNest RX0 74 yX6_isSource RX6, .methodLinkNest RX0 70 yX6_isSetting RX6]
def Kx (G : gG) (U : State) : Prop := va_K G.1 vwCl (tysG G) U ∧ va_AO RX2 U ∧ va_AO RX0 U ∧ ∀ w ∈ nestW, va_Nw w U
def Rp (G : gG) (b : Nat) (n : Int) (w : Int → va_E) (H : Heap) : Prop := 0 ≤ n ∧ H.size = ad b n ∧ ∀ k, 0 ≤ k → k < n → va_at G.1 vwCl (ad b k, w k) H
def Y (x : gX) (G : gG) (b : Nat) (cl sl : Nat) (n : Int) (w : Int → va_E) (pc : Nat) (lv : List (Nat × Value)) (st : List Value) : Prop :=
  ∀ (H : Heap) (locs : List Loc) (ls : Array Slot), Rp G b n w H → va_S (fun q => b ≤ q) (gs x).heap H locs → lv_has ls (gc x).maxLocals lv → gW x H locs cl sl (F0 x.2.1.1 pc ls st)
/-- what stands in a body: the machine, the code's bytes, its locals, its class, the words, the tables, its room -/
def Bx (x : gX) (G : gG) (b : Nat) (own : String) (cc : ByteArray) (nL : Nat) (ret : Option FieldType) (rm : Room) (nm : String) : Prop :=
  x.1.1.tables.exec = Jvm.exec ∧ (gc x).code = cc ∧ (gc x).maxLocals = nL ∧ (gs x).vm.findClass own = some x.2.1.1.cls ∧ (∀ w ∈ lw_g, w.before x.2.1.2.1 (gs x) = true) ∧ Kx G (gs x) ∧ b ≤ (gs x).heap.size ∧ x.2.1.2.2.2.1.locks = false ∧ x.2.1.2.2.2.1.sig.returnType = ret ∧ x.1.2.2.2.1 = rm ∧ x.2.1.2.2.2.1.name = nm
def Px (G : gG) (b : Nat) (av : List Value) (n : Int) (w : Int → va_E) (K : State → Prop) : Array Value → State → Prop := fun v U => v = av.toArray ∧ Rp G b n w U.heap ∧ Kx G U ∧ K U
abbrev gP : Type := Option Value → Int → (Int → va_E) → Prop
def Qx (G : gG) (b : Nat) (Po : gP) : Array Value → State → Outcome → State → Prop := fun _ st oc t => ∃ (r : Option Value) (n : Int) (w : Int → va_E), oc = .returned r ∧ Po r n w ∧ Rp G b n w t.heap ∧ va_F (fun q => b ≤ q) st t
/-- the end that a body goes to -/
def Ex (x : gX) (G : gG) (b : Nat) (Po : gP) (mc ms : Nat) : Prop := x.2.2 = MQ x.2.1.2.2.1 (Qx G b Po) x.2.1.2.1 (gs x) mc ms (fun q => b ≤ q)
/-- a method's contract -/
def cw (y : MethodName) (cc : ByteArray) (nL : Nat) (ret : Option FieldType) : List Cond := .code y cc nL ret :: lw_g
def CtK (l : Launch) (G : gG) (b : Nat) (K : State → Prop) (y : MethodName) (cc : ByteArray) (nL : Nat) (ret : Option FieldType) (rm : Room) (av : List Value) (n : Int) (w : Int → va_E) (Po : gP) : Prop :=
  Met l y (cw y cc nL ret) rm (Px G b av n w K) (Qx G b Po) rm.cells rm.slots (fun q => b ≤ q)
abbrev Ct (l : Launch) (G : gG) (b : Nat) (y : MethodName) (cc : ByteArray) (nL : Nat) (ret : Option FieldType) (rm : Room) (av : List Value) (n : Int) (w : Int → va_E) (Po : gP) : Prop := CtK l G b (fun _ => True) y cc nL ret rm av n w Po
theorem Kx.moved {G : gG} {u U : State} (hvm : u.vm.Alike U.vm) (hn : ∀ w ∈ nestW, va_Nw w U) (h : Kx G u) : Kx G U := ⟨va_K.moved hvm h.1, va_AO.moved hvm h.2.1, va_AO.moved hvm h.2.2.1, hn⟩
theorem gd_all {y : MethodName} {cc : ByteArray} {nL : Nat} {ret : Option FieldType} (h : (Cond.code y cc nL ret : Cond) ∈ lw_g) : GoodIn lw_g (cw y cc nL ret) := by
  intro w hw
  have hm : w ∈ lw_g := by
    rcases List.mem_cons.mp hw with e | e
    · rw [e]; exact h
    · exact e
  exact ⟨hm, good_of_word (List.mem_filter.mp hm).2⟩
theorem iI_0 : iI 0 = 0 := rfl
theorem iI_add {u v : Int} : iI u + iI v = iI (u + v) := (Int32.ofInt_add u v).symm
theorem iI_sub {u v : Int} : iI u - iI v = iI (u - v) := (Int32.ofInt_sub u v).symm
theorem iI_mul {u v : Int} : iI u * iI v = iI (u * v) := (Int32.ofInt_mul u v).symm
theorem iI_toInt {u : Int} (h : -2147483648 ≤ u ∧ u ≤ 2147483647) : (iI u).toInt = u := Int32.toInt_ofInt_of_le (by omega) (by omega)
theorem iI_of (x : Int32) : x = iI x.toInt := (Int32.ofInt_toInt x).symm
theorem iI_ofb (x : Int32) : -2147483648 ≤ x.toInt ∧ x.toInt ≤ 2147483647 := by
  have h1 := Int32.le_toInt x
  have h2 := Int32.toInt_lt x
  constructor
  · simpa using h1
  · have : x.toInt < 2147483648 := by simpa using h2
    omega
theorem iI_eq {u v : Int} (hu : -2147483648 ≤ u ∧ u ≤ 2147483647) (hv : -2147483648 ≤ v ∧ v ≤ 2147483647) : iI u = iI v ↔ u = v := ⟨fun h => by rw [← iI_toInt hu, ← iI_toInt hv, h], fun h => by rw [h]⟩
theorem iI_lt {u v : Int} (hu : -2147483648 ≤ u ∧ u ≤ 2147483647) (hv : -2147483648 ≤ v ∧ v ≤ 2147483647) : iI u < iI v ↔ u < v := by rw [Int32.lt_iff_toInt_lt, iI_toInt hu, iI_toInt hv]
theorem iI_le {u v : Int} (hu : -2147483648 ≤ u ∧ u ≤ 2147483647) (hv : -2147483648 ≤ v ∧ v ≤ 2147483647) : iI u ≤ iI v ↔ u ≤ v := by rw [Int32.le_iff_toInt_le, iI_toInt hu, iI_toInt hv]
theorem iI_div {u v : Int} (hu : 0 ≤ u ∧ u ≤ 2147483647) (hv : 0 < v ∧ v ≤ 2147483647) : iI u / iI v = iI (u / v) := by
  apply Int32.toInt_inj.mp
  have h0 : 0 ≤ u / v := Int.ediv_nonneg hu.1 (by omega)
  have h1 : u / v ≤ u := Int.ediv_le_self v hu.1
  rw [Int32.toInt_div, iI_toInt (by omega), iI_toInt (by omega), iI_toInt (by omega), Int.tdiv_eq_ediv_of_nonneg hu.1]
  exact Int.bmod_eq_of_le (by omega) (by omega)
theorem iI_rem {u v : Int} (hu : 0 ≤ u ∧ u ≤ 2147483647) (hv : 0 < v ∧ v ≤ 2147483647) : iI u - iI u / iI v * iI v = iI (u % v) := by
  rw [iI_div hu hv, iI_mul, iI_sub]
  congr 1
  have := Int.emod_add_mul_ediv u v
  rw [Int.mul_comm] at this
  omega
theorem iI_cl {u : Int} (h : 0 ≤ u ∧ u ≤ 2147483647) : (iI u).toNatClampNeg = u.toNat := by
  show (iI u).toInt.toNat = u.toNat
  rw [iI_toInt (by omega)]
theorem iI_in {u : Int} {n : Nat} (h : 0 ≤ u ∧ u < n) (hn : n < 2147483648) : vp_in (iI u) n := by
  rw [vp_in_iff, iI_toInt (by omega)]
  exact h
theorem iI_nI (n : Nat) : nI n = iI (n : Int) := by
  show Int32.ofNat n = Int32.ofInt (n : Int)
  rfl
def cmpI : Option Ordering → CmpOp → Int
  | none, .l => -1
  | none, .g => 1
  | some .lt, _ => -1
  | some .eq, _ => 0
  | some .gt, _ => 1
theorem cmpI_v (o : Option Ordering) (op : CmpOp) : Op.cmpValue o op = iI (cmpI o op) := by
  cases o with
  | none => cases op <;> rfl
  | some z => cases z <;> rfl
theorem cmpI_b (o : Option Ordering) (op : CmpOp) : -1 ≤ cmpI o op ∧ cmpI o op ≤ 1 := by
  cases o with
  | none => cases op <;> simp [cmpI]
  | some z => cases z <;> simp [cmpI]
theorem y_iconst {x : gX} {G : gG} {b cl sl nL : Nat} {own nm : String} {cc : ByteArray} {ret : Option FieldType} {rm : Room} {n : Int} {w : Int → va_E} {pc : Nat} {lv : List (Nat × Value)} {st : List Value} (hB : Bx x G b own cc nL ret rm nm) {k v : Int} (d : decode cc pc = .ok (.iconst k, 1)) (hv : k = v) (kk : Y x G b cl sl n w (pc + 1) lv (.int (iI v) :: st)) : Y x G b cl sl n w (pc) lv (st) := by
  subst hv
  obtain ⟨hx, hb, hml, hown, hts, hK, hbs, hlk, hrt, hR, hnm⟩ := hB
  intro H locs ls hRp hS hL
  exact lv_iconst hx hb d rfl (kk H locs ls hRp hS hL)
theorem y_bipush {x : gX} {G : gG} {b cl sl nL : Nat} {own nm : String} {cc : ByteArray} {ret : Option FieldType} {rm : Room} {n : Int} {w : Int → va_E} {pc : Nat} {lv : List (Nat × Value)} {st : List Value} (hB : Bx x G b own cc nL ret rm nm) {k v : Int} (d : decode cc pc = .ok (.bipush k, 2)) (hv : (Int8.ofInt k).toInt32 = iI v) (kk : Y x G b cl sl n w (pc + 2) lv (.int (iI v) :: st)) : Y x G b cl sl n w (pc) lv (st) := by
  obtain ⟨hx, hb, hml, hown, hts, hK, hbs, hlk, hrt, hR, hnm⟩ := hB
  intro H locs ls hRp hS hL
  exact lv_bipush hx hb d hv (kk H locs ls hRp hS hL)
theorem y_sipush {x : gX} {G : gG} {b cl sl nL : Nat} {own nm : String} {cc : ByteArray} {ret : Option FieldType} {rm : Room} {n : Int} {w : Int → va_E} {pc : Nat} {lv : List (Nat × Value)} {st : List Value} (hB : Bx x G b own cc nL ret rm nm) {k v : Int} (d : decode cc pc = .ok (.sipush k, 3)) (hv : (Int16.ofInt k).toInt32 = iI v) (kk : Y x G b cl sl n w (pc + 3) lv (.int (iI v) :: st)) : Y x G b cl sl n w (pc) lv (st) := by
  obtain ⟨hx, hb, hml, hown, hts, hK, hbs, hlk, hrt, hR, hnm⟩ := hB
  intro H locs ls hRp hS hL
  exact lv_sipush hx hb d hv (kk H locs ls hRp hS hL)
theorem y_iload_n {x : gX} {G : gG} {b cl sl nL : Nat} {own nm : String} {cc : ByteArray} {ret : Option FieldType} {rm : Room} {n : Int} {w : Int → va_E} {pc : Nat} {lv : List (Nat × Value)} {st : List Value} (hB : Bx x G b own cc nL ret rm nm) {k : Fin 4} {i : Nat} (j : Nat) {v : Int32} (d : decode cc pc = .ok (.iload_n k, 1)) (hi : (k : Nat) = i) (hl : lv[j]? = some (i, .int v)) (kk : Y x G b cl sl n w (pc + 1) lv (.int v :: st)) : Y x G b cl sl n w (pc) lv (st) := by
  obtain ⟨hx, hb, hml, hown, hts, hK, hbs, hlk, hrt, hR, hnm⟩ := hB
  intro H locs ls hRp hS hL
  exact lv_iload_n hx hb d hi (lv_at hL j hl) (kk H locs ls hRp hS hL)
theorem y_iload {x : gX} {G : gG} {b cl sl nL : Nat} {own nm : String} {cc : ByteArray} {ret : Option FieldType} {rm : Room} {n : Int} {w : Int → va_E} {pc : Nat} {lv : List (Nat × Value)} {st : List Value} (hB : Bx x G b own cc nL ret rm nm) {i : Nat} (j : Nat) {v : Int32} (d : decode cc pc = .ok (.iload i, 2)) (hl : lv[j]? = some (i, .int v)) (kk : Y x G b cl sl n w (pc + 2) lv (.int v :: st)) : Y x G b cl sl n w (pc) lv (st) := by
  obtain ⟨hx, hb, hml, hown, hts, hK, hbs, hlk, hrt, hR, hnm⟩ := hB
  intro H locs ls hRp hS hL
  exact lv_iload hx hb d (lv_at hL j hl) (kk H locs ls hRp hS hL)
theorem y_aload_n {x : gX} {G : gG} {b cl sl nL : Nat} {own nm : String} {cc : ByteArray} {ret : Option FieldType} {rm : Room} {n : Int} {w : Int → va_E} {pc : Nat} {lv : List (Nat × Value)} {st : List Value} (hB : Bx x G b own cc nL ret rm nm) {k : Fin 4} {i : Nat} (j : Nat) {v : Nat} (d : decode cc pc = .ok (.aload_n k, 1)) (hi : (k : Nat) = i) (hl : lv[j]? = some (i, .ref v)) (kk : Y x G b cl sl n w (pc + 1) lv (.ref v :: st)) : Y x G b cl sl n w (pc) lv (st) := by
  obtain ⟨hx, hb, hml, hown, hts, hK, hbs, hlk, hrt, hR, hnm⟩ := hB
  intro H locs ls hRp hS hL
  exact lv_aload_n hx hb d hi (lv_at hL j hl) (kk H locs ls hRp hS hL)
theorem y_aload {x : gX} {G : gG} {b cl sl nL : Nat} {own nm : String} {cc : ByteArray} {ret : Option FieldType} {rm : Room} {n : Int} {w : Int → va_E} {pc : Nat} {lv : List (Nat × Value)} {st : List Value} (hB : Bx x G b own cc nL ret rm nm) {i : Nat} (j : Nat) {v : Nat} (d : decode cc pc = .ok (.aload i, 2)) (hl : lv[j]? = some (i, .ref v)) (kk : Y x G b cl sl n w (pc + 2) lv (.ref v :: st)) : Y x G b cl sl n w (pc) lv (st) := by
  obtain ⟨hx, hb, hml, hown, hts, hK, hbs, hlk, hrt, hR, hnm⟩ := hB
  intro H locs ls hRp hS hL
  exact lv_aload hx hb d (lv_at hL j hl) (kk H locs ls hRp hS hL)
theorem y_aload_nN {x : gX} {G : gG} {b cl sl nL : Nat} {own nm : String} {cc : ByteArray} {ret : Option FieldType} {rm : Room} {n : Int} {w : Int → va_E} {pc : Nat} {lv : List (Nat × Value)} {st : List Value} (hB : Bx x G b own cc nL ret rm nm) {k : Fin 4} {i : Nat} (j : Nat) (d : decode cc pc = .ok (.aload_n k, 1)) (hi : (k : Nat) = i) (hl : lv[j]? = some (i, .null)) (kk : Y x G b cl sl n w (pc + 1) lv (.null :: st)) : Y x G b cl sl n w (pc) lv (st) := by
  obtain ⟨hx, hb, hml, hown, hts, hK, hbs, hlk, hrt, hR, hnm⟩ := hB
  intro H locs ls hRp hS hL
  exact lv_aload_nN hx hb d hi (lv_at hL j hl) (kk H locs ls hRp hS hL)
theorem y_aloadN {x : gX} {G : gG} {b cl sl nL : Nat} {own nm : String} {cc : ByteArray} {ret : Option FieldType} {rm : Room} {n : Int} {w : Int → va_E} {pc : Nat} {lv : List (Nat × Value)} {st : List Value} (hB : Bx x G b own cc nL ret rm nm) {i : Nat} (j : Nat) (d : decode cc pc = .ok (.aload i, 2)) (hl : lv[j]? = some (i, .null)) (kk : Y x G b cl sl n w (pc + 2) lv (.null :: st)) : Y x G b cl sl n w (pc) lv (st) := by
  obtain ⟨hx, hb, hml, hown, hts, hK, hbs, hlk, hrt, hR, hnm⟩ := hB
  intro H locs ls hRp hS hL
  exact lv_aloadN hx hb d (lv_at hL j hl) (kk H locs ls hRp hS hL)
theorem y_fload_n {x : gX} {G : gG} {b cl sl nL : Nat} {own nm : String} {cc : ByteArray} {ret : Option FieldType} {rm : Room} {n : Int} {w : Int → va_E} {pc : Nat} {lv : List (Nat × Value)} {st : List Value} (hB : Bx x G b own cc nL ret rm nm) {k : Fin 4} {i : Nat} (j : Nat) {v : UInt32} (d : decode cc pc = .ok (.fload_n k, 1)) (hi : (k : Nat) = i) (hl : lv[j]? = some (i, .float v)) (kk : Y x G b cl sl n w (pc + 1) lv (.float v :: st)) : Y x G b cl sl n w (pc) lv (st) := by
  obtain ⟨hx, hb, hml, hown, hts, hK, hbs, hlk, hrt, hR, hnm⟩ := hB
  intro H locs ls hRp hS hL
  exact lv_fload_n hx hb d hi (lv_at hL j hl) (kk H locs ls hRp hS hL)
theorem y_fload {x : gX} {G : gG} {b cl sl nL : Nat} {own nm : String} {cc : ByteArray} {ret : Option FieldType} {rm : Room} {n : Int} {w : Int → va_E} {pc : Nat} {lv : List (Nat × Value)} {st : List Value} (hB : Bx x G b own cc nL ret rm nm) {i : Nat} (j : Nat) {v : UInt32} (d : decode cc pc = .ok (.fload i, 2)) (hl : lv[j]? = some (i, .float v)) (kk : Y x G b cl sl n w (pc + 2) lv (.float v :: st)) : Y x G b cl sl n w (pc) lv (st) := by
  obtain ⟨hx, hb, hml, hown, hts, hK, hbs, hlk, hrt, hR, hnm⟩ := hB
  intro H locs ls hRp hS hL
  exact lv_fload hx hb d (lv_at hL j hl) (kk H locs ls hRp hS hL)
theorem y_dload {x : gX} {G : gG} {b cl sl nL : Nat} {own nm : String} {cc : ByteArray} {ret : Option FieldType} {rm : Room} {n : Int} {w : Int → va_E} {pc : Nat} {lv : List (Nat × Value)} {st : List Value} (hB : Bx x G b own cc nL ret rm nm) {i : Nat} (j : Nat) {v : UInt64} (d : decode cc pc = .ok (.dload i, 2)) (hl : lv[j]? = some (i, .double v)) (kk : Y x G b cl sl n w (pc + 2) lv (.double v :: st)) : Y x G b cl sl n w (pc) lv (st) := by
  obtain ⟨hx, hb, hml, hown, hts, hK, hbs, hlk, hrt, hR, hnm⟩ := hB
  intro H locs ls hRp hS hL
  exact lv_dload hx hb d (lv_at hL j hl) (kk H locs ls hRp hS hL)
theorem y_istore_n {x : gX} {G : gG} {b cl sl nL : Nat} {own nm : String} {cc : ByteArray} {ret : Option FieldType} {rm : Room} {n : Int} {w : Int → va_E} {pc : Nat} {lv : List (Nat × Value)} {st : List Value} (hB : Bx x G b own cc nL ret rm nm) {k : Fin 4} {i : Nat} {v : Int32} {lv' : List (Nat × Value)} (d : decode cc pc = .ok (.istore_n k, 1)) (hi : (k : Nat) = i) (hn : i < nL) (hl : (i, Value.int v) :: lv.filter (fun q => !(q.1 == i) && !(q.1 + 1 == i && q.2.category == 2)) = lv') (kk : Y x G b cl sl n w (pc + 1) lv' (st)) : Y x G b cl sl n w (pc) lv (.int v :: st) := by
  obtain ⟨hx, hb, hml, hown, hts, hK, hbs, hlk, hrt, hR, hnm⟩ := hB
  intro H locs ls hRp hS hL
  exact lv_istore_n hx hb d hi hL (by rw [hml]; exact hn) hl (fun ls hL => kk H locs ls hRp hS hL)
theorem y_istore {x : gX} {G : gG} {b cl sl nL : Nat} {own nm : String} {cc : ByteArray} {ret : Option FieldType} {rm : Room} {n : Int} {w : Int → va_E} {pc : Nat} {lv : List (Nat × Value)} {st : List Value} (hB : Bx x G b own cc nL ret rm nm) {i : Nat} {v : Int32} {lv' : List (Nat × Value)} (d : decode cc pc = .ok (.istore i, 2)) (hn : i < nL) (hl : (i, Value.int v) :: lv.filter (fun q => !(q.1 == i) && !(q.1 + 1 == i && q.2.category == 2)) = lv') (kk : Y x G b cl sl n w (pc + 2) lv' (st)) : Y x G b cl sl n w (pc) lv (.int v :: st) := by
  obtain ⟨hx, hb, hml, hown, hts, hK, hbs, hlk, hrt, hR, hnm⟩ := hB
  intro H locs ls hRp hS hL
  exact lv_istore hx hb d hL (by rw [hml]; exact hn) hl (fun ls hL => kk H locs ls hRp hS hL)
theorem y_astore_n {x : gX} {G : gG} {b cl sl nL : Nat} {own nm : String} {cc : ByteArray} {ret : Option FieldType} {rm : Room} {n : Int} {w : Int → va_E} {pc : Nat} {lv : List (Nat × Value)} {st : List Value} (hB : Bx x G b own cc nL ret rm nm) {k : Fin 4} {i : Nat} {v : Nat} {lv' : List (Nat × Value)} (d : decode cc pc = .ok (.astore_n k, 1)) (hi : (k : Nat) = i) (hn : i < nL) (hl : (i, Value.ref v) :: lv.filter (fun q => !(q.1 == i) && !(q.1 + 1 == i && q.2.category == 2)) = lv') (kk : Y x G b cl sl n w (pc + 1) lv' (st)) : Y x G b cl sl n w (pc) lv (.ref v :: st) := by
  obtain ⟨hx, hb, hml, hown, hts, hK, hbs, hlk, hrt, hR, hnm⟩ := hB
  intro H locs ls hRp hS hL
  exact lv_astore_n hx hb d hi hL (by rw [hml]; exact hn) hl (fun ls hL => kk H locs ls hRp hS hL)
theorem y_astore {x : gX} {G : gG} {b cl sl nL : Nat} {own nm : String} {cc : ByteArray} {ret : Option FieldType} {rm : Room} {n : Int} {w : Int → va_E} {pc : Nat} {lv : List (Nat × Value)} {st : List Value} (hB : Bx x G b own cc nL ret rm nm) {i : Nat} {v : Nat} {lv' : List (Nat × Value)} (d : decode cc pc = .ok (.astore i, 2)) (hn : i < nL) (hl : (i, Value.ref v) :: lv.filter (fun q => !(q.1 == i) && !(q.1 + 1 == i && q.2.category == 2)) = lv') (kk : Y x G b cl sl n w (pc + 2) lv' (st)) : Y x G b cl sl n w (pc) lv (.ref v :: st) := by
  obtain ⟨hx, hb, hml, hown, hts, hK, hbs, hlk, hrt, hR, hnm⟩ := hB
  intro H locs ls hRp hS hL
  exact lv_astore hx hb d hL (by rw [hml]; exact hn) hl (fun ls hL => kk H locs ls hRp hS hL)
theorem y_fstore_n {x : gX} {G : gG} {b cl sl nL : Nat} {own nm : String} {cc : ByteArray} {ret : Option FieldType} {rm : Room} {n : Int} {w : Int → va_E} {pc : Nat} {lv : List (Nat × Value)} {st : List Value} (hB : Bx x G b own cc nL ret rm nm) {k : Fin 4} {i : Nat} {v : UInt32} {lv' : List (Nat × Value)} (d : decode cc pc = .ok (.fstore_n k, 1)) (hi : (k : Nat) = i) (hn : i < nL) (hl : (i, Value.float v) :: lv.filter (fun q => !(q.1 == i) && !(q.1 + 1 == i && q.2.category == 2)) = lv') (kk : Y x G b cl sl n w (pc + 1) lv' (st)) : Y x G b cl sl n w (pc) lv (.float v :: st) := by
  obtain ⟨hx, hb, hml, hown, hts, hK, hbs, hlk, hrt, hR, hnm⟩ := hB
  intro H locs ls hRp hS hL
  exact lv_fstore_n hx hb d hi hL (by rw [hml]; exact hn) hl (fun ls hL => kk H locs ls hRp hS hL)
theorem y_fstore {x : gX} {G : gG} {b cl sl nL : Nat} {own nm : String} {cc : ByteArray} {ret : Option FieldType} {rm : Room} {n : Int} {w : Int → va_E} {pc : Nat} {lv : List (Nat × Value)} {st : List Value} (hB : Bx x G b own cc nL ret rm nm) {i : Nat} {v : UInt32} {lv' : List (Nat × Value)} (d : decode cc pc = .ok (.fstore i, 2)) (hn : i < nL) (hl : (i, Value.float v) :: lv.filter (fun q => !(q.1 == i) && !(q.1 + 1 == i && q.2.category == 2)) = lv') (kk : Y x G b cl sl n w (pc + 2) lv' (st)) : Y x G b cl sl n w (pc) lv (.float v :: st) := by
  obtain ⟨hx, hb, hml, hown, hts, hK, hbs, hlk, hrt, hR, hnm⟩ := hB
  intro H locs ls hRp hS hL
  exact lv_fstore hx hb d hL (by rw [hml]; exact hn) hl (fun ls hL => kk H locs ls hRp hS hL)
theorem y_astore_nN {x : gX} {G : gG} {b cl sl nL : Nat} {own nm : String} {cc : ByteArray} {ret : Option FieldType} {rm : Room} {n : Int} {w : Int → va_E} {pc : Nat} {lv : List (Nat × Value)} {st : List Value} (hB : Bx x G b own cc nL ret rm nm) {k : Fin 4} {i : Nat} {lv' : List (Nat × Value)} (d : decode cc pc = .ok (.astore_n k, 1)) (hi : (k : Nat) = i) (hn : i < nL) (hl : (i, Value.null) :: lv.filter (fun q => !(q.1 == i) && !(q.1 + 1 == i && q.2.category == 2)) = lv') (kk : Y x G b cl sl n w (pc + 1) lv' (st)) : Y x G b cl sl n w (pc) lv (.null :: st) := by
  obtain ⟨hx, hb, hml, hown, hts, hK, hbs, hlk, hrt, hR, hnm⟩ := hB
  intro H locs ls hRp hS hL
  exact lv_astore_nN hx hb d hi hL (by rw [hml]; exact hn) hl (fun ls hL => kk H locs ls hRp hS hL)
theorem y_iinc {x : gX} {G : gG} {b cl sl nL : Nat} {own nm : String} {cc : ByteArray} {ret : Option FieldType} {rm : Room} {n : Int} {w : Int → va_E} {pc : Nat} {lv : List (Nat × Value)} {st : List Value} (hB : Bx x G b own cc nL ret rm nm) {i : Nat} (j : Nat) {k a v : Int} {lv' : List (Nat × Value)} (d : decode cc pc = .ok (.iinc i k, 3)) (hk : lv[j]? = some (i, .int (iI a))) (hv : a + k = v) (hn : i < nL) (hl : (i, Value.int (iI v)) :: lv.filter (fun q => !(q.1 == i) && !(q.1 + 1 == i && q.2.category == 2)) = lv') (kk : Y x G b cl sl n w (pc + 3) lv' (st)) : Y x G b cl sl n w (pc) lv (st) := by
  subst hv
  obtain ⟨hx, hb, hml, hown, hts, hK, hbs, hlk, hrt, hR, hnm⟩ := hB
  intro H locs ls hRp hS hL
  exact lv_iinc hx hb d hL hk (by rw [show Int32.ofInt k = iI k from rfl, iI_add]) (by rw [hml]; exact hn) hl (fun ls hL => kk H locs ls hRp hS hL)
theorem y_iadd {x : gX} {G : gG} {b cl sl nL : Nat} {own nm : String} {cc : ByteArray} {ret : Option FieldType} {rm : Room} {n : Int} {w : Int → va_E} {pc : Nat} {lv : List (Nat × Value)} {st : List Value} (hB : Bx x G b own cc nL ret rm nm) {u v t : Int} (d : decode cc pc = .ok (.iadd, 1)) (e : u + v = t) (kk : Y x G b cl sl n w (pc + 1) lv (.int (iI t) :: st)) : Y x G b cl sl n w (pc) lv (.int (iI v) :: .int (iI u) :: st) := by
  subst e
  obtain ⟨hx, hb, hml, hown, hts, hK, hbs, hlk, hrt, hR, hnm⟩ := hB
  intro H locs ls hRp hS hL
  refine lv_iadd hx hb d ?_
  rw [iI_add]
  exact kk H locs ls hRp hS hL
theorem y_isub {x : gX} {G : gG} {b cl sl nL : Nat} {own nm : String} {cc : ByteArray} {ret : Option FieldType} {rm : Room} {n : Int} {w : Int → va_E} {pc : Nat} {lv : List (Nat × Value)} {st : List Value} (hB : Bx x G b own cc nL ret rm nm) {u v t : Int} (d : decode cc pc = .ok (.isub, 1)) (e : u - v = t) (kk : Y x G b cl sl n w (pc + 1) lv (.int (iI t) :: st)) : Y x G b cl sl n w (pc) lv (.int (iI v) :: .int (iI u) :: st) := by
  subst e
  obtain ⟨hx, hb, hml, hown, hts, hK, hbs, hlk, hrt, hR, hnm⟩ := hB
  intro H locs ls hRp hS hL
  refine lv_isub hx hb d ?_
  rw [iI_sub]
  exact kk H locs ls hRp hS hL
theorem y_imul {x : gX} {G : gG} {b cl sl nL : Nat} {own nm : String} {cc : ByteArray} {ret : Option FieldType} {rm : Room} {n : Int} {w : Int → va_E} {pc : Nat} {lv : List (Nat × Value)} {st : List Value} (hB : Bx x G b own cc nL ret rm nm) {u v t : Int} (d : decode cc pc = .ok (.imul, 1)) (e : u * v = t) (kk : Y x G b cl sl n w (pc + 1) lv (.int (iI t) :: st)) : Y x G b cl sl n w (pc) lv (.int (iI v) :: .int (iI u) :: st) := by
  subst e
  obtain ⟨hx, hb, hml, hown, hts, hK, hbs, hlk, hrt, hR, hnm⟩ := hB
  intro H locs ls hRp hS hL
  refine lv_imul hx hb d ?_
  rw [iI_mul]
  exact kk H locs ls hRp hS hL
theorem y_idiv {x : gX} {G : gG} {b cl sl nL : Nat} {own nm : String} {cc : ByteArray} {ret : Option FieldType} {rm : Room} {n : Int} {w : Int → va_E} {pc : Nat} {lv : List (Nat × Value)} {st : List Value} (hB : Bx x G b own cc nL ret rm nm) {u v : Int} (d : decode cc pc = .ok (.idiv, 1)) (hu : 0 ≤ u ∧ u ≤ 2147483647) (hv : 0 < v ∧ v ≤ 2147483647) (kk : Y x G b cl sl n w (pc + 1) lv (.int (iI (u / v)) :: st)) : Y x G b cl sl n w (pc) lv (.int (iI v) :: .int (iI u) :: st) := by
  obtain ⟨hx, hb, hml, hown, hts, hK, hbs, hlk, hrt, hR, hnm⟩ := hB
  intro H locs ls hRp hS hL
  refine lv_idiv hx hb d (fun h => ?_) ?_
  · have := (iI_eq (by omega) (by omega)).mp (h.trans iI_0.symm)
    omega
  · rw [iI_div hu hv]
    exact kk H locs ls hRp hS hL
theorem y_irem {x : gX} {G : gG} {b cl sl nL : Nat} {own nm : String} {cc : ByteArray} {ret : Option FieldType} {rm : Room} {n : Int} {w : Int → va_E} {pc : Nat} {lv : List (Nat × Value)} {st : List Value} (hB : Bx x G b own cc nL ret rm nm) {u v : Int} (d : decode cc pc = .ok (.irem, 1)) (hu : 0 ≤ u ∧ u ≤ 2147483647) (hv : 0 < v ∧ v ≤ 2147483647) (kk : Y x G b cl sl n w (pc + 1) lv (.int (iI (u % v)) :: st)) : Y x G b cl sl n w (pc) lv (.int (iI v) :: .int (iI u) :: st) := by
  obtain ⟨hx, hb, hml, hown, hts, hK, hbs, hlk, hrt, hR, hnm⟩ := hB
  intro H locs ls hRp hS hL
  refine lv_irem hx hb d (fun h => ?_) ?_
  · have := (iI_eq (by omega) (by omega)).mp (h.trans iI_0.symm)
    omega
  · rw [iI_rem hu hv]
    exact kk H locs ls hRp hS hL
theorem y_dup {x : gX} {G : gG} {b cl sl nL : Nat} {own nm : String} {cc : ByteArray} {ret : Option FieldType} {rm : Room} {n : Int} {w : Int → va_E} {pc : Nat} {lv : List (Nat × Value)} {st : List Value} (hB : Bx x G b own cc nL ret rm nm) {v : Value} (d : decode cc pc = .ok (.dup, 1)) (hv : v.category = 1) (kk : Y x G b cl sl n w (pc + 1) lv (v :: v :: st)) : Y x G b cl sl n w (pc) lv (v :: st) := by
  obtain ⟨hx, hb, hml, hown, hts, hK, hbs, hlk, hrt, hR, hnm⟩ := hB
  intro H locs ls hRp hS hL
  exact lv_dup hx hb d hv (kk H locs ls hRp hS hL)
theorem y_dup2 {x : gX} {G : gG} {b cl sl nL : Nat} {own nm : String} {cc : ByteArray} {ret : Option FieldType} {rm : Room} {n : Int} {w : Int → va_E} {pc : Nat} {lv : List (Nat × Value)} {st : List Value} (hB : Bx x G b own cc nL ret rm nm) {u v : Value} (d : decode cc pc = .ok (.dup2, 1)) (hv : v.category = 1) (hu : u.category = 1) (kk : Y x G b cl sl n w (pc + 1) lv (v :: u :: v :: u :: st)) : Y x G b cl sl n w (pc) lv (v :: u :: st) := by
  obtain ⟨hx, hb, hml, hown, hts, hK, hbs, hlk, hrt, hR, hnm⟩ := hB
  intro H locs ls hRp hS hL
  exact lv_dup2_11 hx hb d hv hu (kk H locs ls hRp hS hL)
theorem y_pop {x : gX} {G : gG} {b cl sl nL : Nat} {own nm : String} {cc : ByteArray} {ret : Option FieldType} {rm : Room} {n : Int} {w : Int → va_E} {pc : Nat} {lv : List (Nat × Value)} {st : List Value} (hB : Bx x G b own cc nL ret rm nm) {v : Value} (d : decode cc pc = .ok (.pop, 1)) (hv : v.category = 1) (kk : Y x G b cl sl n w (pc + 1) lv (st)) : Y x G b cl sl n w (pc) lv (v :: st) := by
  obtain ⟨hx, hb, hml, hown, hts, hK, hbs, hlk, hrt, hR, hnm⟩ := hB
  intro H locs ls hRp hS hL
  exact lv_pop hx hb d hv (kk H locs ls hRp hS hL)
theorem y_goto {x : gX} {G : gG} {b cl sl nL : Nat} {own nm : String} {cc : ByteArray} {ret : Option FieldType} {rm : Room} {n : Int} {w : Int → va_E} {pc : Nat} {lv : List (Nat × Value)} {st : List Value} (hB : Bx x G b own cc nL ret rm nm) (tgt : Nat) {off : Int} (d : decode cc pc = .ok (.goto off, 3)) (ht : (pc : Int) + off = (tgt : Int)) (kk : Y x G b cl sl n w (tgt) lv (st)) : Y x G b cl sl n w (pc) lv (st) := by
  obtain ⟨hx, hb, hml, hown, hts, hK, hbs, hlk, hrt, hR, hnm⟩ := hB
  intro H locs ls hRp hS hL
  exact lv_goto hx hb d ht (kk H locs ls hRp hS hL)
theorem y_null {x : gX} {G : gG} {b cl sl nL : Nat} {own nm : String} {cc : ByteArray} {ret : Option FieldType} {rm : Room} {n : Int} {w : Int → va_E} {pc : Nat} {lv : List (Nat × Value)} {st : List Value} (hB : Bx x G b own cc nL ret rm nm) (d : decode cc pc = .ok (.aconst_null, 1)) (kk : Y x G b cl sl n w (pc + 1) lv (.null :: st)) : Y x G b cl sl n w (pc) lv (st) := by
  obtain ⟨hx, hb, hml, hown, hts, hK, hbs, hlk, hrt, hR, hnm⟩ := hB
  intro H locs ls hRp hS hL
  exact lv_null hx hb d (kk H locs ls hRp hS hL)
theorem y_ifnull {x : gX} {G : gG} {b cl sl nL : Nat} {own nm : String} {cc : ByteArray} {ret : Option FieldType} {rm : Room} {n : Int} {w : Int → va_E} {pc : Nat} {lv : List (Nat × Value)} {st : List Value} (hB : Bx x G b own cc nL ret rm nm) {v : Nat} {off : Int} (d : decode cc pc = .ok (.ifnull off, 3)) (kk : Y x G b cl sl n w (pc + 3) lv (st)) : Y x G b cl sl n w (pc) lv (.ref v :: st) := by
  obtain ⟨hx, hb, hml, hown, hts, hK, hbs, hlk, hrt, hR, hnm⟩ := hB
  intro H locs ls hRp hS hL
  exact lv_ifnull hx hb d (kk H locs ls hRp hS hL)
theorem y_ifnonnull {x : gX} {G : gG} {b cl sl nL : Nat} {own nm : String} {cc : ByteArray} {ret : Option FieldType} {rm : Room} {n : Int} {w : Int → va_E} {pc : Nat} {lv : List (Nat × Value)} {st : List Value} (hB : Bx x G b own cc nL ret rm nm) (tgt : Nat) {v : Nat} {off : Int} (d : decode cc pc = .ok (.ifnonnull off, 3)) (ht : (pc : Int) + off = (tgt : Int)) (kk : Y x G b cl sl n w (tgt) lv (st)) : Y x G b cl sl n w (pc) lv (.ref v :: st) := by
  obtain ⟨hx, hb, hml, hown, hts, hK, hbs, hlk, hrt, hR, hnm⟩ := hB
  intro H locs ls hRp hS hL
  exact lv_ifnonnull hx hb d ht (kk H locs ls hRp hS hL)
theorem y_ifnullN {x : gX} {G : gG} {b cl sl nL : Nat} {own nm : String} {cc : ByteArray} {ret : Option FieldType} {rm : Room} {n : Int} {w : Int → va_E} {pc : Nat} {lv : List (Nat × Value)} {st : List Value} (hB : Bx x G b own cc nL ret rm nm) (tgt : Nat) {off : Int} (d : decode cc pc = .ok (.ifnull off, 3)) (ht : (pc : Int) + off = (tgt : Int)) (kk : Y x G b cl sl n w (tgt) lv (st)) : Y x G b cl sl n w (pc) lv (.null :: st) := by
  obtain ⟨hx, hb, hml, hown, hts, hK, hbs, hlk, hrt, hR, hnm⟩ := hB
  intro H locs ls hRp hS hL
  exact lv_ifnullN hx hb d ht (kk H locs ls hRp hS hL)
theorem y_ifnonnullN {x : gX} {G : gG} {b cl sl nL : Nat} {own nm : String} {cc : ByteArray} {ret : Option FieldType} {rm : Room} {n : Int} {w : Int → va_E} {pc : Nat} {lv : List (Nat × Value)} {st : List Value} (hB : Bx x G b own cc nL ret rm nm) {off : Int} (d : decode cc pc = .ok (.ifnonnull off, 3)) (kk : Y x G b cl sl n w (pc + 3) lv (st)) : Y x G b cl sl n w (pc) lv (.null :: st) := by
  obtain ⟨hx, hb, hml, hown, hts, hK, hbs, hlk, hrt, hR, hnm⟩ := hB
  intro H locs ls hRp hS hL
  exact lv_ifnonnullN hx hb d (kk H locs ls hRp hS hL)
theorem y_icmp_eq {x : gX} {G : gG} {b cl sl nL : Nat} {own nm : String} {cc : ByteArray} {ret : Option FieldType} {rm : Room} {n : Int} {w : Int → va_E} {pc : Nat} {lv : List (Nat × Value)} {st : List Value} (hB : Bx x G b own cc nL ret rm nm) (tgt : Nat) {u v off : Int} (d : decode cc pc = .ok (.if_icmp .eq off, 3)) (ht : (pc : Int) + off = (tgt : Int)) (hu : -2147483648 ≤ u ∧ u ≤ 2147483647) (hv : -2147483648 ≤ v ∧ v ≤ 2147483647) (kt : u = v → Y x G b cl sl n w (tgt) lv (st)) (kf : ¬ (u = v) → Y x G b cl sl n w (pc + 3) lv (st)) : Y x G b cl sl n w (pc) lv (.int (iI v) :: .int (iI u) :: st) := by
  obtain ⟨hx, hb, hml, hown, hts, hK, hbs, hlk, hrt, hR, hnm⟩ := hB
  intro H locs ls hRp hS hL
  exact lv_icmp_eq hx hb d ht (fun h => kt ((iI_eq hu hv).mp h) H locs ls hRp hS hL) (fun h => kf (fun e => h ((iI_eq hu hv).mpr e)) H locs ls hRp hS hL)
theorem y_if_eq {x : gX} {G : gG} {b cl sl nL : Nat} {own nm : String} {cc : ByteArray} {ret : Option FieldType} {rm : Room} {n : Int} {w : Int → va_E} {pc : Nat} {lv : List (Nat × Value)} {st : List Value} (hB : Bx x G b own cc nL ret rm nm) (tgt : Nat) {u off : Int} (d : decode cc pc = .ok (.ifCond .eq off, 3)) (ht : (pc : Int) + off = (tgt : Int)) (hu : -2147483648 ≤ u ∧ u ≤ 2147483647) (kt : u = 0 → Y x G b cl sl n w (tgt) lv (st)) (kf : ¬ (u = 0) → Y x G b cl sl n w (pc + 3) lv (st)) : Y x G b cl sl n w (pc) lv (.int (iI u) :: st) := by
  obtain ⟨hx, hb, hml, hown, hts, hK, hbs, hlk, hrt, hR, hnm⟩ := hB
  intro H locs ls hRp hS hL
  exact lv_if_eq hx hb d ht (fun h => kt ((iI_eq hu (by omega : (-2147483648:Int) ≤ 0 ∧ (0:Int) ≤ 2147483647)).mp (by rw [iI_0]; exact h)) H locs ls hRp hS hL) (fun h => kf (fun e => h (by have h9 := (iI_eq hu (by omega : (-2147483648:Int) ≤ 0 ∧ (0:Int) ≤ 2147483647)).mpr e; rw [iI_0] at h9; exact h9)) H locs ls hRp hS hL)
theorem y_icmp_ne {x : gX} {G : gG} {b cl sl nL : Nat} {own nm : String} {cc : ByteArray} {ret : Option FieldType} {rm : Room} {n : Int} {w : Int → va_E} {pc : Nat} {lv : List (Nat × Value)} {st : List Value} (hB : Bx x G b own cc nL ret rm nm) (tgt : Nat) {u v off : Int} (d : decode cc pc = .ok (.if_icmp .ne off, 3)) (ht : (pc : Int) + off = (tgt : Int)) (hu : -2147483648 ≤ u ∧ u ≤ 2147483647) (hv : -2147483648 ≤ v ∧ v ≤ 2147483647) (kt : ¬ u = v → Y x G b cl sl n w (tgt) lv (st)) (kf : u = v → Y x G b cl sl n w (pc + 3) lv (st)) : Y x G b cl sl n w (pc) lv (.int (iI v) :: .int (iI u) :: st) := by
  obtain ⟨hx, hb, hml, hown, hts, hK, hbs, hlk, hrt, hR, hnm⟩ := hB
  intro H locs ls hRp hS hL
  exact lv_icmp_ne hx hb d ht (fun h => kt (fun e => h (congrArg iI e)) H locs ls hRp hS hL) (fun h => kf ((iI_eq hu hv).mp h) H locs ls hRp hS hL)
theorem y_if_ne {x : gX} {G : gG} {b cl sl nL : Nat} {own nm : String} {cc : ByteArray} {ret : Option FieldType} {rm : Room} {n : Int} {w : Int → va_E} {pc : Nat} {lv : List (Nat × Value)} {st : List Value} (hB : Bx x G b own cc nL ret rm nm) (tgt : Nat) {u off : Int} (d : decode cc pc = .ok (.ifCond .ne off, 3)) (ht : (pc : Int) + off = (tgt : Int)) (hu : -2147483648 ≤ u ∧ u ≤ 2147483647) (kt : ¬ u = 0 → Y x G b cl sl n w (tgt) lv (st)) (kf : u = 0 → Y x G b cl sl n w (pc + 3) lv (st)) : Y x G b cl sl n w (pc) lv (.int (iI u) :: st) := by
  obtain ⟨hx, hb, hml, hown, hts, hK, hbs, hlk, hrt, hR, hnm⟩ := hB
  intro H locs ls hRp hS hL
  exact lv_if_ne hx hb d ht (fun h => kt (fun e => h (by rw [e, iI_0])) H locs ls hRp hS hL) (fun h => kf ((iI_eq hu (by omega : (-2147483648:Int) ≤ 0 ∧ (0:Int) ≤ 2147483647)).mp (by rw [iI_0]; exact h)) H locs ls hRp hS hL)
theorem y_icmp_lt {x : gX} {G : gG} {b cl sl nL : Nat} {own nm : String} {cc : ByteArray} {ret : Option FieldType} {rm : Room} {n : Int} {w : Int → va_E} {pc : Nat} {lv : List (Nat × Value)} {st : List Value} (hB : Bx x G b own cc nL ret rm nm) (tgt : Nat) {u v off : Int} (d : decode cc pc = .ok (.if_icmp .lt off, 3)) (ht : (pc : Int) + off = (tgt : Int)) (hu : -2147483648 ≤ u ∧ u ≤ 2147483647) (hv : -2147483648 ≤ v ∧ v ≤ 2147483647) (kt : u < v → Y x G b cl sl n w (tgt) lv (st)) (kf : ¬ (u < v) → Y x G b cl sl n w (pc + 3) lv (st)) : Y x G b cl sl n w (pc) lv (.int (iI v) :: .int (iI u) :: st) := by
  obtain ⟨hx, hb, hml, hown, hts, hK, hbs, hlk, hrt, hR, hnm⟩ := hB
  intro H locs ls hRp hS hL
  exact lv_icmp_lt hx hb d ht (fun h => kt ((iI_lt hu hv).mp h) H locs ls hRp hS hL) (fun h => kf (fun e => h ((iI_lt hu hv).mpr e)) H locs ls hRp hS hL)
theorem y_if_lt {x : gX} {G : gG} {b cl sl nL : Nat} {own nm : String} {cc : ByteArray} {ret : Option FieldType} {rm : Room} {n : Int} {w : Int → va_E} {pc : Nat} {lv : List (Nat × Value)} {st : List Value} (hB : Bx x G b own cc nL ret rm nm) (tgt : Nat) {u off : Int} (d : decode cc pc = .ok (.ifCond .lt off, 3)) (ht : (pc : Int) + off = (tgt : Int)) (hu : -2147483648 ≤ u ∧ u ≤ 2147483647) (kt : u < 0 → Y x G b cl sl n w (tgt) lv (st)) (kf : ¬ (u < 0) → Y x G b cl sl n w (pc + 3) lv (st)) : Y x G b cl sl n w (pc) lv (.int (iI u) :: st) := by
  obtain ⟨hx, hb, hml, hown, hts, hK, hbs, hlk, hrt, hR, hnm⟩ := hB
  intro H locs ls hRp hS hL
  exact lv_if_lt hx hb d ht (fun h => kt ((iI_lt hu (by omega : (-2147483648:Int) ≤ 0 ∧ (0:Int) ≤ 2147483647)).mp (by rw [iI_0]; exact h)) H locs ls hRp hS hL) (fun h => kf (fun e => h (by have h9 := (iI_lt hu (by omega : (-2147483648:Int) ≤ 0 ∧ (0:Int) ≤ 2147483647)).mpr e; rw [iI_0] at h9; exact h9)) H locs ls hRp hS hL)
theorem y_icmp_ge {x : gX} {G : gG} {b cl sl nL : Nat} {own nm : String} {cc : ByteArray} {ret : Option FieldType} {rm : Room} {n : Int} {w : Int → va_E} {pc : Nat} {lv : List (Nat × Value)} {st : List Value} (hB : Bx x G b own cc nL ret rm nm) (tgt : Nat) {u v off : Int} (d : decode cc pc = .ok (.if_icmp .ge off, 3)) (ht : (pc : Int) + off = (tgt : Int)) (hu : -2147483648 ≤ u ∧ u ≤ 2147483647) (hv : -2147483648 ≤ v ∧ v ≤ 2147483647) (kt : v ≤ u → Y x G b cl sl n w (tgt) lv (st)) (kf : ¬ (v ≤ u) → Y x G b cl sl n w (pc + 3) lv (st)) : Y x G b cl sl n w (pc) lv (.int (iI v) :: .int (iI u) :: st) := by
  obtain ⟨hx, hb, hml, hown, hts, hK, hbs, hlk, hrt, hR, hnm⟩ := hB
  intro H locs ls hRp hS hL
  exact lv_icmp_ge hx hb d ht (fun h => kt ((iI_le hv hu).mp h) H locs ls hRp hS hL) (fun h => kf (fun e => h ((iI_le hv hu).mpr e)) H locs ls hRp hS hL)
theorem y_if_ge {x : gX} {G : gG} {b cl sl nL : Nat} {own nm : String} {cc : ByteArray} {ret : Option FieldType} {rm : Room} {n : Int} {w : Int → va_E} {pc : Nat} {lv : List (Nat × Value)} {st : List Value} (hB : Bx x G b own cc nL ret rm nm) (tgt : Nat) {u off : Int} (d : decode cc pc = .ok (.ifCond .ge off, 3)) (ht : (pc : Int) + off = (tgt : Int)) (hu : -2147483648 ≤ u ∧ u ≤ 2147483647) (kt : 0 ≤ u → Y x G b cl sl n w (tgt) lv (st)) (kf : ¬ (0 ≤ u) → Y x G b cl sl n w (pc + 3) lv (st)) : Y x G b cl sl n w (pc) lv (.int (iI u) :: st) := by
  obtain ⟨hx, hb, hml, hown, hts, hK, hbs, hlk, hrt, hR, hnm⟩ := hB
  intro H locs ls hRp hS hL
  exact lv_if_ge hx hb d ht (fun h => kt ((iI_le (by omega : (-2147483648:Int) ≤ 0 ∧ (0:Int) ≤ 2147483647) hu).mp (by rw [iI_0]; exact h)) H locs ls hRp hS hL) (fun h => kf (fun e => h (by have h9 := (iI_le (by omega : (-2147483648:Int) ≤ 0 ∧ (0:Int) ≤ 2147483647) hu).mpr e; rw [iI_0] at h9; exact h9)) H locs ls hRp hS hL)
theorem y_icmp_gt {x : gX} {G : gG} {b cl sl nL : Nat} {own nm : String} {cc : ByteArray} {ret : Option FieldType} {rm : Room} {n : Int} {w : Int → va_E} {pc : Nat} {lv : List (Nat × Value)} {st : List Value} (hB : Bx x G b own cc nL ret rm nm) (tgt : Nat) {u v off : Int} (d : decode cc pc = .ok (.if_icmp .gt off, 3)) (ht : (pc : Int) + off = (tgt : Int)) (hu : -2147483648 ≤ u ∧ u ≤ 2147483647) (hv : -2147483648 ≤ v ∧ v ≤ 2147483647) (kt : v < u → Y x G b cl sl n w (tgt) lv (st)) (kf : ¬ (v < u) → Y x G b cl sl n w (pc + 3) lv (st)) : Y x G b cl sl n w (pc) lv (.int (iI v) :: .int (iI u) :: st) := by
  obtain ⟨hx, hb, hml, hown, hts, hK, hbs, hlk, hrt, hR, hnm⟩ := hB
  intro H locs ls hRp hS hL
  exact lv_icmp_gt hx hb d ht (fun h => kt ((iI_lt hv hu).mp h) H locs ls hRp hS hL) (fun h => kf (fun e => h ((iI_lt hv hu).mpr e)) H locs ls hRp hS hL)
theorem y_if_gt {x : gX} {G : gG} {b cl sl nL : Nat} {own nm : String} {cc : ByteArray} {ret : Option FieldType} {rm : Room} {n : Int} {w : Int → va_E} {pc : Nat} {lv : List (Nat × Value)} {st : List Value} (hB : Bx x G b own cc nL ret rm nm) (tgt : Nat) {u off : Int} (d : decode cc pc = .ok (.ifCond .gt off, 3)) (ht : (pc : Int) + off = (tgt : Int)) (hu : -2147483648 ≤ u ∧ u ≤ 2147483647) (kt : 0 < u → Y x G b cl sl n w (tgt) lv (st)) (kf : ¬ (0 < u) → Y x G b cl sl n w (pc + 3) lv (st)) : Y x G b cl sl n w (pc) lv (.int (iI u) :: st) := by
  obtain ⟨hx, hb, hml, hown, hts, hK, hbs, hlk, hrt, hR, hnm⟩ := hB
  intro H locs ls hRp hS hL
  exact lv_if_gt hx hb d ht (fun h => kt ((iI_lt (by omega : (-2147483648:Int) ≤ 0 ∧ (0:Int) ≤ 2147483647) hu).mp (by rw [iI_0]; exact h)) H locs ls hRp hS hL) (fun h => kf (fun e => h (by have h9 := (iI_lt (by omega : (-2147483648:Int) ≤ 0 ∧ (0:Int) ≤ 2147483647) hu).mpr e; rw [iI_0] at h9; exact h9)) H locs ls hRp hS hL)
theorem y_icmp_le {x : gX} {G : gG} {b cl sl nL : Nat} {own nm : String} {cc : ByteArray} {ret : Option FieldType} {rm : Room} {n : Int} {w : Int → va_E} {pc : Nat} {lv : List (Nat × Value)} {st : List Value} (hB : Bx x G b own cc nL ret rm nm) (tgt : Nat) {u v off : Int} (d : decode cc pc = .ok (.if_icmp .le off, 3)) (ht : (pc : Int) + off = (tgt : Int)) (hu : -2147483648 ≤ u ∧ u ≤ 2147483647) (hv : -2147483648 ≤ v ∧ v ≤ 2147483647) (kt : u ≤ v → Y x G b cl sl n w (tgt) lv (st)) (kf : ¬ (u ≤ v) → Y x G b cl sl n w (pc + 3) lv (st)) : Y x G b cl sl n w (pc) lv (.int (iI v) :: .int (iI u) :: st) := by
  obtain ⟨hx, hb, hml, hown, hts, hK, hbs, hlk, hrt, hR, hnm⟩ := hB
  intro H locs ls hRp hS hL
  exact lv_icmp_le hx hb d ht (fun h => kt ((iI_le hu hv).mp h) H locs ls hRp hS hL) (fun h => kf (fun e => h ((iI_le hu hv).mpr e)) H locs ls hRp hS hL)
theorem y_if_le {x : gX} {G : gG} {b cl sl nL : Nat} {own nm : String} {cc : ByteArray} {ret : Option FieldType} {rm : Room} {n : Int} {w : Int → va_E} {pc : Nat} {lv : List (Nat × Value)} {st : List Value} (hB : Bx x G b own cc nL ret rm nm) (tgt : Nat) {u off : Int} (d : decode cc pc = .ok (.ifCond .le off, 3)) (ht : (pc : Int) + off = (tgt : Int)) (hu : -2147483648 ≤ u ∧ u ≤ 2147483647) (kt : u ≤ 0 → Y x G b cl sl n w (tgt) lv (st)) (kf : ¬ (u ≤ 0) → Y x G b cl sl n w (pc + 3) lv (st)) : Y x G b cl sl n w (pc) lv (.int (iI u) :: st) := by
  obtain ⟨hx, hb, hml, hown, hts, hK, hbs, hlk, hrt, hR, hnm⟩ := hB
  intro H locs ls hRp hS hL
  exact lv_if_le hx hb d ht (fun h => kt ((iI_le hu (by omega : (-2147483648:Int) ≤ 0 ∧ (0:Int) ≤ 2147483647)).mp (by rw [iI_0]; exact h)) H locs ls hRp hS hL) (fun h => kf (fun e => h (by have h9 := (iI_le hu (by omega : (-2147483648:Int) ≤ 0 ∧ (0:Int) ≤ 2147483647)).mpr e; rw [iI_0] at h9; exact h9)) H locs ls hRp hS hL)
theorem y_ldcf {x : gX} {G : gG} {b cl sl nL : Nat} {own nm : String} {cc : ByteArray} {ret : Option FieldType} {rm : Room} {n : Int} {w : Int → va_E} {pc : Nat} {lv : List (Nat × Value)} {st : List Value} (hB : Bx x G b own cc nL ret rm nm) {index : Nat} {v : UInt32} (hq : (.constantFloat own index v : Cond) ∈ lw_g) (d : decode cc pc = .ok (.ldc index, 2)) (kk : Y x G b cl sl n w (pc + 2) lv (.float v :: st)) : Y x G b cl sl n w (pc) lv (st) := by
  obtain ⟨hx, hb, hml, hown, hts, hK, hbs, hlk, hrt, hR, hnm⟩ := hB
  intro H locs ls hRp hS hL
  exact lv_ldcf hx hb hown (hts _ hq) d (kk H locs ls hRp hS hL)
theorem y_fconst0 {x : gX} {G : gG} {b cl sl nL : Nat} {own nm : String} {cc : ByteArray} {ret : Option FieldType} {rm : Room} {n : Int} {w : Int → va_E} {pc : Nat} {lv : List (Nat × Value)} {st : List Value} (hB : Bx x G b own cc nL ret rm nm) (d : decode cc pc = .ok (.fconst 0, 1)) (kk : Y x G b cl sl n w (pc + 1) lv (.float FP.fconst0 :: st)) : Y x G b cl sl n w (pc) lv (st) := by
  obtain ⟨hx, hb, hml, hown, hts, hK, hbs, hlk, hrt, hR, hnm⟩ := hB
  intro H locs ls hRp hS hL
  exact lv_fconst0 hx hb d (kk H locs ls hRp hS hL)
theorem y_fconst1 {x : gX} {G : gG} {b cl sl nL : Nat} {own nm : String} {cc : ByteArray} {ret : Option FieldType} {rm : Room} {n : Int} {w : Int → va_E} {pc : Nat} {lv : List (Nat × Value)} {st : List Value} (hB : Bx x G b own cc nL ret rm nm) (d : decode cc pc = .ok (.fconst 1, 1)) (kk : Y x G b cl sl n w (pc + 1) lv (.float FP.fconst1 :: st)) : Y x G b cl sl n w (pc) lv (st) := by
  obtain ⟨hx, hb, hml, hown, hts, hK, hbs, hlk, hrt, hR, hnm⟩ := hB
  intro H locs ls hRp hS hL
  exact lv_fconst1 hx hb d (kk H locs ls hRp hS hL)
theorem y_fconst2 {x : gX} {G : gG} {b cl sl nL : Nat} {own nm : String} {cc : ByteArray} {ret : Option FieldType} {rm : Room} {n : Int} {w : Int → va_E} {pc : Nat} {lv : List (Nat × Value)} {st : List Value} (hB : Bx x G b own cc nL ret rm nm) (d : decode cc pc = .ok (.fconst 2, 1)) (kk : Y x G b cl sl n w (pc + 1) lv (.float FP.fconst2 :: st)) : Y x G b cl sl n w (pc) lv (st) := by
  obtain ⟨hx, hb, hml, hown, hts, hK, hbs, hlk, hrt, hR, hnm⟩ := hB
  intro H locs ls hRp hS hL
  exact lv_fconst2 hx hb d (kk H locs ls hRp hS hL)
theorem y_fadd {x : gX} {G : gG} {b cl sl nL : Nat} {own nm : String} {cc : ByteArray} {ret : Option FieldType} {rm : Room} {n : Int} {w : Int → va_E} {pc : Nat} {lv : List (Nat × Value)} {st : List Value} (hB : Bx x G b own cc nL ret rm nm) {u v : UInt32} (d : decode cc pc = .ok (.fadd, 1)) (hne : vf_n32 (FP.fadd u v)) (kk : Y x G b cl sl n w (pc + 1) lv (.float (FP.fadd u v) :: st)) : Y x G b cl sl n w (pc) lv (.float v :: .float u :: st) := by
  obtain ⟨hx, hb, hml, hown, hts, hK, hbs, hlk, hrt, hR, hnm⟩ := hB
  intro H locs ls hRp hS hL
  exact lv_fadd hx hb d hne (kk H locs ls hRp hS hL)
theorem y_fsub {x : gX} {G : gG} {b cl sl nL : Nat} {own nm : String} {cc : ByteArray} {ret : Option FieldType} {rm : Room} {n : Int} {w : Int → va_E} {pc : Nat} {lv : List (Nat × Value)} {st : List Value} (hB : Bx x G b own cc nL ret rm nm) {u v : UInt32} (d : decode cc pc = .ok (.fsub, 1)) (hne : vf_n32 (FP.fsub u v)) (kk : Y x G b cl sl n w (pc + 1) lv (.float (FP.fsub u v) :: st)) : Y x G b cl sl n w (pc) lv (.float v :: .float u :: st) := by
  obtain ⟨hx, hb, hml, hown, hts, hK, hbs, hlk, hrt, hR, hnm⟩ := hB
  intro H locs ls hRp hS hL
  exact lv_fsub hx hb d hne (kk H locs ls hRp hS hL)
theorem y_fmul {x : gX} {G : gG} {b cl sl nL : Nat} {own nm : String} {cc : ByteArray} {ret : Option FieldType} {rm : Room} {n : Int} {w : Int → va_E} {pc : Nat} {lv : List (Nat × Value)} {st : List Value} (hB : Bx x G b own cc nL ret rm nm) {u v : UInt32} (d : decode cc pc = .ok (.fmul, 1)) (hne : vf_n32 (FP.fmul u v)) (kk : Y x G b cl sl n w (pc + 1) lv (.float (FP.fmul u v) :: st)) : Y x G b cl sl n w (pc) lv (.float v :: .float u :: st) := by
  obtain ⟨hx, hb, hml, hown, hts, hK, hbs, hlk, hrt, hR, hnm⟩ := hB
  intro H locs ls hRp hS hL
  exact lv_fmul hx hb d hne (kk H locs ls hRp hS hL)
theorem y_fdiv {x : gX} {G : gG} {b cl sl nL : Nat} {own nm : String} {cc : ByteArray} {ret : Option FieldType} {rm : Room} {n : Int} {w : Int → va_E} {pc : Nat} {lv : List (Nat × Value)} {st : List Value} (hB : Bx x G b own cc nL ret rm nm) {u v : UInt32} (d : decode cc pc = .ok (.fdiv, 1)) (hne : vf_n32 (FP.fdiv u v)) (kk : Y x G b cl sl n w (pc + 1) lv (.float (FP.fdiv u v) :: st)) : Y x G b cl sl n w (pc) lv (.float v :: .float u :: st) := by
  obtain ⟨hx, hb, hml, hown, hts, hK, hbs, hlk, hrt, hR, hnm⟩ := hB
  intro H locs ls hRp hS hL
  exact lv_fdiv hx hb d hne (kk H locs ls hRp hS hL)
theorem y_i2f {x : gX} {G : gG} {b cl sl nL : Nat} {own nm : String} {cc : ByteArray} {ret : Option FieldType} {rm : Room} {n : Int} {w : Int → va_E} {pc : Nat} {lv : List (Nat × Value)} {st : List Value} (hB : Bx x G b own cc nL ret rm nm) {u : Int32} (d : decode cc pc = .ok (.i2f, 1)) (kk : Y x G b cl sl n w (pc + 1) lv (.float (FP.i2f u) :: st)) : Y x G b cl sl n w (pc) lv (.int u :: st) := by
  obtain ⟨hx, hb, hml, hown, hts, hK, hbs, hlk, hrt, hR, hnm⟩ := hB
  intro H locs ls hRp hS hL
  exact lv_i2f hx hb d (kk H locs ls hRp hS hL)
theorem y_f2i {x : gX} {G : gG} {b cl sl nL : Nat} {own nm : String} {cc : ByteArray} {ret : Option FieldType} {rm : Room} {n : Int} {w : Int → va_E} {pc : Nat} {lv : List (Nat × Value)} {st : List Value} (hB : Bx x G b own cc nL ret rm nm) {u : UInt32} (d : decode cc pc = .ok (.f2i, 1)) (kk : Y x G b cl sl n w (pc + 1) lv (.int (FP.f2i u) :: st)) : Y x G b cl sl n w (pc) lv (.float u :: st) := by
  obtain ⟨hx, hb, hml, hown, hts, hK, hbs, hlk, hrt, hR, hnm⟩ := hB
  intro H locs ls hRp hS hL
  exact lv_f2i hx hb d (kk H locs ls hRp hS hL)
theorem y_fcmp {x : gX} {G : gG} {b cl sl nL : Nat} {own nm : String} {cc : ByteArray} {ret : Option FieldType} {rm : Room} {n : Int} {w : Int → va_E} {pc : Nat} {lv : List (Nat × Value)} {st : List Value} (hB : Bx x G b own cc nL ret rm nm) {op : CmpOp} {u v : UInt32} (d : decode cc pc = .ok (.fcmp op, 1)) (kk : Y x G b cl sl n w (pc + 1) lv (.int (iI (cmpI (FP.fcmp u v) op)) :: st)) : Y x G b cl sl n w pc lv (.float v :: .float u :: st) := by
  obtain ⟨hx, hb, hml, hown, hts, hK, hbs, hlk, hrt, hR, hnm⟩ := hB
  intro H locs ls hRp hS hL
  refine lv_fcmp hx hb d ?_
  rw [cmpI_v]
  exact kk H locs ls hRp hS hL
theorem y_widen {x : gX} {G : gG} {b cl sl cl' sl' : Nat} {n : Int} {w : Int → va_E} {pc : Nat} {lv : List (Nat × Value)} {st : List Value} (h1 : cl ≤ cl') (h2 : sl ≤ sl') (kk : Y x G b cl' sl' n w pc lv st) : Y x G b cl sl n w pc lv st := fun H locs ls hRp hS hL => W.widen h1 h2 (kk H locs ls hRp hS hL)
theorem y_sub {x : gX} {G : gG} {b cl sl : Nat} {n : Int} {w : Int → va_E} {pc : Nat} {lv lv' : List (Nat × Value)} {st : List Value} (ks : List Nat) (h : lv_pick lv ks = lv') (kk : Y x G b cl sl n w pc lv' st) : Y x G b cl sl n w pc lv st := fun H locs ls hRp hS hL => kk H locs ls hRp hS (lv_sub hL ks h)
/-- the ends -/
theorem y_iret {x : gX} {G : gG} {b cl sl nL : Nat} {own nm : String} {cc : ByteArray} {ty : FieldType} {rm : Room} {n : Int} {w : Int → va_E} {pc : Nat} {lv : List (Nat × Value)} (hB : Bx x G b own cc nL (some ty) rm nm) {Po : gP} {v : Int} (hE : Ex x G b Po cl sl) (d : decode cc pc = .ok (.ireturn, 1)) (hn : narrow ty (.int (iI v)) = .int (iI v)) (hP : Po (some (.int (iI v))) n w) : Y x G b cl sl n w pc lv [.int (iI v)] := by
  obtain ⟨hx, hb, hml, hown, hts, hK, hbs, hlk, hrt, hR, hnm⟩ := hB
  intro H locs ls hRp hS hL
  unfold gW
  rw [hE]
  exact W.zret hx hb hrt hn (fun t ht hW => ⟨_, n, w, rfl, hP, by rw [ht]; exact hRp, hS.F ht⟩) (fun q hq => hS.2.2 q hq) d hlk
theorem y_fret {x : gX} {G : gG} {b cl sl nL : Nat} {own nm : String} {cc : ByteArray} {rm : Room} {n : Int} {w : Int → va_E} {pc : Nat} {lv : List (Nat × Value)} (hB : Bx x G b own cc nL (some .float) rm nm) {Po : gP} {v : UInt32} (hE : Ex x G b Po cl sl) (d : decode cc pc = .ok (.freturn, 1)) (hP : Po (some (.float v)) n w) : Y x G b cl sl n w pc lv [.float v] := by
  obtain ⟨hx, hb, hml, hown, hts, hK, hbs, hlk, hrt, hR, hnm⟩ := hB
  intro H locs ls hRp hS hL
  unfold gW
  rw [hE]
  exact W.fret hx hb hrt (fun t ht hW => ⟨_, n, w, rfl, hP, by rw [ht]; exact hRp, hS.F ht⟩) (fun q hq => hS.2.2 q hq) d hlk
theorem y_vret {x : gX} {G : gG} {b cl sl nL : Nat} {own nm : String} {cc : ByteArray} {rm : Room} {n : Int} {w : Int → va_E} {pc : Nat} {lv : List (Nat × Value)} (hB : Bx x G b own cc nL none rm nm) {Po : gP} (hE : Ex x G b Po cl sl) (d : decode cc pc = .ok (.return_, 1)) (hP : Po none n w) : Y x G b cl sl n w pc lv [] := by
  obtain ⟨hx, hb, hml, hown, hts, hK, hbs, hlk, hrt, hR, hnm⟩ := hB
  intro H locs ls hRp hS hL
  unfold gW
  rw [hE]
  exact W.vret hx hb hrt (fun t ht hW => ⟨_, n, w, rfl, hP, by rw [ht]; exact hRp, hS.F ht⟩) (fun q hq => hS.2.2 q hq) d hlk
theorem y_aret {x : gX} {G : gG} {b cl sl nL : Nat} {own nm C : String} {cc : ByteArray} {rm : Room} {n : Int} {w : Int → va_E} {pc : Nat} {lv : List (Nat × Value)} (hB : Bx x G b own cc nL (some (.object C)) rm nm) {Po : gP} {v : Value} (hE : Ex x G b Po cl sl) (d : decode cc pc = .ok (.areturn, 1)) (hv : v = .null ∨ ∃ a, v = .ref a) (hP : Po (some v) n w) : Y x G b cl sl n w pc lv [v] := by
  obtain ⟨hx, hb, hml, hown, hts, hK, hbs, hlk, hrt, hR, hnm⟩ := hB
  intro H locs ls hRp hS hL
  unfold gW
  rw [hE]
  exact W.aret hx hb hrt (Or.inl ⟨_, rfl⟩) hv (fun t ht hW => ⟨_, n, w, rfl, hP, by rw [ht]; exact hRp, hS.F ht⟩) (fun q hq => hS.2.2 q hq) d hlk
theorem Kx.call {G : gG} {U : State} {g : JFrame} {mk : MethodId} {a : Array Value} (h : Kx G U) : Kx G (U.calling g mk a) := Kx.moved (u := U) (U := U.calling g mk a) (Vm.Alike.refl U.vm) (fun w hw => va_Nw.same (by revert w; decide +kernel) (u := U) rfl (h.2.2.2 w hw)) h
theorem Kx.warm {G : gG} {s U : State} (hW : s.WarmedH U.vm) (h : Kx G s) : Kx G U := Kx.moved hW.alike (fun w hw => by
  have h9 := h.2.2.2 w hw
  simp only [nestW, List.mem_cons, List.not_mem_nil, or_false] at hw
  rcases hw with rfl | rfl | rfl | rfl | rfl | rfl | rfl <;> exact va_Nw.warmM hW h9) h
theorem Px.blind {G : gG} {b : Nat} {av : List Value} {n : Int} {w : Int → va_E} {K : State → Prop} (hK : ∀ (U : State) (g : JFrame) (mk : MethodId) (a : Array Value), K U → K (U.calling g mk a)) : FrameBlind (Px G b av n w K) := fun a U g mk h => ⟨h.1, h.2.1, h.2.2.1.call, hK U g mk a h.2.2.2⟩
/-- a contract out of its body -/
theorem CtK_of {l : Launch} {G : gG} {b : Nat} {K : State → Prop} {y : MethodName} {cc : ByteArray} {nL : Nat} {ret : Option FieldType} {rm : Room} {av : List Value} {n : Int} {w : Int → va_E} {Po : gP} (hy : plainName y.cls = true) (ha : (lg_sl av).length ≤ nL) (hw : (Cond.code y cc nL ret : Cond) ∈ lw_g)
    (body : ∀ x : gX, x.1.2.1 = l → Bx x G b y.cls cc nL ret rm y.name → Ex x G b Po rm.cells rm.slots → K (gs x) → Y x G b 0 0 n w 0 (lv_args 0 av) []) : CtK l G b K y cc nL ret rm av n w Po := by
  refine Met.ofW (cc := cc) (maxL := nL) (ret := ret) hy rfl ?_
  intro p e s m args below meth c s₁ B hml hv
  obtain ⟨rfl, hRp, hK, hKs⟩ := hv
  have hts0 := atoms_spec (ws := cw y cc nL ret) B.pre
  have hl := lv_entry av (n := nL) ha
  rw [lg_entry_eq]
  have hsz : ad b n = s.heap.size := hRp.2.1.symm
  refine body ((p, l, e, (headSpec (cw y cc nL ret) rm).room, s), (m, av.toArray, below, meth, c), MQ below (Qx G b Po) av.toArray s rm.cells rm.slots (fun q => b ≤ q)) rfl ⟨B.exec, B.bytes, hml, findClass_of_methodNamed B.named, fun w h => hts0 w (List.mem_cons_of_mem _ h), hK, by show b ≤ s.heap.size; rw [← hsz]; exact Nat.le_add_right _ _, B.notSynchronized, B.returns, rfl, (name_of_methodNamed B.named B.method).1⟩ rfl hKs s.heap [] _ hRp va_S.rf ?_
  show lv_has _ c.maxLocals _
  rw [hml]
  exact hl
theorem gk_ldcwF {p : Program} {l : Launch} {e : Env} {R : Room} {s : State} {m : MethodId} {args : Array Value} {below : List Frame} {meth : Method} {c : Code} {T : State} {locs : List Loc} {cells slots : Nat} (X : Stand p l e R s m args below meth c T locs cells slots) (hexec : p.tables.exec = Jvm.exec) {own : String} {index : Nat} {v : UInt32} (hown : s.vm.findClass own = some m.cls)
    (hconst : (Cond.constantFloat own index v).before args s = true) {g : JFrame} (hg : g.method = m) (hdg : decode c.code g.pc = .ok (.ldc_w index, 3)) :
    ∀ target, Steps p.tables e below (T.setTop { g with pc := g.pc + 3, stack := .float v :: g.stack }) target → Steps p.tables e below (T.setTop g) target := by
  obtain ⟨k, cf, hk, hcf, hcp⟩ := Cond.constantFloat_spec hown hconst
  obtain ⟨k', hk', he⟩ := X.warmed.alike.2.2 _ _ hk
  intro target hrest
  subst hg
  jvm_step X.here [hexec, hdg, ldc_w.wp_float (s := T) (f := g) X.here.top hk' (by rw [he]; exact hcf) hcp]
  exact hrest
theorem y_ldcwf {x : gX} {G : gG} {b cl sl nL : Nat} {own nm : String} {cc : ByteArray} {ret : Option FieldType} {rm : Room} {n : Int} {w : Int → va_E} {pc : Nat} {lv : List (Nat × Value)} {st : List Value} (hB : Bx x G b own cc nL ret rm nm) {index : Nat} {v : UInt32} (hq : (.constantFloat own index v : Cond) ∈ lw_g) (d : decode cc pc = .ok (.ldc_w index, 3)) (kk : Y x G b cl sl n w (pc + 3) lv (.float v :: st)) : Y x G b cl sl n w pc lv st := by
  obtain ⟨hx, hb, hml, hown, hts, hK, hbs, hlk, hrt, hR, hnm⟩ := hB
  intro H locs ls hRp hS hL T hT X
  obtain ⟨t, a, b⟩ := kk H locs ls hRp hS hL T hT X
  exact ⟨t, gk_ldcwF X hx hown (hts _ hq) (g := F0 x.2.1.1 pc ls st) rfl (by rw [hb]; exact d) t a, b⟩
theorem y_ldcwi {x : gX} {G : gG} {b cl sl nL : Nat} {own nm : String} {cc : ByteArray} {ret : Option FieldType} {rm : Room} {n : Int} {w : Int → va_E} {pc : Nat} {lv : List (Nat × Value)} {st : List Value} (hB : Bx x G b own cc nL ret rm nm) {index : Nat} {v : Int32} (hq : (.constant own index v : Cond) ∈ lw_g) (d : decode cc pc = .ok (.ldc_w index, 3)) (kk : Y x G b cl sl n w (pc + 3) lv (.int v :: st)) : Y x G b cl sl n w pc lv st := by
  obtain ⟨hx, hb, hml, hown, hts, hK, hbs, hlk, hrt, hR, hnm⟩ := hB
  intro H locs ls hRp hS hL
  exact lv_ldcw hx hb hown (hts _ hq) d (kk H locs ls hRp hS hL)
theorem y_tableIn {x : gX} {G : gG} {b cl sl nL : Nat} {own nm : String} {cc : ByteArray} {ret : Option FieldType} {rm : Room} {n : Int} {w : Int → va_E} {pc : Nat} {lv : List (Nat × Value)} {st : List Value} (hB : Bx x G b own cc nL ret rm nm) {dflt lo hi : Int} {offs : Array Int} {len : Nat} {u off : Int} (tgt : Nat) (d : decode cc pc = .ok (.tableswitch dflt lo hi offs, len)) (hu : -2147483648 ≤ u ∧ u ≤ 2147483647) (h1 : lo ≤ u ∧ u ≤ hi) (ho : offs[(u - lo).toNat]? = some off) (ht : (pc : Int) + off = (tgt : Int)) (kk : Y x G b cl sl n w tgt lv st) : Y x G b cl sl n w pc lv (.int (iI u) :: st) := by
  obtain ⟨hx, hb, hml, hown, hts, hK, hbs, hlk, hrt, hR, hnm⟩ := hB
  intro H locs ls hRp hS hL
  exact lv_tableIn hx hb d (by rw [iI_toInt hu]; omega) (by rw [iI_toInt hu]; omega) (by rw [iI_toInt hu]; exact ho) ht (kk H locs ls hRp hS hL)
theorem y_tableOut {x : gX} {G : gG} {b cl sl nL : Nat} {own nm : String} {cc : ByteArray} {ret : Option FieldType} {rm : Room} {n : Int} {w : Int → va_E} {pc : Nat} {lv : List (Nat × Value)} {st : List Value} (hB : Bx x G b own cc nL ret rm nm) {dflt lo hi : Int} {offs : Array Int} {len : Nat} {u : Int} (tgt : Nat) (d : decode cc pc = .ok (.tableswitch dflt lo hi offs, len)) (hu : -2147483648 ≤ u ∧ u ≤ 2147483647) (h1 : u < lo ∨ hi < u) (ht : (pc : Int) + dflt = (tgt : Int)) (kk : Y x G b cl sl n w tgt lv st) : Y x G b cl sl n w pc lv (.int (iI u) :: st) := by
  obtain ⟨hx, hb, hml, hown, hts, hK, hbs, hlk, hrt, hR, hnm⟩ := hB
  intro H locs ls hRp hS hL
  exact lv_tableOut hx hb d (by rw [iI_toInt hu]; exact h1) ht (kk H locs ls hRp hS hL)
