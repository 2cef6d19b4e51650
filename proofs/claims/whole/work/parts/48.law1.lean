/-! the law: what stands at its entry, its own rows -/
theorem eq_int {tm : Term} {args : Array Value} {s : State} {z : Int32} (h : (Cond.eq tm (.int z)).before args s = true) : tm.eval args s none [] s = some (.int z) := by
  cases hv : tm.eval args s none [] s with
  | none => simp [Cond.before, Cond.holds, Cond.value, hv] at h
  | some w =>
    have hz : (Term.int z).eval args s none [] s = some (.int z) := rfl
    simp only [Cond.before, Cond.holds, Cond.value, hv, hz] at h
    cases w <;> simp_all
theorem law_K {s : State} {av : Array Value} (hts : ∀ w ∈ lw_tbl, w.before av s = true) : ∃ G : gG, Kx G s := by
  have hg : ∀ w ∈ lw_g, w.before av s = true := fun w h => hts w (List.mem_filter.mp h).1
  obtain ⟨c0, i0, k0⟩ := u_known (C := RX0) (T := TX0) (N := 7) hg inX0 (hg _ q57)
  obtain ⟨c1, i1, k1⟩ := u_known (C := RX1) (T := TX1) (N := 3) hg inX1 (hg _ q124)
  obtain ⟨c2, i2, k2⟩ := u_known (C := RX2) (T := TX2) (N := 10) hg inX2 (hg _ q64)
  obtain ⟨c3, i3, k3⟩ := u_known (C := RX3) (T := TX3) (N := 4) hg inX3 (hg _ q184)
  obtain ⟨c4, i4, k4⟩ := u_known (C := RX4) (T := TX4) (N := 5) hg inX4 (hg _ q143)
  obtain ⟨c5, i5, k5⟩ := u_known (C := RX5) (T := TX5) (N := 3) hg inX5 (hg _ q168)
  obtain ⟨c6, i6, k6⟩ := u_known (C := RX6) (T := TX6) (N := 7) hg inX6 (hg _ q49)
  obtain ⟨c7, i7, k7⟩ := u_known (C := RX7) (T := TX7) (N := 14) hg inX7 (hg _ q739)
  obtain ⟨a0, b0, d0, f0, g0, h0⟩ := Cond.arrayClass_spec (hg _ q100)
  obtain ⟨a1, b1, d1, f1, g1, h1⟩ := Cond.arrayClass_spec (hg _ q787)
  obtain ⟨a2, b2, d2, f2, g2, h2⟩ := Cond.arrayClass_spec (hg _ q166)
  have o3 : (Cond.arrayOver (.object RX2)).before av s = true := hts _ (List.mem_of_getElem? (i := 63) (by decide +kernel))
  have o4 : (Cond.arrayOver (.object RX0)).before av s = true := hts _ (List.mem_of_getElem? (i := 130) (by decide +kernel))
  obtain ⟨d3, a3, b3, f3, -, g3, h3, j3⟩ := Cond.arrayOver_spec o3
  obtain ⟨d4, a4, b4, f4, -, g4, h4, j4⟩ := Cond.arrayOver_spec o4
  refine ⟨((fun k => match k with | 0 => c0 | 1 => c1 | 2 => c2 | 3 => c3 | 4 => c4 | 5 => c5 | 6 => c6 | _ => c7, fun k => match k with | 0 => i0 | 1 => i1 | 2 => i2 | 3 => i3 | 4 => i4 | 5 => i5 | 6 => i6 | _ => i7), fun k => match k with | 0 => a0 | 1 => a1 | 2 => a2 | 3 => a3 | _ => a4), ⟨fun k q hq => ?_, fun k q hq => ?_⟩, va_AO.of o3, va_AO.of o4, fun w hw => ?_⟩
  · match k, hq with
    | 0, hq => cases hq; exact k0
    | 1, hq => cases hq; exact k1
    | 2, hq => cases hq; exact k2
    | 3, hq => cases hq; exact k3
    | 4, hq => cases hq; exact k4
    | 5, hq => cases hq; exact k5
    | 6, hq => cases hq; exact k6
    | 7, hq => cases hq; exact k7
    | k + 8, hq => simp at hq
  · match k, hq with
    | 0, hq => cases hq; exact ⟨fun n z => ⟨fun k h => (by cases h), b0, g0, d0, h0⟩, f0⟩
    | 1, hq => cases hq; exact ⟨fun n z => ⟨fun k h => (by cases h), b1, g1, d1, h1⟩, f1⟩
    | 2, hq => cases hq; exact ⟨fun n z => ⟨fun k h => (by cases h), b2, g2, d2, h2⟩, f2⟩
    | 3, hq => cases hq; exact ⟨fun n z => ⟨fun k h => (by cases h), b3, g3, d3, h3⟩, b3, d3, g3, h3, f3, j3⟩
    | 4, hq => cases hq; exact ⟨fun n z => ⟨fun k h => (by cases h), b4, g4, d4, h4⟩, b4, d4, g4, h4, f4, j4⟩
    | k + 5, hq => simp [tysG] at hq
  · simp only [nestW, List.mem_cons, List.not_mem_nil, or_false] at hw
    rcases hw with rfl | rfl | rfl | rfl | rfl | rfl | rfl | rfl
    · exact va_Nw.of rfl (hts _ (List.mem_of_getElem? (i := 65) (by decide +kernel)))
    · exact va_Nw.of rfl (hts _ (List.mem_of_getElem? (i := 149) (by decide +kernel)))
    · exact va_Nw.of rfl (hts _ (List.mem_of_getElem? (i := 169) (by decide +kernel)))
    · exact va_Nw.of rfl (hts _ (List.mem_of_getElem? (i := 185) (by decide +kernel)))
    · exact va_Nw.of rfl (hts _ (List.mem_of_getElem? (i := 190) (by decide +kernel)))
    · exact va_Nw.of rfl (hts _ (List.mem_of_getElem? (i := 302) (by decide +kernel)))
    · exact va_Nw.of rfl (hts _ (List.mem_of_getElem? (i := 427) (by decide +kernel)))
    · exact va_Nw.of rfl (hts _ (List.mem_of_getElem? (i := 438) (by decide +kernel)))
theorem law_Z {s : State} {av : Array Value} (hts : ∀ w ∈ lw_tbl, w.before av s = true) (hgv : (Jvm.Cond.and given_1 narrow_1).before av s = true) : Zs s.heap.size s := by
  have hg : ∀ w ∈ lw_g, w.before av s = true := fun w h => hts w (List.mem_filter.mp h).1
  have hs := flat_of_before _ hgv
  have hA : ∀ a : Nat, a < s.heap.size → ¬ (s.heap.size ≤ a) := fun a h z => by omega
  have l0 : (Cond.laysStatic RX6 "LEAST_OF_SETTING" "[I").before av s = true := hts _ (List.mem_of_getElem? (i := 465) (by decide +kernel))
  have l1 : (Cond.laysStatic RX6 "MOST_OF_SETTING" "[I").before av s = true := hts _ (List.mem_of_getElem? (i := 467) (by decide +kernel))
  have ini : (Cond.initialized RX6).before av s = true := hg _ q36
  constructor
  · obtain ⟨t, h1, h2⟩ := va_Tof (tm := .static RX6 "LEAST_OF_SETTING" "[I") (ty := .int) (N := 5) (f := fun j => .int (iI (loT j))) (A := fun q => s.heap.size ≤ q) (by decide) (hs _ (by decide +kernel)) (eq_int (hs _ (by decide +kernel))) (fun j hj => by
      rcases (show j = 0 ∨ j = 1 ∨ j = 2 ∨ j = 3 ∨ j = 4 by omega) with rfl | rfl | rfl | rfl | rfl
      · exact eq_int (z := 1) (hs _ (by decide +kernel))
      · exact eq_int (z := 10) (hs _ (by decide +kernel))
      · exact eq_int (z := 0) (hs _ (by decide +kernel))
      · exact eq_int (z := 1) (hs _ (by decide +kernel))
      · exact eq_int (z := 1) (hs _ (by decide +kernel))) hA
    exact ⟨t, va_Zref l0 ini h1 hA, h2⟩
  · obtain ⟨t, h1, h2⟩ := va_Tof (tm := .static RX6 "MOST_OF_SETTING" "[I") (ty := .int) (N := 5) (f := fun j => .int (iI (hiT j))) (A := fun q => s.heap.size ≤ q) (by decide) (hs _ (by decide +kernel)) (eq_int (hs _ (by decide +kernel))) (fun j hj => by
      rcases (show j = 0 ∨ j = 1 ∨ j = 2 ∨ j = 3 ∨ j = 4 by omega) with rfl | rfl | rfl | rfl | rfl
      · exact eq_int (z := 24) (hs _ (by decide +kernel))
      · exact eq_int (z := 200) (hs _ (by decide +kernel))
      · exact eq_int (z := 100) (hs _ (by decide +kernel))
      · exact eq_int (z := 3) (hs _ (by decide +kernel))
      · exact eq_int (z := 9) (hs _ (by decide +kernel))) hA
    exact ⟨t, va_Zref l1 ini h1 hA, h2⟩
/-- both sides begin together -/
theorem JJ_0 : JJ C0 S0 0 := by
  have p0 : C0 1 3 = 0 := rfl
  refine ⟨⟨⟨⟨rfl, rfl, rfl, rfl⟩, ⟨by decide, by decide, by decide, by decide⟩, ⟨rfl, rfl, rfl, rfl, rfl⟩, ⟨by decide, by decide, by decide, by decide, by decide⟩, fun s hs => ?_⟩, fun i a1 a2 => by omega, fun i a1 a2 r b1 b2 => ?_⟩, ⟨by decide, by decide, rfl⟩, fun h a1 a2 => ?_, ⟨Or.inl rfl, rfl, fun z => ?_, by decide⟩, ⟨⟨by decide, fun j a1 a2 => ?_⟩, rfl, rfl, by decide, by decide⟩⟩
  · rcases (show s = 0 ∨ s = 1 ∨ s = 2 ∨ s = 3 ∨ s = 4 ∨ s = 5 by omega) with rfl | rfl | rfl | rfl | rfl | rfl <;> decide
  · show mS0 6 (32 * i + r) = 0
    unfold mS0
    repeat rw [if_neg (by omega)]
  · have : C0 169 2 = 0 := rfl
    omega
  · exact absurd z (by decide)
  · show 0 ≤ zc j ∧ zc j < 65536
    unfold zc
    omega
/-- doubles out of floats -/
theorem vf64_of_val {x : UInt64} (h : FP.Core.val64 x ≠ .nan) : vf_n64 x := by
  unfold vf_n64
  apply UInt64.not_lt.mp
  intro hlt
  apply h
  have hn : (x &&& 0x7fffffffffffffff).toNat = x.toNat % 9223372036854775808 := by
    rw [UInt64.toNat_and]
    exact Nat.and_two_pow_sub_one_eq_mod x.toNat 63
  have h2 : 9218868437227405312 < x.toNat % 9223372036854775808 := by
    rw [← hn]
    exact UInt64.lt_iff_toNat_lt.mp hlt
  unfold FP.Core.val64 FP.Core.decode
  have hE : FP.Core.fieldE FP.Core.b64 x.toNat = x.toNat / 4503599627370496 % 2048 := by
    show x.toNat / FP.Core.Fmt.tails FP.Core.b64 % FP.Core.Fmt.exps FP.Core.b64 = _
    rw [show FP.Core.Fmt.tails FP.Core.b64 = 4503599627370496 by decide, show FP.Core.Fmt.exps FP.Core.b64 = 2048 by decide]
  have hT : FP.Core.fieldT FP.Core.b64 x.toNat = x.toNat % 4503599627370496 := by
    show x.toNat % FP.Core.Fmt.tails FP.Core.b64 = _
    rw [show FP.Core.Fmt.tails FP.Core.b64 = 4503599627370496 by decide]
  rw [if_pos (by rw [hE, show FP.Core.Fmt.exps FP.Core.b64 - 1 = 2047 by decide]; omega), if_neg (by rw [hT]; omega)]
theorem f2d_ok {v : UInt32} (h : v = 3212836864 ∨ pos32 v) : vf_n64 (FP.f2d v) ∧ cmpI (FP.dcmp (FP.f2d v) (FP.f2d v)) .l = 0 := by
  have h1 : FP.Core.val32 v ≠ .nan := by
    rcases h with rfl | h
    · exact fun z => by revert z; decide +kernel
    · exact pos_ne h
  have h2 : FP.Core.val64 (FP.f2d v) ≠ .nan := by
    rw [FP.f2d_core ((FP.Core.notNaN_iff32 v).mpr h1), FP.Core.val64_f2d]
    exact fun z => h1 (FP.Core.round_nan.mp z)
  refine ⟨vf64_of_val h2, ?_⟩
  rw [show FP.dcmp (FP.f2d v) (FP.f2d v) = some .eq from FP.Core.dcmp_self h2]
  rfl
def swV (v : Int32) : Int := ((v.toBitVec.toNat % 32 : Nat) : Int)
theorem swV_eq (v : Int32) : v &&& iI 31 = iI (swV v) := by
  rw [pk_and v (m := iI 31) 5 (by decide), iI_nI]
  rfl
theorem swV_b (v : Int32) : 0 ≤ swV v ∧ swV v ≤ 31 := by
  unfold swV
  omega
def chV (v : Int32) : Int := ((v.toBitVec.toNat % 65536 : Nat) : Int)
theorem chV_eq (v : Int32) : (v.toUInt32 % 65536).toInt32 = iI (chV v) := by
  rw [pk_char v, iI_nI]
  rfl
theorem chV_b (v : Int32) : 0 ≤ chV v ∧ chV v < 65536 := by
  unfold chV
  omega
section
variable {x : gX} {G : gG} {b cl sl nL : Nat} {own nm : String} {cc : ByteArray} {ret : Option FieldType} {rm : Room} {n : Int} {w : Int → va_E} {pc : Nat} {lv : List (Nat × Value)} {st stk : List Value}
/-- an int of the script -/
theorem y_scr (hB : Bx x G b own cc nL ret rm nm) {a L : Nat} {xs : Nat → Int32} (hX : va_X a L xs (gs x) (gs x).heap) (hal : a < (gs x).heap.size) (hab : a < b) {i u : Int} (hi : 0 ≤ i ∧ i < L) (hL : L ≤ 2048) (he : (xs i.toNat).toInt = u) (d : decode cc pc = .ok (.iaload, 1)) (kk : Y x G b cl sl n w (pc + 1) lv (.int (iI u) :: st)) : Y x G b cl sl n w pc lv (.int (iI i) :: .ref a :: st) := by
  obtain ⟨hx, hb, hml, hown, hts, hK, hbs, hlk, hrt, hR, hnm⟩ := hB
  intro H locs ls hRp hS hL2
  refine va_sld hx hb hX hal (fun z => by omega) hS (iI_in hi (by omega)) d ?_
  rw [iI_cl (by omega), iI_of (xs i.toNat), he]
  exact kk H locs ls hRp hS hL2
theorem y_scl (hB : Bx x G b own cc nL ret rm nm) {a L : Nat} {xs : Nat → Int32} (hX : va_X a L xs (gs x) (gs x).heap) (hal : a < (gs x).heap.size) (hab : a < b) (d : decode cc pc = .ok (.arraylength, 1)) (kk : Y x G b cl sl n w (pc + 1) lv (.int (iI (L : Int)) :: st)) : Y x G b cl sl n w pc lv (.ref a :: st) := by
  obtain ⟨hx, hb, hml, hown, hts, hK, hbs, hlk, hrt, hR, hnm⟩ := hB
  intro H locs ls hRp hS hL2
  exact va_slen hx hb hX hal (fun z => by omega) hS d (kk H locs ls hRp hS hL2)
theorem y_i2c (hB : Bx x G b own cc nL ret rm nm) {u : Int32} (d : decode cc pc = .ok (.i2c, 1)) (kk : Y x G b cl sl n w (pc + 1) lv (.int (iI (chV u)) :: st)) : Y x G b cl sl n w pc lv (.int u :: st) := by
  obtain ⟨hx, hb, hml, hown, hts, hK, hbs, hlk, hrt, hR, hnm⟩ := hB
  intro H locs ls hRp hS hL2
  exact lv_i2c hx hb d (chV_eq u) (kk H locs ls hRp hS hL2)
theorem y_sw (hB : Bx x G b own cc nL ret rm nm) {u : Int32} (d : decode cc pc = .ok (.iand, 1)) (kk : Y x G b cl sl n w (pc + 1) lv (.int (iI (swV u)) :: st)) : Y x G b cl sl n w pc lv (.int (iI 31) :: .int u :: st) := by
  obtain ⟨hx, hb, hml, hown, hts, hK, hbs, hlk, hrt, hR, hnm⟩ := hB
  intro H locs ls hRp hS hL2
  refine lv_iand hx hb d ?_
  rw [swV_eq]
  exact kk H locs ls hRp hS hL2
theorem y_eqj (hB : Bx x G b own cc nL ret rm nm) (tgt : Nat) {u : Int32} {off : Int} (d : decode cc pc = .ok (.if_icmp .eq off, 3)) (ht : (pc : Int) + off = (tgt : Int)) (kk : Y x G b cl sl n w tgt lv st) : Y x G b cl sl n w pc lv (.int u :: .int u :: st) := by
  obtain ⟨hx, hb, hml, hown, hts, hK, hbs, hlk, hrt, hR, hnm⟩ := hB
  intro H locs ls hRp hS hL2
  exact lv_icmp_eq hx hb d ht (fun _ => kk H locs ls hRp hS hL2) (fun h => absurd rfl h)
theorem y_f2d (hB : Bx x G b own cc nL ret rm nm) {u : UInt32} (hu : vf_n64 (FP.f2d u)) (d : decode cc pc = .ok (.f2d, 1)) (kk : Y x G b cl sl n w (pc + 1) lv (.double (FP.f2d u) :: st)) : Y x G b cl sl n w pc lv (.float u :: st) := by
  obtain ⟨hx, hb, hml, hown, hts, hK, hbs, hlk, hrt, hR, hnm⟩ := hB
  intro H locs ls hRp hS hL2
  exact lv_f2d hx hb d hu (kk H locs ls hRp hS hL2)
theorem y_dstore (hB : Bx x G b own cc nL ret rm nm) {i : Nat} {v : UInt64} {lv' : List (Nat × Value)} (d : decode cc pc = .ok (.dstore i, 2)) (hn : i + 1 < nL) (hl : (i, Value.double v) :: lv.filter (fun q => !(q.1 == i) && (!(q.1 == i + 1) && !(q.1 + 1 == i && q.2.category == 2))) = lv') (kk : Y x G b cl sl n w (pc + 2) lv' st) : Y x G b cl sl n w pc lv (.double v :: st) := by
  obtain ⟨hx, hb, hml, hown, hts, hK, hbs, hlk, hrt, hR, hnm⟩ := hB
  intro H locs ls hRp hS hL2
  exact lv_dstore hx hb d hL2 (by rw [hml]; exact hn) hl (fun ls' hl' => kk H locs ls' hRp hS hl')
theorem y_dcmp (hB : Bx x G b own cc nL ret rm nm) {op : CmpOp} {u v : UInt64} (d : decode cc pc = .ok (.dcmp op, 1)) (kk : Y x G b cl sl n w (pc + 1) lv (.int (iI (cmpI (FP.dcmp u v) op)) :: st)) : Y x G b cl sl n w pc lv (.double v :: .double u :: st) := by
  obtain ⟨hx, hb, hml, hown, hts, hK, hbs, hlk, hrt, hR, hnm⟩ := hB
  intro H locs ls hRp hS hL2
  refine lv_dcmp hx hb d ?_
  rw [cmpI_v]
  exact kk H locs ls hRp hS hL2
variable {C S : gM} {y : MethodName} {cc' : ByteArray} {nL' na index : Nat} {ret' : Option FieldType} {rm' : Room} {Po : gP} {K : State → Prop}
theorem m_VK (hB : Bx x G b own cc nL ret rm nm) (hM : Ms y cc' nL' ret' na) (q1 : (.methodLink own index y : Cond) ∈ lw_g) {k : Int} {As : List Value} (hC : CtK x.1.2.1 G b K y cc' nL' ret' rm' (.ref (ad b k) :: As) 586 (wM G b C S) Po)
    (hKb : ∀ (U : State) (g : JFrame) (mk : MethodId) (a : Array Value), K U → K (U.calling g mk a)) (hKs : ∀ (H : Heap) (locs : List Loc) (U : State), va_S (fun q => b ≤ q) (gs x).heap H locs → U.heap = H → (gs x).WarmedH U.vm → K U)
    {t ci : Nat} {fs : List Value} {qq : vw_C} (hk : kd k = t) (ht : t ≠ 99) (hw : wS G b t k (C k) (S k) = .inr (ci, fs)) (hc : vwCl[ci]? = some qq) (hcn : qq.1 = y.cls) (hn : As.length = na) (hst : stk = As.reverse ++ .ref (ad b k) :: st) (hR0 : rm'.frames + 1 ≤ rm.frames ∧ 8 + (nL' + 11) + rm'.locals ≤ rm.locals) (hrs : (st.map fun v => v.category).sum ≤ 8) (hz : rm'.cells = 0 ∧ rm'.slots = 0) (hcl : cl ≤ rm.cells ∧ sl ≤ rm.slots) (d : decode cc pc = .ok (.invokevirtual index, 3))
    (kk : ∀ (r : Option Value) (n' : Int) (w' : Int → va_E), Po r n' w' → Y x G b cl sl n' w' (pc + 3) lv (r.toList ++ st)) : YM x G b cl sl C S pc lv stk := by
  obtain ⟨z1, z2⟩ := hz
  exact y_callVK hB hM q1 hC hKb hKs (kd_rng hk ht) ((wM_at hk).trans hw) hc hcn hn hst hR0 hrs (by rw [z1, z2]; exact hcl) d (by rw [z1, z2]; exact kk)
end
