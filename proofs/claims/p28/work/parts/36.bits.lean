/-! the bits of a worth, as the desk reckons them -/
section
variable {x : gX} {G : gG} {b cl sl nL : Nat} {own nm : String} {cc : ByteArray} {ret : Option FieldType} {rm : Room} {n : Int} {w : Int → va_E} {pc : Nat} {lv : List (Nat × Value)} {st : List Value}
theorem y_ishlR (hB : Bx x G b own cc nL ret rm nm) {u v : Int32} (d : decode cc pc = .ok (.ishl, 1)) (kk : Y x G b cl sl n w (pc + 1) lv (.int (u <<< (v &&& 31)) :: st)) : Y x G b cl sl n w pc lv (.int v :: .int u :: st) := by
  obtain ⟨hx, hb, hml, hown, hts, hK, hbs, hlk, hrt, hR, hnm⟩ := hB
  intro H locs ls hRp hS hL
  exact lv_ishl hx hb d (kk H locs ls hRp hS hL)
theorem y_iorR (hB : Bx x G b own cc nL ret rm nm) {u v : Int32} (d : decode cc pc = .ok (.ior, 1)) (kk : Y x G b cl sl n w (pc + 1) lv (.int (u ||| v) :: st)) : Y x G b cl sl n w pc lv (.int v :: .int u :: st) := by
  obtain ⟨hx, hb, hml, hown, hts, hK, hbs, hlk, hrt, hR, hnm⟩ := hB
  intro H locs ls hRp hS hL
  exact lv_ior hx hb d (kk H locs ls hRp hS hL)
end
def bI (w : UInt32) : Int := w.toInt32.toInt
theorem bI_eq (w : UInt32) : iI (bI w) = w.toInt32 := (iI_of w.toInt32).symm
def bCk (x : UInt32) : Bool := decide (x.toNat < 2139095040)
theorem bCk_vf {x : UInt32} (h : bCk x = true) : vf_n32 x := vf_pos (fin_pos (fin_of_lt (of_decide_eq_true h)))
/-- the loop's run from x with the exponent k + 1, and whether it ends in the bits w -/
def bOk (w : UInt32) : Nat → UInt32 → Bool
  | 0, x => if cmpI (FP.fcmp x FP.fconst1) .g < 0 then bCk (FP.fmul x 1258291200) && decide (FP.f2i (FP.fmul x 1258291200) = w.toInt32)
    else bCk (FP.fsub x FP.fconst1) && bCk (FP.fmul (FP.fsub x FP.fconst1) 1258291200) && decide ((iI 1 <<< (iI 23 &&& 31)) ||| FP.f2i (FP.fmul (FP.fsub x FP.fconst1) 1258291200) = w.toInt32)
  | k + 1, x => if cmpI (FP.fcmp x FP.fconst1) .g < 0 then bCk (FP.fmul x FP.fconst2) && bOk w k (FP.fmul x FP.fconst2)
    else bCk (FP.fsub x FP.fconst1) && bCk (FP.fmul (FP.fsub x FP.fconst1) 1258291200) && decide ((iI ((k : Int) + 2) <<< (iI 23 &&& 31)) ||| FP.f2i (FP.fmul (FP.fsub x FP.fconst1) 1258291200) = w.toInt32)
section
variable {w x : UInt32} {k : Nat} {e : Int}
theorem bOk_lt (h : bOk w (k + 1) x = true) (c : cmpI (FP.fcmp x FP.fconst1) .g < 0) : bCk (FP.fmul x FP.fconst2) = true ∧ bOk w k (FP.fmul x FP.fconst2) = true := by
  rw [bOk, if_pos c] at h
  exact Bool.and_eq_true_iff.mp h
theorem bOk_0 (h : bOk w 0 x = true) (c : cmpI (FP.fcmp x FP.fconst1) .g < 0) : bCk (FP.fmul x 1258291200) = true ∧ FP.f2i (FP.fmul x 1258291200) = w.toInt32 := by
  rw [bOk, if_pos c] at h
  have := Bool.and_eq_true_iff.mp h
  exact ⟨this.1, of_decide_eq_true this.2⟩
theorem bOk_ge (h : bOk w k x = true) (c : ¬ cmpI (FP.fcmp x FP.fconst1) .g < 0) (he : e = (k : Int) + 1) : (bCk (FP.fsub x FP.fconst1) = true ∧ bCk (FP.fmul (FP.fsub x FP.fconst1) 1258291200) = true) ∧ (iI e <<< (iI 23 &&& 31)) ||| FP.f2i (FP.fmul (FP.fsub x FP.fconst1) 1258291200) = w.toInt32 := by
  subst he
  cases k with
  | zero =>
    rw [bOk, if_neg c] at h
    have h1 := Bool.and_eq_true_iff.mp h
    exact ⟨Bool.and_eq_true_iff.mp h1.1, of_decide_eq_true h1.2⟩
  | succ k =>
    rw [bOk, if_neg c] at h
    have h1 := Bool.and_eq_true_iff.mp h
    rw [show ((k + 1 : Nat) : Int) + 1 = (k : Int) + 2 by omega]
    exact ⟨Bool.and_eq_true_iff.mp h1.1, of_decide_eq_true h1.2⟩
end
set_option maxHeartbeats 4000000 in
theorem tX6_bitsOf (l : Launch) (G : gG) (b : Nat) (C S : gM) (w0 x0 : UInt32) (hb : bOk w0 126 x0 = true) : Ct l G b yX6_bitsOf cX6_bitsOf 3 (some .int) rmX6_bitsOf [.float (x0)] 578 (wM G b C S) (RI G b C S (fun v => v = bI w0)) := by
  refine CtK_of (by decide) (Nat.le_of_ble_eq_true rfl) q514 ?_
  intro x hl hB hE _
  subst hl
  show YM x G b 0 0 C S 0 [(0, .float (x0))] []
  refine y_fload_n hB 0 dX6_bitsOf_0 rfl rfl ?_
  refine y_fstore_n (lv' := [(1, .float (x0)), (0, .float (x0))]) hB dX6_bitsOf_1 rfl (by decide) rfl ?_
  refine y_bipush (v := 127) hB dX6_bitsOf_2 (by decide) ?_
  refine y_istore_n (lv' := [(2, .int (iI (127))), (1, .float (x0)), (0, .float (x0))]) hB dX6_bitsOf_4 rfl (by decide) rfl ?_
  have LOOP_5 : ∀ (fu : Nat) (y : UInt32) (e : Int), (1 ≤ e ∧ e ≤ 127) → (bOk w0 (e - 1).toNat y = true) → e < (fu : Int) → YM x G b 0 0 C S 5 [(1, .float (y)), (2, .int (iI (e)))] [] := by
    intro fu
    induction fu with
    | zero => intro y e he hy hm_5; exfalso; omega
    | succ fu ih_5 =>
      intro y e he hy hm_5
      have hcb := cmpI_b (FP.fcmp y FP.fconst1) .g
      refine y_fload_n hB 0 dX6_bitsOf_5 rfl rfl ?_
      refine y_fconst1 hB dX6_bitsOf_6 ?_
      refine y_fcmp hB dX6_bitsOf_7 ?_
      refine y_if_ge hB 26 dX6_bitsOf_8 (by decide) (by omega) (fun c_8 => ?_) (fun c_8 => ?_)
      · refine y_fload_n hB 0 dX6_bitsOf_26 rfl rfl ?_
        refine y_fconst1 hB dX6_bitsOf_27 ?_
        refine y_fcmp hB dX6_bitsOf_28 ?_
        refine y_if_ge hB 39 dX6_bitsOf_29 (by decide) (by omega) (fun c_29 => ?_) (fun c_29 => ?_)
        · have hbg := bOk_ge (e := e) hy (by omega) (by omega)
          have hbe := hbg.2
          refine y_iload_n hB 1 dX6_bitsOf_39 rfl rfl ?_
          refine y_bipush (v := 23) hB dX6_bitsOf_40 (by decide) ?_
          refine y_ishlR hB dX6_bitsOf_42 ?_
          refine y_fload_n hB 0 dX6_bitsOf_43 rfl rfl ?_
          refine y_fconst1 hB dX6_bitsOf_44 ?_
          refine y_fsub hB dX6_bitsOf_45 (bCk_vf hbg.1.1) ?_
          refine y_ldcwf hB q515 dX6_bitsOf_46 ?_
          refine y_fmul hB dX6_bitsOf_49 (bCk_vf hbg.1.2) ?_
          refine y_f2i hB dX6_bitsOf_50 ?_
          refine y_iorR hB dX6_bitsOf_51 ?_
          rw [show ((iI (e)) <<< ((iI (23)) &&& 31)) ||| (FP.f2i (FP.fmul (FP.fsub y FP.fconst1) 1258291200)) = iI (bI w0) from (hbe.trans (bI_eq w0).symm)]
          exact m_ri hB hE dX6_bitsOf_52 rfl (rfl)
        · have hb0 := bOk_0 (by rw [show 0 = (e - 1).toNat by omega]; exact hy) (by omega)
          have hbe := hb0.2
          refine y_fload_n hB 0 dX6_bitsOf_32 rfl rfl ?_
          refine y_ldcwf hB q515 dX6_bitsOf_33 ?_
          refine y_fmul hB dX6_bitsOf_36 (bCk_vf hb0.1) ?_
          refine y_f2i hB dX6_bitsOf_37 ?_
          rw [show FP.f2i (FP.fmul y 1258291200) = iI (bI w0) from (hbe.trans (bI_eq w0).symm)]
          exact m_ri hB hE dX6_bitsOf_38 rfl (rfl)
      · refine y_iload_n hB 1 dX6_bitsOf_11 rfl rfl ?_
        refine y_iconst (v := 1) hB dX6_bitsOf_12 rfl ?_
        refine y_icmp_le hB 26 dX6_bitsOf_13 (by decide) (by omega) (by omega) (fun c_13 => ?_) (fun c_13 => ?_)
        · refine y_fload_n hB 0 dX6_bitsOf_26 rfl rfl ?_
          refine y_fconst1 hB dX6_bitsOf_27 ?_
          refine y_fcmp hB dX6_bitsOf_28 ?_
          refine y_if_ge hB 39 dX6_bitsOf_29 (by decide) (by omega) (fun c_29 => ?_) (fun c_29 => ?_)
          · have hbg := bOk_ge (e := e) hy (by omega) (by omega)
            have hbe := hbg.2
            refine y_iload_n hB 1 dX6_bitsOf_39 rfl rfl ?_
            refine y_bipush (v := 23) hB dX6_bitsOf_40 (by decide) ?_
            refine y_ishlR hB dX6_bitsOf_42 ?_
            refine y_fload_n hB 0 dX6_bitsOf_43 rfl rfl ?_
            refine y_fconst1 hB dX6_bitsOf_44 ?_
            refine y_fsub hB dX6_bitsOf_45 (bCk_vf hbg.1.1) ?_
            refine y_ldcwf hB q515 dX6_bitsOf_46 ?_
            refine y_fmul hB dX6_bitsOf_49 (bCk_vf hbg.1.2) ?_
            refine y_f2i hB dX6_bitsOf_50 ?_
            refine y_iorR hB dX6_bitsOf_51 ?_
            rw [show ((iI (e)) <<< ((iI (23)) &&& 31)) ||| (FP.f2i (FP.fmul (FP.fsub y FP.fconst1) 1258291200)) = iI (bI w0) from (hbe.trans (bI_eq w0).symm)]
            exact m_ri hB hE dX6_bitsOf_52 rfl (rfl)
          · have hb0 := bOk_0 (by rw [show 0 = (e - 1).toNat by omega]; exact hy) (by omega)
            have hbe := hb0.2
            refine y_fload_n hB 0 dX6_bitsOf_32 rfl rfl ?_
            refine y_ldcwf hB q515 dX6_bitsOf_33 ?_
            refine y_fmul hB dX6_bitsOf_36 (bCk_vf hb0.1) ?_
            refine y_f2i hB dX6_bitsOf_37 ?_
            rw [show FP.f2i (FP.fmul y 1258291200) = iI (bI w0) from (hbe.trans (bI_eq w0).symm)]
            exact m_ri hB hE dX6_bitsOf_38 rfl (rfl)
        · have hbl := bOk_lt (k := (e - 1 - 1).toNat) (by rw [show (e - 1 - 1).toNat + 1 = (e - 1).toNat by omega]; exact hy) (by omega)
          refine y_fload_n hB 0 dX6_bitsOf_16 rfl rfl ?_
          refine y_fconst2 hB dX6_bitsOf_17 ?_
          refine y_fmul hB dX6_bitsOf_18 (bCk_vf hbl.1) ?_
          refine y_fstore_n (lv' := [(1, .float (FP.fmul y FP.fconst2)), (2, .int (iI (e)))]) hB dX6_bitsOf_19 rfl (by decide) rfl ?_
          refine y_iinc (v := e - 1) (lv' := [(2, .int (iI (e - 1))), (1, .float (FP.fmul y FP.fconst2))]) hB 1 dX6_bitsOf_20 rfl (by omega) (by decide) rfl ?_
          refine y_goto hB 5 dX6_bitsOf_23 (by decide) ?_
          refine y_sub (lv' := [(1, .float (FP.fmul y FP.fconst2)), (2, .int (iI (e - 1)))]) [1, 0] rfl ?_
          exact ih_5 _ (e - 1) (by omega) hbl.2 (by omega)
  refine y_sub (lv' := [(1, .float (x0)), (2, .int (iI (127)))]) [1, 0] rfl ?_
  exact LOOP_5 (((127 : Int)).toNat + 1) x0 127 (by omega) hb (by omega)
