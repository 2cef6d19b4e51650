section
-- ===== PART A: goes FIRST, ahead of the names: the tables' words, and 'selects' of the private methods out of them =====
/-- a private method of a class that the tables say can be made, by its rows of tables_1 -/
def lw_okq (q : MethodName × Nat) : Prop := (q.1.cls ≠ "java/lang/invoke/MethodHandle" ∧ q.1.cls ≠ "java/lang/invoke/VarHandle") ∧ Cond.instantiable q.1.cls q.2 ∈ tables_1 ∧ Cond.privateMethod q.1 ∈ tables_1 ∧ Cond.instanceMethod q.1 ∈ tables_1
theorem lw_p0 : lw_okq (⟨"LivesAhead$History", "stateAt", "(I)LLivesAhead$Desk;"⟩, 3) := ⟨⟨by decide +kernel, by decide +kernel⟩, List.mem_of_getElem? (i := 89) (by decide +kernel), List.mem_of_getElem? (i := 207) (by decide +kernel), List.mem_of_getElem? (i := 208) (by decide +kernel)⟩
theorem lw_p1 : lw_okq (⟨"LivesAhead$PersonsText", "readPerson", "(LLivesAhead$Life;I)Z"⟩, 5) := ⟨⟨by decide +kernel, by decide +kernel⟩, List.mem_of_getElem? (i := 108) (by decide +kernel), List.mem_of_getElem? (i := 256) (by decide +kernel), List.mem_of_getElem? (i := 257) (by decide +kernel)⟩
theorem lw_p2 : lw_okq (⟨"LivesAhead$PersonsText", "takeAge", "()I"⟩, 5) := ⟨⟨by decide +kernel, by decide +kernel⟩, List.mem_of_getElem? (i := 108) (by decide +kernel), List.mem_of_getElem? (i := 260) (by decide +kernel), List.mem_of_getElem? (i := 261) (by decide +kernel)⟩
theorem lw_p3 : lw_okq (⟨"LivesAhead$PersonsText", "takeDigit", "(II)I"⟩, 5) := ⟨⟨by decide +kernel, by decide +kernel⟩, List.mem_of_getElem? (i := 108) (by decide +kernel), List.mem_of_getElem? (i := 264) (by decide +kernel), List.mem_of_getElem? (i := 265) (by decide +kernel)⟩
theorem lw_p4 : lw_okq (⟨"LivesAhead$PersonsText", "takes", "(C)Z"⟩, 5) := ⟨⟨by decide +kernel, by decide +kernel⟩, List.mem_of_getElem? (i := 108) (by decide +kernel), List.mem_of_getElem? (i := 272) (by decide +kernel), List.mem_of_getElem? (i := 273) (by decide +kernel)⟩
theorem lw_p5 : lw_okq (⟨"LivesAhead$PersonsText", "readFact", "(LLivesAhead$Life;I)Z"⟩, 5) := ⟨⟨by decide +kernel, by decide +kernel⟩, List.mem_of_getElem? (i := 108) (by decide +kernel), List.mem_of_getElem? (i := 277) (by decide +kernel), List.mem_of_getElem? (i := 278) (by decide +kernel)⟩
theorem lw_p6 : lw_okq (⟨"LivesAhead$Page", "queueDead", "(LLivesAhead$Desk;)V"⟩, 4) := ⟨⟨by decide +kernel, by decide +kernel⟩, List.mem_of_getElem? (i := 149) (by decide +kernel), List.mem_of_getElem? (i := 472) (by decide +kernel), List.mem_of_getElem? (i := 473) (by decide +kernel)⟩
theorem lw_p7 : lw_okq (⟨"LivesAheadModel", "record", "()V"⟩, 14) := ⟨⟨by decide +kernel, by decide +kernel⟩, List.mem_of_getElem? (i := 704) (by decide +kernel), List.mem_of_getElem? (i := 761) (by decide +kernel), List.mem_of_getElem? (i := 762) (by decide +kernel)⟩
theorem lw_p8 : lw_okq (⟨"LivesAheadModel", "come", "(II)I"⟩, 14) := ⟨⟨by decide +kernel, by decide +kernel⟩, List.mem_of_getElem? (i := 704) (by decide +kernel), List.mem_of_getElem? (i := 765) (by decide +kernel), List.mem_of_getElem? (i := 766) (by decide +kernel)⟩
theorem lw_p9 : lw_okq (⟨"LivesAheadModel", "faultOf", "()I"⟩, 14) := ⟨⟨by decide +kernel, by decide +kernel⟩, List.mem_of_getElem? (i := 704) (by decide +kernel), List.mem_of_getElem? (i := 776) (by decide +kernel), List.mem_of_getElem? (i := 777) (by decide +kernel)⟩
theorem lw_p10 : lw_okq (⟨"LivesAheadModel", "readsPerson", "()Z"⟩, 14) := ⟨⟨by decide +kernel, by decide +kernel⟩, List.mem_of_getElem? (i := 704) (by decide +kernel), List.mem_of_getElem? (i := 780) (by decide +kernel), List.mem_of_getElem? (i := 781) (by decide +kernel)⟩
theorem lw_p11 : lw_okq (⟨"LivesAheadModel", "age", "()I"⟩, 14) := ⟨⟨by decide +kernel, by decide +kernel⟩, List.mem_of_getElem? (i := 704) (by decide +kernel), List.mem_of_getElem? (i := 784) (by decide +kernel), List.mem_of_getElem? (i := 785) (by decide +kernel)⟩
theorem lw_p12 : lw_okq (⟨"LivesAheadModel", "digit", "(CC)I"⟩, 14) := ⟨⟨by decide +kernel, by decide +kernel⟩, List.mem_of_getElem? (i := 704) (by decide +kernel), List.mem_of_getElem? (i := 788) (by decide +kernel), List.mem_of_getElem? (i := 789) (by decide +kernel)⟩
theorem lw_p13 : lw_okq (⟨"LivesAheadModel", "isSign", "(ICC)Z"⟩, 14) := ⟨⟨by decide +kernel, by decide +kernel⟩, List.mem_of_getElem? (i := 704) (by decide +kernel), List.mem_of_getElem? (i := 792) (by decide +kernel), List.mem_of_getElem? (i := 793) (by decide +kernel)⟩
theorem lw_p14 : lw_okq (⟨"LivesAheadModel", "accepts", "(C)Z"⟩, 14) := ⟨⟨by decide +kernel, by decide +kernel⟩, List.mem_of_getElem? (i := 704) (by decide +kernel), List.mem_of_getElem? (i := 796) (by decide +kernel), List.mem_of_getElem? (i := 797) (by decide +kernel)⟩
theorem lw_p15 : lw_okq (⟨"LivesAheadModel", "readsFact", "(I)Z"⟩, 14) := ⟨⟨by decide +kernel, by decide +kernel⟩, List.mem_of_getElem? (i := 704) (by decide +kernel), List.mem_of_getElem? (i := 800) (by decide +kernel), List.mem_of_getElem? (i := 801) (by decide +kernel)⟩
def lw_privs_1 : List (MethodName × Nat) := [(⟨"LivesAhead$History", "stateAt", "(I)LLivesAhead$Desk;"⟩, 3), (⟨"LivesAhead$PersonsText", "readPerson", "(LLivesAhead$Life;I)Z"⟩, 5), (⟨"LivesAhead$PersonsText", "takeAge", "()I"⟩, 5), (⟨"LivesAhead$PersonsText", "takeDigit", "(II)I"⟩, 5), (⟨"LivesAhead$PersonsText", "takes", "(C)Z"⟩, 5), (⟨"LivesAhead$PersonsText", "readFact", "(LLivesAhead$Life;I)Z"⟩, 5), (⟨"LivesAhead$Page", "queueDead", "(LLivesAhead$Desk;)V"⟩, 4), (⟨"LivesAheadModel", "record", "()V"⟩, 14), (⟨"LivesAheadModel", "come", "(II)I"⟩, 14), (⟨"LivesAheadModel", "faultOf", "()I"⟩, 14), (⟨"LivesAheadModel", "readsPerson", "()Z"⟩, 14), (⟨"LivesAheadModel", "age", "()I"⟩, 14), (⟨"LivesAheadModel", "digit", "(CC)I"⟩, 14), (⟨"LivesAheadModel", "isSign", "(ICC)Z"⟩, 14), (⟨"LivesAheadModel", "accepts", "(C)Z"⟩, 14), (⟨"LivesAheadModel", "readsFact", "(I)Z"⟩, 14)]
theorem lw_r1 : ∀ q ∈ lw_privs_1, lw_okq q := List.forall_mem_cons.mpr ⟨lw_p0, List.forall_mem_cons.mpr ⟨lw_p1, List.forall_mem_cons.mpr ⟨lw_p2, List.forall_mem_cons.mpr ⟨lw_p3, List.forall_mem_cons.mpr ⟨lw_p4, List.forall_mem_cons.mpr ⟨lw_p5, List.forall_mem_cons.mpr ⟨lw_p6, List.forall_mem_cons.mpr ⟨lw_p7, List.forall_mem_cons.mpr ⟨lw_p8, List.forall_mem_cons.mpr ⟨lw_p9, List.forall_mem_cons.mpr ⟨lw_p10, List.forall_mem_cons.mpr ⟨lw_p11, List.forall_mem_cons.mpr ⟨lw_p12, List.forall_mem_cons.mpr ⟨lw_p13, List.forall_mem_cons.mpr ⟨lw_p14, List.forall_mem_cons.mpr ⟨lw_p15, fun _ h => absurd h List.not_mem_nil⟩⟩⟩⟩⟩⟩⟩⟩⟩⟩⟩⟩⟩⟩⟩⟩
theorem lw_p16 : lw_okq (⟨"LivesAheadModel", "add", "(III)V"⟩, 14) := ⟨⟨by decide +kernel, by decide +kernel⟩, List.mem_of_getElem? (i := 704) (by decide +kernel), List.mem_of_getElem? (i := 804) (by decide +kernel), List.mem_of_getElem? (i := 805) (by decide +kernel)⟩
theorem lw_p17 : lw_okq (⟨"LivesAheadModel", "of", "(II)I"⟩, 14) := ⟨⟨by decide +kernel, by decide +kernel⟩, List.mem_of_getElem? (i := 704) (by decide +kernel), List.mem_of_getElem? (i := 808) (by decide +kernel), List.mem_of_getElem? (i := 809) (by decide +kernel)⟩
theorem lw_p18 : lw_okq (⟨"LivesAheadModel", "isPerson", "(I)Z"⟩, 14) := ⟨⟨by decide +kernel, by decide +kernel⟩, List.mem_of_getElem? (i := 704) (by decide +kernel), List.mem_of_getElem? (i := 819) (by decide +kernel), List.mem_of_getElem? (i := 820) (by decide +kernel)⟩
theorem lw_p19 : lw_okq (⟨"LivesAheadModel", "isFact", "(II)Z"⟩, 14) := ⟨⟨by decide +kernel, by decide +kernel⟩, List.mem_of_getElem? (i := 704) (by decide +kernel), List.mem_of_getElem? (i := 827) (by decide +kernel), List.mem_of_getElem? (i := 828) (by decide +kernel)⟩
theorem lw_p20 : lw_okq (⟨"LivesAheadModel", "mostUrgent", "()I"⟩, 14) := ⟨⟨by decide +kernel, by decide +kernel⟩, List.mem_of_getElem? (i := 704) (by decide +kernel), List.mem_of_getElem? (i := 839) (by decide +kernel), List.mem_of_getElem? (i := 840) (by decide +kernel)⟩
theorem lw_p21 : lw_okq (⟨"LivesAheadModel", "due", "(I)I"⟩, 14) := ⟨⟨by decide +kernel, by decide +kernel⟩, List.mem_of_getElem? (i := 704) (by decide +kernel), List.mem_of_getElem? (i := 843) (by decide +kernel), List.mem_of_getElem? (i := 844) (by decide +kernel)⟩
theorem lw_p22 : lw_okq (⟨"LivesAheadModel", "isStaleOn", "(III)Z"⟩, 14) := ⟨⟨by decide +kernel, by decide +kernel⟩, List.mem_of_getElem? (i := 704) (by decide +kernel), List.mem_of_getElem? (i := 847) (by decide +kernel), List.mem_of_getElem? (i := 848) (by decide +kernel)⟩
theorem lw_p23 : lw_okq (⟨"LivesAheadModel", "worthOn", "(III)F"⟩, 14) := ⟨⟨by decide +kernel, by decide +kernel⟩, List.mem_of_getElem? (i := 704) (by decide +kernel), List.mem_of_getElem? (i := 851) (by decide +kernel), List.mem_of_getElem? (i := 852) (by decide +kernel)⟩
theorem lw_p24 : lw_okq (⟨"LivesAheadModel", "urgency", "(I)I"⟩, 14) := ⟨⟨by decide +kernel, by decide +kernel⟩, List.mem_of_getElem? (i := 704) (by decide +kernel), List.mem_of_getElem? (i := 857) (by decide +kernel), List.mem_of_getElem? (i := 858) (by decide +kernel)⟩
theorem lw_p25 : lw_okq (⟨"LivesAheadModel", "stale", "(II)I"⟩, 14) := ⟨⟨by decide +kernel, by decide +kernel⟩, List.mem_of_getElem? (i := 704) (by decide +kernel), List.mem_of_getElem? (i := 861) (by decide +kernel), List.mem_of_getElem? (i := 862) (by decide +kernel)⟩
theorem lw_p26 : lw_okq (⟨"LivesAheadModel", "inState", "(I)I"⟩, 14) := ⟨⟨by decide +kernel, by decide +kernel⟩, List.mem_of_getElem? (i := 704) (by decide +kernel), List.mem_of_getElem? (i := 884) (by decide +kernel), List.mem_of_getElem? (i := 885) (by decide +kernel)⟩
theorem lw_p27 : lw_okq (⟨"LivesAheadModel", "layPage", "()V"⟩, 14) := ⟨⟨by decide +kernel, by decide +kernel⟩, List.mem_of_getElem? (i := 704) (by decide +kernel), List.mem_of_getElem? (i := 892) (by decide +kernel), List.mem_of_getElem? (i := 893) (by decide +kernel)⟩
theorem lw_p28 : lw_okq (⟨"LivesAheadModel", "isReady", "(I)Z"⟩, 14) := ⟨⟨by decide +kernel, by decide +kernel⟩, List.mem_of_getElem? (i := 704) (by decide +kernel), List.mem_of_getElem? (i := 896) (by decide +kernel), List.mem_of_getElem? (i := 897) (by decide +kernel)⟩
theorem lw_p29 : lw_okq (⟨"LivesAheadModel", "sources", "(I)I"⟩, 14) := ⟨⟨by decide +kernel, by decide +kernel⟩, List.mem_of_getElem? (i := 704) (by decide +kernel), List.mem_of_getElem? (i := 900) (by decide +kernel), List.mem_of_getElem? (i := 901) (by decide +kernel)⟩
theorem lw_p30 : lw_okq (⟨"LivesAheadModel", "isAhead", "(II)Z"⟩, 14) := ⟨⟨by decide +kernel, by decide +kernel⟩, List.mem_of_getElem? (i := 704) (by decide +kernel), List.mem_of_getElem? (i := 904) (by decide +kernel), List.mem_of_getElem? (i := 905) (by decide +kernel)⟩
theorem lw_p31 : lw_okq (⟨"LivesAheadModel", "lines", "(I)I"⟩, 14) := ⟨⟨by decide +kernel, by decide +kernel⟩, List.mem_of_getElem? (i := 704) (by decide +kernel), List.mem_of_getElem? (i := 908) (by decide +kernel), List.mem_of_getElem? (i := 909) (by decide +kernel)⟩
def lw_privs_2 : List (MethodName × Nat) := [(⟨"LivesAheadModel", "add", "(III)V"⟩, 14), (⟨"LivesAheadModel", "of", "(II)I"⟩, 14), (⟨"LivesAheadModel", "isPerson", "(I)Z"⟩, 14), (⟨"LivesAheadModel", "isFact", "(II)Z"⟩, 14), (⟨"LivesAheadModel", "mostUrgent", "()I"⟩, 14), (⟨"LivesAheadModel", "due", "(I)I"⟩, 14), (⟨"LivesAheadModel", "isStaleOn", "(III)Z"⟩, 14), (⟨"LivesAheadModel", "worthOn", "(III)F"⟩, 14), (⟨"LivesAheadModel", "urgency", "(I)I"⟩, 14), (⟨"LivesAheadModel", "stale", "(II)I"⟩, 14), (⟨"LivesAheadModel", "inState", "(I)I"⟩, 14), (⟨"LivesAheadModel", "layPage", "()V"⟩, 14), (⟨"LivesAheadModel", "isReady", "(I)Z"⟩, 14), (⟨"LivesAheadModel", "sources", "(I)I"⟩, 14), (⟨"LivesAheadModel", "isAhead", "(II)Z"⟩, 14), (⟨"LivesAheadModel", "lines", "(I)I"⟩, 14)]
theorem lw_r2 : ∀ q ∈ lw_privs_2, lw_okq q := List.forall_mem_cons.mpr ⟨lw_p16, List.forall_mem_cons.mpr ⟨lw_p17, List.forall_mem_cons.mpr ⟨lw_p18, List.forall_mem_cons.mpr ⟨lw_p19, List.forall_mem_cons.mpr ⟨lw_p20, List.forall_mem_cons.mpr ⟨lw_p21, List.forall_mem_cons.mpr ⟨lw_p22, List.forall_mem_cons.mpr ⟨lw_p23, List.forall_mem_cons.mpr ⟨lw_p24, List.forall_mem_cons.mpr ⟨lw_p25, List.forall_mem_cons.mpr ⟨lw_p26, List.forall_mem_cons.mpr ⟨lw_p27, List.forall_mem_cons.mpr ⟨lw_p28, List.forall_mem_cons.mpr ⟨lw_p29, List.forall_mem_cons.mpr ⟨lw_p30, List.forall_mem_cons.mpr ⟨lw_p31, fun _ h => absurd h List.not_mem_nil⟩⟩⟩⟩⟩⟩⟩⟩⟩⟩⟩⟩⟩⟩⟩⟩
theorem lw_p32 : lw_okq (⟨"LivesAheadModel", "staleOn", "(I)I"⟩, 14) := ⟨⟨by decide +kernel, by decide +kernel⟩, List.mem_of_getElem? (i := 704) (by decide +kernel), List.mem_of_getElem? (i := 975) (by decide +kernel), List.mem_of_getElem? (i := 976) (by decide +kernel)⟩
theorem lw_p33 : lw_okq (⟨"LivesAheadModel", "facts", "()I"⟩, 14) := ⟨⟨by decide +kernel, by decide +kernel⟩, List.mem_of_getElem? (i := 704) (by decide +kernel), List.mem_of_getElem? (i := 983) (by decide +kernel), List.mem_of_getElem? (i := 984) (by decide +kernel)⟩
theorem lw_p34 : lw_okq (⟨"LivesAheadModel", "freeLines", "()I"⟩, 14) := ⟨⟨by decide +kernel, by decide +kernel⟩, List.mem_of_getElem? (i := 704) (by decide +kernel), List.mem_of_getElem? (i := 987) (by decide +kernel), List.mem_of_getElem? (i := 988) (by decide +kernel)⟩
def lw_privs_3 : List (MethodName × Nat) := [(⟨"LivesAheadModel", "staleOn", "(I)I"⟩, 14), (⟨"LivesAheadModel", "facts", "()I"⟩, 14), (⟨"LivesAheadModel", "freeLines", "()I"⟩, 14)]
theorem lw_r3 : ∀ q ∈ lw_privs_3, lw_okq q := List.forall_mem_cons.mpr ⟨lw_p32, List.forall_mem_cons.mpr ⟨lw_p33, List.forall_mem_cons.mpr ⟨lw_p34, fun _ h => absurd h List.not_mem_nil⟩⟩⟩
def lw_privs : List (MethodName × Nat) := lw_privs_1 ++ (lw_privs_2 ++ (lw_privs_3))
def lw_tbl : List Cond := k2_sels lw_privs ++ tables_1
theorem lw_privs_ok : ∀ q ∈ lw_privs, lw_okq q := by
  show ∀ q ∈ lw_privs_1 ++ (lw_privs_2 ++ (lw_privs_3)), lw_okq q
  exact List.forall_mem_append.mpr ⟨lw_r1, List.forall_mem_append.mpr ⟨lw_r2, lw_r3⟩⟩
/-- the streams that the claim lets the run draw from -/
abbrev lw_cs : List Choice := [Jvm.Choice.named "NaN.bits"]
theorem lw_bits : nanBits ∈ lw_cs := by first | decide | exact List.mem_cons_self | simp [lw_cs, nanBits]

def RX0 : String := "LivesAhead$Desk"
def TX0 : u_T := fun k => match k with
  | 0 => ("LivesAhead$Desk", "settings", "[I", true)
  | 1 => ("LivesAhead$Desk", "trusts", "[I", true)
  | 2 => ("LivesAhead$Desk", "lives", "[LLivesAhead$Life;", true)
  | 3 => ("LivesAhead$Desk", "persons", "I", false)
  | 4 => ("LivesAhead$Desk", "day", "I", false)
  | 5 => ("LivesAhead$Desk", "hoursLeft", "I", false)
  | _ => ("LivesAhead$Desk", "corrections", "I", false)
def tyX0 : Nat → FieldType := fun k => match k with
  | 0 => .array .int
  | 1 => .array .int
  | 2 => .array (.object "LivesAhead$Life")
  | 3 => .int
  | 4 => .int
  | 5 => .int
  | _ => .int
abbrev wsX00 : List Cond := u_ws RX0 TX0 7
theorem nmX0 : ∀ a, a < 7 → ∀ b, b < 7 → a ≠ b → (TX0 a).2.1 ≠ (TX0 b).2.1 := by decide +kernel
theorem tyX0_ok : ∀ k, k < 7 → parseFieldDescriptor (TX0 k).2.2.1 = some (tyX0 k) := by decide +kernel
abbrev cX0_init : ByteArray := prog_2_method_1_code
def yX0_init : MethodName := ⟨RX0, "<init>", "()V"⟩
abbrev cX0_copyFrom : ByteArray := prog_2_method_2_code
def yX0_copyFrom : MethodName := ⟨RX0, "copyFrom", "(LLivesAhead$Desk;)V"⟩
abbrev cX0_today : ByteArray := prog_2_method_3_code
def yX0_today : MethodName := ⟨RX0, "today", "()I"⟩
abbrev cX0_hoursLeft : ByteArray := prog_2_method_4_code
def yX0_hoursLeft : MethodName := ⟨RX0, "hoursLeft", "()I"⟩
abbrev cX0_persons : ByteArray := prog_2_method_5_code
def yX0_persons : MethodName := ⟨RX0, "persons", "()I"⟩
abbrev cX0_corrections : ByteArray := prog_2_method_6_code
def yX0_corrections : MethodName := ⟨RX0, "corrections", "()I"⟩
abbrev cX0_roomForPersons : ByteArray := prog_2_method_7_code
def yX0_roomForPersons : MethodName := ⟨RX0, "roomForPersons", "()I"⟩
abbrev cX0_lifeOf : ByteArray := prog_2_method_8_code
def yX0_lifeOf : MethodName := ⟨RX0, "lifeOf", "(I)LLivesAhead$Life;"⟩
abbrev cX0_join : ByteArray := prog_2_method_9_code
def yX0_join : MethodName := ⟨RX0, "join", "(II)I"⟩
abbrev cX0_joinLike : ByteArray := prog_2_method_10_code
def yX0_joinLike : MethodName := ⟨RX0, "joinLike", "(LLivesAhead$Life;)V"⟩
abbrev cX0_spendHours : ByteArray := prog_2_method_11_code
def yX0_spendHours : MethodName := ⟨RX0, "spendHours", "(I)V"⟩
abbrev cX0_setting : ByteArray := prog_2_method_12_code
def yX0_setting : MethodName := ⟨RX0, "setting", "(I)I"⟩
abbrev cX0_changeSetting : ByteArray := prog_2_method_13_code
def yX0_changeSetting : MethodName := ⟨RX0, "changeSetting", "(II)V"⟩
abbrev cX0_trustOf : ByteArray := prog_2_method_14_code
def yX0_trustOf : MethodName := ⟨RX0, "trustOf", "(I)I"⟩
abbrev cX0_changeTrust : ByteArray := prog_2_method_15_code
def yX0_changeTrust : MethodName := ⟨RX0, "changeTrust", "(II)V"⟩
abbrev cX0_countCorrection : ByteArray := prog_2_method_16_code
def yX0_countCorrection : MethodName := ⟨RX0, "countCorrection", "()I"⟩
abbrev cX0_personsIn : ByteArray := prog_2_method_17_code
def yX0_personsIn : MethodName := ⟨RX0, "personsIn", "(I)I"⟩
abbrev cX0_facts : ByteArray := prog_2_method_18_code
def yX0_facts : MethodName := ⟨RX0, "facts", "()I"⟩
abbrev cX0_worthOf : ByteArray := prog_2_method_19_code
def yX0_worthOf : MethodName := ⟨RX0, "worthOf", "(LLivesAhead$Life;II)F"⟩
abbrev cX0_worthOfLife : ByteArray := prog_2_method_20_code
def yX0_worthOfLife : MethodName := ⟨RX0, "worthOfLife", "(LLivesAhead$Life;)F"⟩
abbrev cX0_bound : ByteArray := prog_2_method_21_code
def yX0_bound : MethodName := ⟨RX0, "bound", "()F"⟩
abbrev cX0_isStale : ByteArray := prog_2_method_22_code
def yX0_isStale : MethodName := ⟨RX0, "isStale", "(LLivesAhead$Life;I)Z"⟩
abbrev cX0_staleFactsOf : ByteArray := prog_2_method_23_code
def yX0_staleFactsOf : MethodName := ⟨RX0, "staleFactsOf", "(LLivesAhead$Life;I)I"⟩
abbrev cX0_staleFactsOn : ByteArray := prog_2_method_24_code
def yX0_staleFactsOn : MethodName := ⟨RX0, "staleFactsOn", "(I)I"⟩
abbrev cX0_factsFrom : ByteArray := prog_2_method_25_code
def yX0_factsFrom : MethodName := ⟨RX0, "factsFrom", "(I)I"⟩
abbrev cX0_staleFactsFrom : ByteArray := prog_2_method_26_code
def yX0_staleFactsFrom : MethodName := ⟨RX0, "staleFactsFrom", "(I)I"⟩
abbrev cX0_linesFrom : ByteArray := prog_2_method_27_code
def yX0_linesFrom : MethodName := ⟨RX0, "linesFrom", "(I)I"⟩
abbrev cX0_urgencyOf : ByteArray := prog_2_method_28_code
def yX0_urgencyOf : MethodName := ⟨RX0, "urgencyOf", "(LLivesAhead$Life;)I"⟩
abbrev cX0_rankUrgencies : ByteArray := prog_2_method_29_code
def yX0_rankUrgencies : MethodName := ⟨RX0, "rankUrgencies", "(LLivesAhead$Ranking;)V"⟩
abbrev cX0_firstToCheck : ByteArray := prog_2_method_30_code
def yX0_firstToCheck : MethodName := ⟨RX0, "firstToCheck", "(LLivesAhead$Life;)I"⟩
abbrev cX0_mostUrgentToCheck : ByteArray := prog_2_method_31_code
def yX0_mostUrgentToCheck : MethodName := ⟨RX0, "mostUrgentToCheck", "()LLivesAhead$Life;"⟩
abbrev cX0_checkToday : ByteArray := prog_2_method_32_code
def yX0_checkToday : MethodName := ⟨RX0, "checkToday", "(LLivesAhead$Life;I)V"⟩
abbrev cX0_couldPrint : ByteArray := prog_2_method_33_code
def yX0_couldPrint : MethodName := ⟨RX0, "couldPrint", "(LLivesAhead$Life;)Z"⟩
abbrev cX0_markPrinted : ByteArray := prog_2_method_34_code
def yX0_markPrinted : MethodName := ⟨RX0, "markPrinted", "(I)V"⟩
abbrev cX0_takeBackOldDeaths : ByteArray := prog_2_method_35_code
def yX0_takeBackOldDeaths : MethodName := ⟨RX0, "takeBackOldDeaths", "()V"⟩
abbrev cX0_beginNextDay : ByteArray := prog_2_method_36_code
def yX0_beginNextDay : MethodName := ⟨RX0, "beginNextDay", "()V"⟩
def RX1 : String := "LivesAhead$History"
def TX1 : u_T := fun k => match k with
  | 0 => ("LivesAhead$History", "states", "[LLivesAhead$Desk;", true)
  | 1 => ("LivesAhead$History", "first", "I", false)
  | _ => ("LivesAhead$History", "size", "I", false)
def tyX1 : Nat → FieldType := fun k => match k with
  | 0 => .array (.object "LivesAhead$Desk")
  | 1 => .int
  | _ => .int
abbrev wsX10 : List Cond := u_ws RX1 TX1 3
theorem nmX1 : ∀ a, a < 3 → ∀ b, b < 3 → a ≠ b → (TX1 a).2.1 ≠ (TX1 b).2.1 := by decide +kernel
theorem tyX1_ok : ∀ k, k < 3 → parseFieldDescriptor (TX1 k).2.2.1 = some (tyX1 k) := by decide +kernel
abbrev cX1_init : ByteArray := prog_3_method_1_code
def yX1_init : MethodName := ⟨RX1, "<init>", "()V"⟩
abbrev cX1_size : ByteArray := prog_3_method_2_code
def yX1_size : MethodName := ⟨RX1, "size", "()I"⟩
abbrev cX1_remember : ByteArray := prog_3_method_3_code
def yX1_remember : MethodName := ⟨RX1, "remember", "(LLivesAhead$Desk;)V"⟩
abbrev cX1_takeLatest : ByteArray := prog_3_method_4_code
def yX1_takeLatest : MethodName := ⟨RX1, "takeLatest", "(LLivesAhead$Desk;)V"⟩
abbrev cX1_stateAt : ByteArray := prog_3_method_5_code
def yX1_stateAt : MethodName := ⟨RX1, "stateAt", "(I)LLivesAhead$Desk;"⟩
def RX2 : String := "LivesAhead$Life"
def TX2 : u_T := fun k => match k with
  | 0 => ("LivesAhead$Life", "age", "I", false)
  | 1 => ("LivesAhead$Life", "rank", "I", false)
  | 2 => ("LivesAhead$Life", "state", "I", false)
  | 3 => ("LivesAhead$Life", "teller", "I", false)
  | 4 => ("LivesAhead$Life", "deathDay", "I", false)
  | 5 => ("LivesAhead$Life", "printDay", "I", false)
  | 6 => ("LivesAhead$Life", "size", "I", false)
  | 7 => ("LivesAhead$Life", "sources", "[I", true)
  | 8 => ("LivesAhead$Life", "lines", "[I", true)
  | _ => ("LivesAhead$Life", "days", "[I", true)
def tyX2 : Nat → FieldType := fun k => match k with
  | 0 => .int
  | 1 => .int
  | 2 => .int
  | 3 => .int
  | 4 => .int
  | 5 => .int
  | 6 => .int
  | 7 => .array .int
  | 8 => .array .int
  | _ => .array .int
abbrev wsX20 : List Cond := u_ws RX2 TX2 10
theorem nmX2 : ∀ a, a < 10 → ∀ b, b < 10 → a ≠ b → (TX2 a).2.1 ≠ (TX2 b).2.1 := by decide +kernel
theorem tyX2_ok : ∀ k, k < 10 → parseFieldDescriptor (TX2 k).2.2.1 = some (tyX2 k) := by decide +kernel
abbrev cX2_init : ByteArray := prog_4_method_1_code
def yX2_init : MethodName := ⟨RX2, "<init>", "()V"⟩
abbrev cX2_begin : ByteArray := prog_4_method_2_code
def yX2_begin : MethodName := ⟨RX2, "begin", "(II)V"⟩
abbrev cX2_copyLife : ByteArray := prog_4_method_3_code
def yX2_copyLife : MethodName := ⟨RX2, "copyLife", "(LLivesAhead$Life;)V"⟩
abbrev cX2_age : ByteArray := prog_4_method_4_code
def yX2_age : MethodName := ⟨RX2, "age", "()I"⟩
abbrev cX2_rank : ByteArray := prog_4_method_5_code
def yX2_rank : MethodName := ⟨RX2, "rank", "()I"⟩
abbrev cX2_state : ByteArray := prog_4_method_6_code
def yX2_state : MethodName := ⟨RX2, "state", "()I"⟩
abbrev cX2_isIn : ByteArray := prog_4_method_7_code
def yX2_isIn : MethodName := ⟨RX2, "isIn", "(I)Z"⟩
abbrev cX2_teller : ByteArray := prog_4_method_8_code
def yX2_teller : MethodName := ⟨RX2, "teller", "()I"⟩
abbrev cX2_deathDay : ByteArray := prog_4_method_9_code
def yX2_deathDay : MethodName := ⟨RX2, "deathDay", "()I"⟩
abbrev cX2_printDay : ByteArray := prog_4_method_10_code
def yX2_printDay : MethodName := ⟨RX2, "printDay", "()I"⟩
abbrev cX2_size : ByteArray := prog_4_method_11_code
def yX2_size : MethodName := ⟨RX2, "size", "()I"⟩
abbrev cX2_tellDead : ByteArray := prog_4_method_12_code
def yX2_tellDead : MethodName := ⟨RX2, "tellDead", "(II)V"⟩
abbrev cX2_confirmDeath : ByteArray := prog_4_method_13_code
def yX2_confirmDeath : MethodName := ⟨RX2, "confirmDeath", "(I)V"⟩
abbrev cX2_takeBackDeath : ByteArray := prog_4_method_14_code
def yX2_takeBackDeath : MethodName := ⟨RX2, "takeBackDeath", "()V"⟩
abbrev cX2_becomePrinted : ByteArray := prog_4_method_15_code
def yX2_becomePrinted : MethodName := ⟨RX2, "becomePrinted", "(I)V"⟩
abbrev cX2_hasFact : ByteArray := prog_4_method_16_code
def yX2_hasFact : MethodName := ⟨RX2, "hasFact", "(I)Z"⟩
abbrev cX2_sourceOf : ByteArray := prog_4_method_17_code
def yX2_sourceOf : MethodName := ⟨RX2, "sourceOf", "(I)I"⟩
abbrev cX2_linesOf : ByteArray := prog_4_method_18_code
def yX2_linesOf : MethodName := ⟨RX2, "linesOf", "(I)I"⟩
abbrev cX2_dayOf : ByteArray := prog_4_method_19_code
def yX2_dayOf : MethodName := ⟨RX2, "dayOf", "(I)I"⟩
abbrev cX2_addFact : ByteArray := prog_4_method_20_code
def yX2_addFact : MethodName := ⟨RX2, "addFact", "(III)I"⟩
abbrev cX2_removeFact : ByteArray := prog_4_method_21_code
def yX2_removeFact : MethodName := ⟨RX2, "removeFact", "(I)V"⟩
abbrev cX2_changeSource : ByteArray := prog_4_method_22_code
def yX2_changeSource : MethodName := ⟨RX2, "changeSource", "(II)V"⟩
abbrev cX2_changeDay : ByteArray := prog_4_method_23_code
def yX2_changeDay : MethodName := ⟨RX2, "changeDay", "(II)V"⟩
abbrev cX2_length : ByteArray := prog_4_method_24_code
def yX2_length : MethodName := ⟨RX2, "length", "()I"⟩
abbrev cX2_differentSources : ByteArray := prog_4_method_25_code
def yX2_differentSources : MethodName := ⟨RX2, "differentSources", "()I"⟩
def RX3 : String := "LivesAhead$Page"
def TX3 : u_T := fun k => match k with
  | 0 => ("LivesAhead$Page", "queue", "LLivesAhead$Ranking;", true)
  | 1 => ("LivesAhead$Page", "persons", "[I", true)
  | 2 => ("LivesAhead$Page", "size", "I", false)
  | _ => ("LivesAhead$Page", "linesFree", "I", false)
def tyX3 : Nat → FieldType := fun k => match k with
  | 0 => .object "LivesAhead$Ranking"
  | 1 => .array .int
  | 2 => .int
  | _ => .int
abbrev wsX30 : List Cond := u_ws RX3 TX3 4
theorem nmX3 : ∀ a, a < 4 → ∀ b, b < 4 → a ≠ b → (TX3 a).2.1 ≠ (TX3 b).2.1 := by decide +kernel
theorem tyX3_ok : ∀ k, k < 4 → parseFieldDescriptor (TX3 k).2.2.1 = some (tyX3 k) := by decide +kernel
abbrev cX3_init : ByteArray := prog_5_method_1_code
def yX3_init : MethodName := ⟨RX3, "<init>", "()V"⟩
abbrev cX3_lay : ByteArray := prog_5_method_2_code
def yX3_lay : MethodName := ⟨RX3, "lay", "(LLivesAhead$Desk;)V"⟩
abbrev cX3_size : ByteArray := prog_5_method_3_code
def yX3_size : MethodName := ⟨RX3, "size", "()I"⟩
abbrev cX3_linesFree : ByteArray := prog_5_method_4_code
def yX3_linesFree : MethodName := ⟨RX3, "linesFree", "()I"⟩
abbrev cX3_queueDead : ByteArray := prog_5_method_5_code
def yX3_queueDead : MethodName := ⟨RX3, "queueDead", "(LLivesAhead$Desk;)V"⟩
abbrev cX3_personAt : ByteArray := prog_5_method_6_code
def yX3_personAt : MethodName := ⟨RX3, "personAt", "(I)I"⟩
def RX4 : String := "LivesAhead$PersonsText"
def TX4 : u_T := fun k => match k with
  | 0 => ("LivesAhead$PersonsText", "characters", "[C", true)
  | 1 => ("LivesAhead$PersonsText", "length", "I", false)
  | 2 => ("LivesAhead$PersonsText", "read", "[LLivesAhead$Life;", true)
  | 3 => ("LivesAhead$PersonsText", "personsRead", "I", false)
  | _ => ("LivesAhead$PersonsText", "at", "I", false)
def tyX4 : Nat → FieldType := fun k => match k with
  | 0 => .array .char
  | 1 => .int
  | 2 => .array (.object "LivesAhead$Life")
  | 3 => .int
  | _ => .int
abbrev wsX40 : List Cond := u_ws RX4 TX4 5
theorem nmX4 : ∀ a, a < 5 → ∀ b, b < 5 → a ≠ b → (TX4 a).2.1 ≠ (TX4 b).2.1 := by decide +kernel
theorem tyX4_ok : ∀ k, k < 5 → parseFieldDescriptor (TX4 k).2.2.1 = some (tyX4 k) := by decide +kernel
abbrev cX4_init : ByteArray := prog_6_method_1_code
def yX4_init : MethodName := ⟨RX4, "<init>", "()V"⟩
abbrev cX4_length : ByteArray := prog_6_method_2_code
def yX4_length : MethodName := ⟨RX4, "length", "()I"⟩
abbrev cX4_append : ByteArray := prog_6_method_3_code
def yX4_append : MethodName := ⟨RX4, "append", "(C)Z"⟩
abbrev cX4_clear : ByteArray := prog_6_method_4_code
def yX4_clear : MethodName := ⟨RX4, "clear", "()V"⟩
abbrev cX4_fault : ByteArray := prog_6_method_5_code
def yX4_fault : MethodName := ⟨RX4, "fault", "()I"⟩
abbrev cX4_personsRead : ByteArray := prog_6_method_6_code
def yX4_personsRead : MethodName := ⟨RX4, "personsRead", "()I"⟩
abbrev cX4_readLife : ByteArray := prog_6_method_7_code
def yX4_readLife : MethodName := ⟨RX4, "readLife", "(I)LLivesAhead$Life;"⟩
abbrev cX4_readPersons : ByteArray := prog_6_method_8_code
def yX4_readPersons : MethodName := ⟨RX4, "readPersons", "(I)Z"⟩
abbrev cX4_readPerson : ByteArray := prog_6_method_9_code
def yX4_readPerson : MethodName := ⟨RX4, "readPerson", "(LLivesAhead$Life;I)Z"⟩
abbrev cX4_readFact : ByteArray := prog_6_method_10_code
def yX4_readFact : MethodName := ⟨RX4, "readFact", "(LLivesAhead$Life;I)Z"⟩
abbrev cX4_takeAge : ByteArray := prog_6_method_11_code
def yX4_takeAge : MethodName := ⟨RX4, "takeAge", "()I"⟩
abbrev cX4_takeDigit : ByteArray := prog_6_method_12_code
def yX4_takeDigit : MethodName := ⟨RX4, "takeDigit", "(II)I"⟩
abbrev cX4_takes : ByteArray := prog_6_method_13_code
def yX4_takes : MethodName := ⟨RX4, "takes", "(C)Z"⟩
def RX5 : String := "LivesAhead$Ranking"
def TX5 : u_T := fun k => match k with
  | 0 => ("LivesAhead$Ranking", "persons", "[I", true)
  | 1 => ("LivesAhead$Ranking", "keys", "[I", true)
  | _ => ("LivesAhead$Ranking", "size", "I", false)
def tyX5 : Nat → FieldType := fun k => match k with
  | 0 => .array .int
  | 1 => .array .int
  | _ => .int
abbrev wsX50 : List Cond := u_ws RX5 TX5 3
theorem nmX5 : ∀ a, a < 3 → ∀ b, b < 3 → a ≠ b → (TX5 a).2.1 ≠ (TX5 b).2.1 := by decide +kernel
theorem tyX5_ok : ∀ k, k < 3 → parseFieldDescriptor (TX5 k).2.2.1 = some (tyX5 k) := by decide +kernel
abbrev cX5_init : ByteArray := prog_7_method_1_code
def yX5_init : MethodName := ⟨RX5, "<init>", "()V"⟩
abbrev cX5_clear : ByteArray := prog_7_method_2_code
def yX5_clear : MethodName := ⟨RX5, "clear", "()V"⟩
abbrev cX5_size : ByteArray := prog_7_method_3_code
def yX5_size : MethodName := ⟨RX5, "size", "()I"⟩
abbrev cX5_enter : ByteArray := prog_7_method_4_code
def yX5_enter : MethodName := ⟨RX5, "enter", "(II)V"⟩
abbrev cX5_personAt : ByteArray := prog_7_method_5_code
def yX5_personAt : MethodName := ⟨RX5, "personAt", "(I)I"⟩
def RX6 : String := "LivesAhead"
def TX6 : u_T := fun k => match k with
  | 0 => ("LivesAhead", "desk", "LLivesAhead$Desk;", true)
  | 1 => ("LivesAhead", "snapshot", "LLivesAhead$Desk;", true)
  | 2 => ("LivesAhead", "hasSnapshot", "Z", false)
  | 3 => ("LivesAhead", "history", "LLivesAhead$History;", true)
  | 4 => ("LivesAhead", "text", "LLivesAhead$PersonsText;", true)
  | 5 => ("LivesAhead", "urgencies", "LLivesAhead$Ranking;", true)
  | _ => ("LivesAhead", "nextPage", "LLivesAhead$Page;", true)
def tyX6 : Nat → FieldType := fun k => match k with
  | 0 => .object "LivesAhead$Desk"
  | 1 => .object "LivesAhead$Desk"
  | 2 => .boolean
  | 3 => .object "LivesAhead$History"
  | 4 => .object "LivesAhead$PersonsText"
  | 5 => .object "LivesAhead$Ranking"
  | _ => .object "LivesAhead$Page"
abbrev wsX60 : List Cond := u_ws RX6 TX6 7
theorem nmX6 : ∀ a, a < 7 → ∀ b, b < 7 → a ≠ b → (TX6 a).2.1 ≠ (TX6 b).2.1 := by decide +kernel
theorem tyX6_ok : ∀ k, k < 7 → parseFieldDescriptor (TX6 k).2.2.1 = some (tyX6 k) := by decide +kernel
abbrev cX6_init : ByteArray := prog_1_method_1_code
def yX6_init : MethodName := ⟨RX6, "<init>", "()V"⟩
abbrev cX6_addPerson : ByteArray := prog_1_method_2_code
def yX6_addPerson : MethodName := ⟨RX6, "addPerson", "(II)I"⟩
abbrev cX6_addPersons : ByteArray := prog_1_method_3_code
def yX6_addPersons : MethodName := ⟨RX6, "addPersons", "()I"⟩
abbrev cX6_write : ByteArray := prog_1_method_4_code
def yX6_write : MethodName := ⟨RX6, "write", "(III)I"⟩
abbrev cX6_check : ByteArray := prog_1_method_5_code
def yX6_check : MethodName := ⟨RX6, "check", "(II)I"⟩
abbrev cX6_strike : ByteArray := prog_1_method_6_code
def yX6_strike : MethodName := ⟨RX6, "strike", "(II)I"⟩
abbrev cX6_checkUrgent : ByteArray := prog_1_method_7_code
def yX6_checkUrgent : MethodName := ⟨RX6, "checkUrgent", "()I"⟩
abbrev cX6_trust : ByteArray := prog_1_method_8_code
def yX6_trust : MethodName := ⟨RX6, "trust", "(II)I"⟩
abbrev cX6_set : ByteArray := prog_1_method_9_code
def yX6_set : MethodName := ⟨RX6, "set", "(II)I"⟩
abbrev cX6_tellDeath : ByteArray := prog_1_method_10_code
def yX6_tellDeath : MethodName := ⟨RX6, "tellDeath", "(II)I"⟩
abbrev cX6_decide : ByteArray := prog_1_method_11_code
def yX6_decide : MethodName := ⟨RX6, "decide", "(IZ)I"⟩
abbrev cX6_print : ByteArray := prog_1_method_12_code
def yX6_print : MethodName := ⟨RX6, "print", "()I"⟩
abbrev cX6_correct : ByteArray := prog_1_method_13_code
def yX6_correct : MethodName := ⟨RX6, "correct", "(III)I"⟩
abbrev cX6_type : ByteArray := prog_1_method_14_code
def yX6_type : MethodName := ⟨RX6, "type", "(C)I"⟩
abbrev cX6_clearText : ByteArray := prog_1_method_15_code
def yX6_clearText : MethodName := ⟨RX6, "clearText", "()I"⟩
abbrev cX6_undo : ByteArray := prog_1_method_16_code
def yX6_undo : MethodName := ⟨RX6, "undo", "()I"⟩
abbrev cX6_keep : ByteArray := prog_1_method_17_code
def yX6_keep : MethodName := ⟨RX6, "keep", "()I"⟩
abbrev cX6_restore : ByteArray := prog_1_method_18_code
def yX6_restore : MethodName := ⟨RX6, "restore", "()I"⟩
abbrev cX6_person : ByteArray := prog_1_method_19_code
def yX6_person : MethodName := ⟨RX6, "person", "(II)I"⟩
abbrev cX6_fact : ByteArray := prog_1_method_20_code
def yX6_fact : MethodName := ⟨RX6, "fact", "(III)I"⟩
abbrev cX6_worth : ByteArray := prog_1_method_21_code
def yX6_worth : MethodName := ⟨RX6, "worth", "(I)F"⟩
abbrev cX6_urgent : ByteArray := prog_1_method_22_code
def yX6_urgent : MethodName := ⟨RX6, "urgent", "(I)I"⟩
abbrev cX6_page : ByteArray := prog_1_method_23_code
def yX6_page : MethodName := ⟨RX6, "page", "(I)I"⟩
abbrev cX6_source : ByteArray := prog_1_method_24_code
def yX6_source : MethodName := ⟨RX6, "source", "(II)I"⟩
abbrev cX6_staleIn : ByteArray := prog_1_method_25_code
def yX6_staleIn : MethodName := ⟨RX6, "staleIn", "(I)I"⟩
abbrev cX6_count : ByteArray := prog_1_method_26_code
def yX6_count : MethodName := ⟨RX6, "count", "(I)I"⟩
abbrev cX6_isWithin : ByteArray := prog_1_method_27_code
def yX6_isWithin : MethodName := ⟨RX6, "isWithin", "(III)Z"⟩
abbrev cX6_isSource : ByteArray := prog_1_method_28_code
def yX6_isSource : MethodName := ⟨RX6, "isSource", "(I)Z"⟩
abbrev cX6_isSetting : ByteArray := prog_1_method_29_code
def yX6_isSetting : MethodName := ⟨RX6, "isSetting", "(I)Z"⟩
abbrev cX6_bitsOf : ByteArray := prog_1_method_30_code
def yX6_bitsOf : MethodName := ⟨RX6, "bitsOf", "(F)I"⟩
def RX7 : String := "LivesAheadModel"
def TX7 : u_T := fun k => match k with
  | 0 => ("LivesAheadModel", "s", "[I", true)
  | 1 => ("LivesAheadModel", "before", "[I", true)
  | 2 => ("LivesAheadModel", "kept", "[I", true)
  | 3 => ("LivesAheadModel", "page", "[I", true)
  | 4 => ("LivesAheadModel", "seen", "[Z", true)
  | 5 => ("LivesAheadModel", "pageMany", "I", false)
  | 6 => ("LivesAheadModel", "free", "I", false)
  | 7 => ("LivesAheadModel", "text", "[C", true)
  | 8 => ("LivesAheadModel", "length", "I", false)
  | 9 => ("LivesAheadModel", "states", "I", false)
  | 10 => ("LivesAheadModel", "isKept", "Z", false)
  | 11 => ("LivesAheadModel", "read", "[I", true)
  | 12 => ("LivesAheadModel", "at", "I", false)
  | _ => ("LivesAheadModel", "persons", "I", false)
def tyX7 : Nat → FieldType := fun k => match k with
  | 0 => .array .int
  | 1 => .array .int
  | 2 => .array .int
  | 3 => .array .int
  | 4 => .array .boolean
  | 5 => .int
  | 6 => .int
  | 7 => .array .char
  | 8 => .int
  | 9 => .int
  | 10 => .boolean
  | 11 => .array .int
  | 12 => .int
  | _ => .int
abbrev wsX70 : List Cond := u_ws RX7 TX7 14
theorem nmX7 : ∀ a, a < 14 → ∀ b, b < 14 → a ≠ b → (TX7 a).2.1 ≠ (TX7 b).2.1 := by decide +kernel
theorem tyX7_ok : ∀ k, k < 14 → parseFieldDescriptor (TX7 k).2.2.1 = some (tyX7 k) := by decide +kernel
abbrev cX7_init : ByteArray := prog_9_method_1_code
def yX7_init : MethodName := ⟨RX7, "<init>", "()V"⟩
abbrev cX7_in : ByteArray := prog_9_method_2_code
def yX7_in : MethodName := ⟨RX7, "in", "(III)Z"⟩
abbrev cX7_record : ByteArray := prog_9_method_3_code
def yX7_record : MethodName := ⟨RX7, "record", "()V"⟩
abbrev cX7_p : ByteArray := prog_9_method_4_code
def yX7_p : MethodName := ⟨RX7, "p", "(I)I"⟩
abbrev cX7_f : ByteArray := prog_9_method_5_code
def yX7_f : MethodName := ⟨RX7, "f", "(II)I"⟩
abbrev cX7_of : ByteArray := prog_9_method_6_code
def yX7_of : MethodName := ⟨RX7, "of", "(II)I"⟩
abbrev cX7_isPerson : ByteArray := prog_9_method_7_code
def yX7_isPerson : MethodName := ⟨RX7, "isPerson", "(I)Z"⟩
abbrev cX7_isFact : ByteArray := prog_9_method_8_code
def yX7_isFact : MethodName := ⟨RX7, "isFact", "(II)Z"⟩
abbrev cX7_worthOn : ByteArray := prog_9_method_9_code
def yX7_worthOn : MethodName := ⟨RX7, "worthOn", "(III)F"⟩
abbrev cX7_isStaleOn : ByteArray := prog_9_method_10_code
def yX7_isStaleOn : MethodName := ⟨RX7, "isStaleOn", "(III)Z"⟩
abbrev cX7_stale : ByteArray := prog_9_method_11_code
def yX7_stale : MethodName := ⟨RX7, "stale", "(II)I"⟩
abbrev cX7_lines : ByteArray := prog_9_method_12_code
def yX7_lines : MethodName := ⟨RX7, "lines", "(I)I"⟩
abbrev cX7_sources : ByteArray := prog_9_method_13_code
def yX7_sources : MethodName := ⟨RX7, "sources", "(I)I"⟩
abbrev cX7_isReady : ByteArray := prog_9_method_14_code
def yX7_isReady : MethodName := ⟨RX7, "isReady", "(I)Z"⟩
abbrev cX7_urgency : ByteArray := prog_9_method_15_code
def yX7_urgency : MethodName := ⟨RX7, "urgency", "(I)I"⟩
abbrev cX7_come : ByteArray := prog_9_method_16_code
def yX7_come : MethodName := ⟨RX7, "come", "(II)I"⟩
abbrev cX7_add : ByteArray := prog_9_method_17_code
def yX7_add : MethodName := ⟨RX7, "add", "(III)V"⟩
abbrev cX7_addPerson : ByteArray := prog_9_method_18_code
def yX7_addPerson : MethodName := ⟨RX7, "addPerson", "(II)I"⟩
abbrev cX7_isSign : ByteArray := prog_9_method_19_code
def yX7_isSign : MethodName := ⟨RX7, "isSign", "(ICC)Z"⟩
abbrev cX7_accepts : ByteArray := prog_9_method_20_code
def yX7_accepts : MethodName := ⟨RX7, "accepts", "(C)Z"⟩
abbrev cX7_digit : ByteArray := prog_9_method_21_code
def yX7_digit : MethodName := ⟨RX7, "digit", "(CC)I"⟩
abbrev cX7_age : ByteArray := prog_9_method_22_code
def yX7_age : MethodName := ⟨RX7, "age", "()I"⟩
abbrev cX7_readsFact : ByteArray := prog_9_method_23_code
def yX7_readsFact : MethodName := ⟨RX7, "readsFact", "(I)Z"⟩
abbrev cX7_readsPerson : ByteArray := prog_9_method_24_code
def yX7_readsPerson : MethodName := ⟨RX7, "readsPerson", "()Z"⟩
abbrev cX7_faultOf : ByteArray := prog_9_method_25_code
def yX7_faultOf : MethodName := ⟨RX7, "faultOf", "()I"⟩
abbrev cX7_addPersons : ByteArray := prog_9_method_26_code
def yX7_addPersons : MethodName := ⟨RX7, "addPersons", "()I"⟩
abbrev cX7_write : ByteArray := prog_9_method_27_code
def yX7_write : MethodName := ⟨RX7, "write", "(III)I"⟩
abbrev cX7_check : ByteArray := prog_9_method_28_code
def yX7_check : MethodName := ⟨RX7, "check", "(II)I"⟩
abbrev cX7_strike : ByteArray := prog_9_method_29_code
def yX7_strike : MethodName := ⟨RX7, "strike", "(II)I"⟩
abbrev cX7_due : ByteArray := prog_9_method_30_code
def yX7_due : MethodName := ⟨RX7, "due", "(I)I"⟩
abbrev cX7_mostUrgent : ByteArray := prog_9_method_31_code
def yX7_mostUrgent : MethodName := ⟨RX7, "mostUrgent", "()I"⟩
abbrev cX7_checkUrgent : ByteArray := prog_9_method_32_code
def yX7_checkUrgent : MethodName := ⟨RX7, "checkUrgent", "()I"⟩
abbrev cX7_trust : ByteArray := prog_9_method_33_code
def yX7_trust : MethodName := ⟨RX7, "trust", "(II)I"⟩
abbrev cX7_isSetting : ByteArray := prog_9_method_34_code
def yX7_isSetting : MethodName := ⟨RX7, "isSetting", "(II)Z"⟩
abbrev cX7_set : ByteArray := prog_9_method_35_code
def yX7_set : MethodName := ⟨RX7, "set", "(II)I"⟩
abbrev cX7_inState : ByteArray := prog_9_method_36_code
def yX7_inState : MethodName := ⟨RX7, "inState", "(I)I"⟩
abbrev cX7_tellDeath : ByteArray := prog_9_method_37_code
def yX7_tellDeath : MethodName := ⟨RX7, "tellDeath", "(II)I"⟩
abbrev cX7_decide : ByteArray := prog_9_method_38_code
def yX7_decide : MethodName := ⟨RX7, "decide", "(IZ)I"⟩
abbrev cX7_isAhead : ByteArray := prog_9_method_39_code
def yX7_isAhead : MethodName := ⟨RX7, "isAhead", "(II)Z"⟩
abbrev cX7_layPage : ByteArray := prog_9_method_40_code
def yX7_layPage : MethodName := ⟨RX7, "layPage", "()V"⟩
abbrev cX7_print : ByteArray := prog_9_method_41_code
def yX7_print : MethodName := ⟨RX7, "print", "()I"⟩
abbrev cX7_correct : ByteArray := prog_9_method_42_code
def yX7_correct : MethodName := ⟨RX7, "correct", "(III)I"⟩
abbrev cX7_type : ByteArray := prog_9_method_43_code
def yX7_type : MethodName := ⟨RX7, "type", "(C)I"⟩
abbrev cX7_clearText : ByteArray := prog_9_method_44_code
def yX7_clearText : MethodName := ⟨RX7, "clearText", "()I"⟩
abbrev cX7_undo : ByteArray := prog_9_method_45_code
def yX7_undo : MethodName := ⟨RX7, "undo", "()I"⟩
abbrev cX7_keep : ByteArray := prog_9_method_46_code
def yX7_keep : MethodName := ⟨RX7, "keep", "()I"⟩
abbrev cX7_restore : ByteArray := prog_9_method_47_code
def yX7_restore : MethodName := ⟨RX7, "restore", "()I"⟩
abbrev cX7_person : ByteArray := prog_9_method_48_code
def yX7_person : MethodName := ⟨RX7, "person", "(II)I"⟩
abbrev cX7_fact : ByteArray := prog_9_method_49_code
def yX7_fact : MethodName := ⟨RX7, "fact", "(III)I"⟩
abbrev cX7_worth : ByteArray := prog_9_method_50_code
def yX7_worth : MethodName := ⟨RX7, "worth", "(I)F"⟩
abbrev cX7_urgent : ByteArray := prog_9_method_51_code
def yX7_urgent : MethodName := ⟨RX7, "urgent", "(I)I"⟩
abbrev cX7_page : ByteArray := prog_9_method_52_code
def yX7_page : MethodName := ⟨RX7, "page", "(I)I"⟩
abbrev cX7_source : ByteArray := prog_9_method_53_code
def yX7_source : MethodName := ⟨RX7, "source", "(II)I"⟩
abbrev cX7_staleOn : ByteArray := prog_9_method_54_code
def yX7_staleOn : MethodName := ⟨RX7, "staleOn", "(I)I"⟩
abbrev cX7_staleIn : ByteArray := prog_9_method_55_code
def yX7_staleIn : MethodName := ⟨RX7, "staleIn", "(I)I"⟩
abbrev cX7_facts : ByteArray := prog_9_method_56_code
def yX7_facts : MethodName := ⟨RX7, "facts", "()I"⟩
abbrev cX7_freeLines : ByteArray := prog_9_method_57_code
def yX7_freeLines : MethodName := ⟨RX7, "freeLines", "()I"⟩
abbrev cX7_count : ByteArray := prog_9_method_58_code
def yX7_count : MethodName := ⟨RX7, "count", "(I)I"⟩
def RJxf58ca : String := "java/lang/Float"
def TJxf58ca : u_T := fun k => match k with
  | _ => ("", "", "", false)
def tyJxf58ca : Nat → FieldType := fun k => match k with
  | _ => .int
abbrev wsJxf58ca0 : List Cond := u_ws RJxf58ca TJxf58ca 0
theorem nmJxf58ca : ∀ a, a < 0 → ∀ b, b < 0 → a ≠ b → (TJxf58ca a).2.1 ≠ (TJxf58ca b).2.1 := by decide +kernel
theorem tyJxf58ca_ok : ∀ k, k < 0 → parseFieldDescriptor (TJxf58ca k).2.2.1 = some (tyJxf58ca k) := by decide +kernel
abbrev cJxf58ca_isNaN_12338 : ByteArray := prog_10_method_6_code
def yJxf58ca_isNaN_12338 : MethodName := ⟨RJxf58ca, "isNaN", "(F)Z"⟩
abbrev cJxf58ca_floatToIntBits_5c35a : ByteArray := prog_10_method_24_code
def yJxf58ca_floatToIntBits_5c35a : MethodName := ⟨RJxf58ca, "floatToIntBits", "(F)I"⟩
def RJ6 : String := "java/lang/Integer"
def TJ6 : u_T := fun k => match k with
  | _ => ("", "", "", false)
def tyJ6 : Nat → FieldType := fun k => match k with
  | _ => .int
abbrev wsJ60 : List Cond := u_ws RJ6 TJ6 0
theorem nmJ6 : ∀ a, a < 0 → ∀ b, b < 0 → a ≠ b → (TJ6 a).2.1 ≠ (TJ6 b).2.1 := by decide +kernel
theorem tyJ6_ok : ∀ k, k < 0 → parseFieldDescriptor (TJ6 k).2.2.1 = some (tyJ6 k) := by decide +kernel
abbrev cJ6_bitCount_0f7a4 : ByteArray := prog_11_method_49_code
def yJ6_bitCount_0f7a4 : MethodName := ⟨RJ6, "bitCount", "(I)I"⟩
def RJ9 : String := "java/lang/Math"
def TJ9 : u_T := fun k => match k with
  | _ => ("", "", "", false)
def tyJ9 : Nat → FieldType := fun k => match k with
  | _ => .int
abbrev wsJ90 : List Cond := u_ws RJ9 TJ9 0
theorem nmJ9 : ∀ a, a < 0 → ∀ b, b < 0 → a ≠ b → (TJ9 a).2.1 ≠ (TJ9 b).2.1 := by decide +kernel
theorem tyJ9_ok : ∀ k, k < 0 → parseFieldDescriptor (TJ9 k).2.2.1 = some (tyJ9 k) := by decide +kernel
abbrev cJ9_min_7cf53 : ByteArray := prog_12_method_69_code
def yJ9_min_7cf53 : MethodName := ⟨RJ9, "min", "(II)I"⟩
def RJ10 : String := "java/lang/System"
def TJ10 : u_T := fun k => match k with
  | _ => ("", "", "", false)
def tyJ10 : Nat → FieldType := fun k => match k with
  | _ => .int
abbrev wsJ100 : List Cond := u_ws RJ10 TJ10 0
theorem nmJ10 : ∀ a, a < 0 → ∀ b, b < 0 → a ≠ b → (TJ10 a).2.1 ≠ (TJ10 b).2.1 := by decide +kernel
theorem tyJ10_ok : ∀ k, k < 0 → parseFieldDescriptor (TJ10 k).2.2.1 = some (tyJ10 k) := by decide +kernel
def RL : String := "LivesAheadLaw"
abbrev cL_law : ByteArray := code
def yL_law : MethodName := ⟨RL, "law", "([I)Z"⟩
abbrev vwCl : List vw_C := [(RX0, TX0, 7), (RX1, TX1, 3), (RX2, TX2, 10), (RX3, TX3, 4), (RX4, TX4, 5), (RX5, TX5, 3), (RX6, TX6, 7), (RX7, TX7, 14)]
end
section
/-- the tables' words that pass to callees -/
def lw_g : List Cond := lw_tbl.filter goodWord
theorem lw_gm {w : Cond} {i : Nat} (h : lw_tbl[i]? = some w) (g : goodWord w = true) : w ∈ lw_g := List.mem_filter.mpr ⟨List.mem_of_getElem? h, g⟩
theorem q35 : (.initialized "LivesAheadLaw" : Cond) ∈ lw_g := lw_gm (i := 35) (by decide +kernel) (by decide +kernel)
theorem q36 : (.initialized "LivesAhead" : Cond) ∈ lw_g := lw_gm (i := 36) (by decide +kernel) (by decide +kernel)
theorem q37 : (.initialized "LivesAhead$Desk" : Cond) ∈ lw_g := lw_gm (i := 37) (by decide +kernel) (by decide +kernel)
theorem q38 : (.initialized "LivesAhead$Life" : Cond) ∈ lw_g := lw_gm (i := 38) (by decide +kernel) (by decide +kernel)
theorem q39 : (.initialized "LivesAhead$History" : Cond) ∈ lw_g := lw_gm (i := 39) (by decide +kernel) (by decide +kernel)
theorem q40 : (.initialized "LivesAhead$PersonsText" : Cond) ∈ lw_g := lw_gm (i := 40) (by decide +kernel) (by decide +kernel)
theorem q41 : (.initialized "LivesAhead$Ranking" : Cond) ∈ lw_g := lw_gm (i := 41) (by decide +kernel) (by decide +kernel)
theorem q42 : (.initialized "LivesAhead$Page" : Cond) ∈ lw_g := lw_gm (i := 42) (by decide +kernel) (by decide +kernel)
theorem q43 : (.initialized "LivesAheadModel" : Cond) ∈ lw_g := lw_gm (i := 43) (by decide +kernel) (by decide +kernel)
theorem q44 : (.initialized "java/lang/System" : Cond) ∈ lw_g := lw_gm (i := 44) (by decide +kernel) (by decide +kernel)
theorem q45 : (.initialized "java/lang/Math" : Cond) ∈ lw_g := lw_gm (i := 45) (by decide +kernel) (by decide +kernel)
theorem q46 : (.initialized "java/lang/Integer" : Cond) ∈ lw_g := lw_gm (i := 46) (by decide +kernel) (by decide +kernel)
theorem q47 : (.initialized "java/lang/Float" : Cond) ∈ lw_g := lw_gm (i := 47) (by decide +kernel) (by decide +kernel)
theorem q48 : (.classLink "LivesAheadLaw" (7 : Nat) "LivesAhead" : Cond) ∈ lw_g := lw_gm (i := 48) (by decide +kernel) (by decide +kernel)
theorem q49 : (.instantiable "LivesAhead" (7 : Nat) : Cond) ∈ lw_g := lw_gm (i := 49) (by decide +kernel) (by decide +kernel)
theorem q50 : (.methodLink "LivesAheadLaw" (9 : Nat) ({ cls := "LivesAhead", name := "<init>", desc := "()V" } : Jvm.MethodName) : Cond) ∈ lw_g := lw_gm (i := 50) (by decide +kernel) (by decide +kernel)
theorem q51 : (.instanceMethod ({ cls := "LivesAhead", name := "<init>", desc := "()V" } : Jvm.MethodName) : Cond) ∈ lw_g := lw_gm (i := 51) (by decide +kernel) (by decide +kernel)
theorem q52 : (.code ({ cls := "LivesAhead", name := "<init>", desc := "()V" } : Jvm.MethodName) prog_1_method_1_code (1 : Nat) (Option.none : Option Jvm.ClassFile.FieldType) : Cond) ∈ lw_g := lw_gm (i := 52) (by decide +kernel) (by decide +kernel)
theorem q53 : (.methodLink "LivesAhead" (1 : Nat) ({ cls := "java/lang/Object", name := "<init>", desc := "()V" } : Jvm.MethodName) : Cond) ∈ lw_g := lw_gm (i := 53) (by decide +kernel) (by decide +kernel)
theorem q54 : (.instanceMethod ({ cls := "java/lang/Object", name := "<init>", desc := "()V" } : Jvm.MethodName) : Cond) ∈ lw_g := lw_gm (i := 54) (by decide +kernel) (by decide +kernel)
theorem q55 : (.code ({ cls := "java/lang/Object", name := "<init>", desc := "()V" } : Jvm.MethodName) object_method_1_code (1 : Nat) (Option.none : Option Jvm.ClassFile.FieldType) : Cond) ∈ lw_g := lw_gm (i := 55) (by decide +kernel) (by decide +kernel)
theorem q56 : (.classLink "LivesAhead" (7 : Nat) "LivesAhead$Desk" : Cond) ∈ lw_g := lw_gm (i := 56) (by decide +kernel) (by decide +kernel)
theorem q57 : (.instantiable "LivesAhead$Desk" (7 : Nat) : Cond) ∈ lw_g := lw_gm (i := 57) (by decide +kernel) (by decide +kernel)
theorem q58 : (.methodLink "LivesAhead" (9 : Nat) ({ cls := "LivesAhead$Desk", name := "<init>", desc := "()V" } : Jvm.MethodName) : Cond) ∈ lw_g := lw_gm (i := 58) (by decide +kernel) (by decide +kernel)
theorem q59 : (.instanceMethod ({ cls := "LivesAhead$Desk", name := "<init>", desc := "()V" } : Jvm.MethodName) : Cond) ∈ lw_g := lw_gm (i := 59) (by decide +kernel) (by decide +kernel)
theorem q60 : (.code ({ cls := "LivesAhead$Desk", name := "<init>", desc := "()V" } : Jvm.MethodName) prog_2_method_1_code (2 : Nat) (Option.none : Option Jvm.ClassFile.FieldType) : Cond) ∈ lw_g := lw_gm (i := 60) (by decide +kernel) (by decide +kernel)
theorem q61 : (.methodLink "LivesAhead$Desk" (3 : Nat) ({ cls := "java/lang/Object", name := "<init>", desc := "()V" } : Jvm.MethodName) : Cond) ∈ lw_g := lw_gm (i := 61) (by decide +kernel) (by decide +kernel)
theorem q62 : (.classLink "LivesAhead$Desk" (18 : Nat) "LivesAhead$Life" : Cond) ∈ lw_g := lw_gm (i := 62) (by decide +kernel) (by decide +kernel)
theorem q64 : (.instantiable "LivesAhead$Life" (10 : Nat) : Cond) ∈ lw_g := lw_gm (i := 64) (by decide +kernel) (by decide +kernel)
theorem q66 : (.instanceMethod ({ cls := "LivesAhead$Life", name := "<init>", desc := "()V" } : Jvm.MethodName) : Cond) ∈ lw_g := lw_gm (i := 66) (by decide +kernel) (by decide +kernel)
theorem q67 : (.code ({ cls := "LivesAhead$Life", name := "<init>", desc := "()V" } : Jvm.MethodName) prog_4_method_1_code (1 : Nat) (Option.none : Option Jvm.ClassFile.FieldType) : Cond) ∈ lw_g := lw_gm (i := 67) (by decide +kernel) (by decide +kernel)
theorem q68 : (.methodLink "LivesAhead$Life" (3 : Nat) ({ cls := "java/lang/Object", name := "<init>", desc := "()V" } : Jvm.MethodName) : Cond) ∈ lw_g := lw_gm (i := 68) (by decide +kernel) (by decide +kernel)
theorem q69 : (.fieldLink "LivesAhead$Life" (31 : Nat) "LivesAhead$Life" "age" "I" : Cond) ∈ lw_g := lw_gm (i := 69) (by decide +kernel) (by decide +kernel)
theorem q70 : (.fieldLink "LivesAhead$Life" (34 : Nat) "LivesAhead$Life" "rank" "I" : Cond) ∈ lw_g := lw_gm (i := 70) (by decide +kernel) (by decide +kernel)
theorem q71 : (.fieldLink "LivesAhead$Life" (43 : Nat) "LivesAhead$Life" "state" "I" : Cond) ∈ lw_g := lw_gm (i := 71) (by decide +kernel) (by decide +kernel)
theorem q72 : (.fieldLink "LivesAhead$Life" (9 : Nat) "LivesAhead$Life" "teller" "I" : Cond) ∈ lw_g := lw_gm (i := 72) (by decide +kernel) (by decide +kernel)
theorem q73 : (.fieldLink "LivesAhead$Life" (15 : Nat) "LivesAhead$Life" "deathDay" "I" : Cond) ∈ lw_g := lw_gm (i := 73) (by decide +kernel) (by decide +kernel)
theorem q74 : (.fieldLink "LivesAhead$Life" (18 : Nat) "LivesAhead$Life" "printDay" "I" : Cond) ∈ lw_g := lw_gm (i := 74) (by decide +kernel) (by decide +kernel)
theorem q75 : (.fieldLink "LivesAhead$Life" (37 : Nat) "LivesAhead$Life" "size" "I" : Cond) ∈ lw_g := lw_gm (i := 75) (by decide +kernel) (by decide +kernel)
theorem q76 : (.fieldLink "LivesAhead$Life" (21 : Nat) "LivesAhead$Life" "sources" "[I" : Cond) ∈ lw_g := lw_gm (i := 76) (by decide +kernel) (by decide +kernel)
theorem q77 : (.fieldLink "LivesAhead$Life" (25 : Nat) "LivesAhead$Life" "lines" "[I" : Cond) ∈ lw_g := lw_gm (i := 77) (by decide +kernel) (by decide +kernel)
theorem q78 : (.fieldLink "LivesAhead$Life" (28 : Nat) "LivesAhead$Life" "days" "[I" : Cond) ∈ lw_g := lw_gm (i := 78) (by decide +kernel) (by decide +kernel)
theorem q79 : (.lays "LivesAhead$Life" "LivesAhead$Life" "age" "I" : Cond) ∈ lw_g := lw_gm (i := 79) (by decide +kernel) (by decide +kernel)
theorem q81 : (.lays "LivesAhead$Life" "LivesAhead$Life" "rank" "I" : Cond) ∈ lw_g := lw_gm (i := 81) (by decide +kernel) (by decide +kernel)
theorem q83 : (.lays "LivesAhead$Life" "LivesAhead$Life" "state" "I" : Cond) ∈ lw_g := lw_gm (i := 83) (by decide +kernel) (by decide +kernel)
theorem q85 : (.lays "LivesAhead$Life" "LivesAhead$Life" "teller" "I" : Cond) ∈ lw_g := lw_gm (i := 85) (by decide +kernel) (by decide +kernel)
theorem q87 : (.lays "LivesAhead$Life" "LivesAhead$Life" "deathDay" "I" : Cond) ∈ lw_g := lw_gm (i := 87) (by decide +kernel) (by decide +kernel)
theorem q89 : (.lays "LivesAhead$Life" "LivesAhead$Life" "printDay" "I" : Cond) ∈ lw_g := lw_gm (i := 89) (by decide +kernel) (by decide +kernel)
theorem q91 : (.lays "LivesAhead$Life" "LivesAhead$Life" "size" "I" : Cond) ∈ lw_g := lw_gm (i := 91) (by decide +kernel) (by decide +kernel)
theorem q93 : (.laysFinal "LivesAhead$Life" "LivesAhead$Life" "sources" "[I" : Cond) ∈ lw_g := lw_gm (i := 93) (by decide +kernel) (by decide +kernel)
theorem q95 : (.laysFinal "LivesAhead$Life" "LivesAhead$Life" "lines" "[I" : Cond) ∈ lw_g := lw_gm (i := 95) (by decide +kernel) (by decide +kernel)
theorem q97 : (.laysFinal "LivesAhead$Life" "LivesAhead$Life" "days" "[I" : Cond) ∈ lw_g := lw_gm (i := 97) (by decide +kernel) (by decide +kernel)
theorem q100 : (.arrayClass .int : Cond) ∈ lw_g := lw_gm (i := 100) (by decide +kernel) (by decide +kernel)
theorem q101 : (.fieldLink "LivesAhead$Desk" (9 : Nat) "LivesAhead$Desk" "settings" "[I" : Cond) ∈ lw_g := lw_gm (i := 101) (by decide +kernel) (by decide +kernel)
theorem q102 : (.fieldLink "LivesAhead$Desk" (15 : Nat) "LivesAhead$Desk" "trusts" "[I" : Cond) ∈ lw_g := lw_gm (i := 102) (by decide +kernel) (by decide +kernel)
theorem q103 : (.fieldLink "LivesAhead$Desk" (20 : Nat) "LivesAhead$Desk" "lives" "[LLivesAhead$Life;" : Cond) ∈ lw_g := lw_gm (i := 103) (by decide +kernel) (by decide +kernel)
theorem q104 : (.fieldLink "LivesAhead$Desk" (35 : Nat) "LivesAhead$Desk" "persons" "I" : Cond) ∈ lw_g := lw_gm (i := 104) (by decide +kernel) (by decide +kernel)
theorem q105 : (.fieldLink "LivesAhead$Desk" (38 : Nat) "LivesAhead$Desk" "day" "I" : Cond) ∈ lw_g := lw_gm (i := 105) (by decide +kernel) (by decide +kernel)
theorem q106 : (.fieldLink "LivesAhead$Desk" (25 : Nat) "LivesAhead$Desk" "hoursLeft" "I" : Cond) ∈ lw_g := lw_gm (i := 106) (by decide +kernel) (by decide +kernel)
theorem q107 : (.fieldLink "LivesAhead$Desk" (41 : Nat) "LivesAhead$Desk" "corrections" "I" : Cond) ∈ lw_g := lw_gm (i := 107) (by decide +kernel) (by decide +kernel)
theorem q108 : (.laysFinal "LivesAhead$Desk" "LivesAhead$Desk" "settings" "[I" : Cond) ∈ lw_g := lw_gm (i := 108) (by decide +kernel) (by decide +kernel)
theorem q110 : (.laysFinal "LivesAhead$Desk" "LivesAhead$Desk" "trusts" "[I" : Cond) ∈ lw_g := lw_gm (i := 110) (by decide +kernel) (by decide +kernel)
theorem q112 : (.laysFinal "LivesAhead$Desk" "LivesAhead$Desk" "lives" "[LLivesAhead$Life;" : Cond) ∈ lw_g := lw_gm (i := 112) (by decide +kernel) (by decide +kernel)
theorem q114 : (.lays "LivesAhead$Desk" "LivesAhead$Desk" "persons" "I" : Cond) ∈ lw_g := lw_gm (i := 114) (by decide +kernel) (by decide +kernel)
theorem q116 : (.lays "LivesAhead$Desk" "LivesAhead$Desk" "day" "I" : Cond) ∈ lw_g := lw_gm (i := 116) (by decide +kernel) (by decide +kernel)
theorem q118 : (.lays "LivesAhead$Desk" "LivesAhead$Desk" "hoursLeft" "I" : Cond) ∈ lw_g := lw_gm (i := 118) (by decide +kernel) (by decide +kernel)
theorem q120 : (.lays "LivesAhead$Desk" "LivesAhead$Desk" "corrections" "I" : Cond) ∈ lw_g := lw_gm (i := 120) (by decide +kernel) (by decide +kernel)
theorem q123 : (.classLink "LivesAhead" (19 : Nat) "LivesAhead$History" : Cond) ∈ lw_g := lw_gm (i := 123) (by decide +kernel) (by decide +kernel)
theorem q124 : (.instantiable "LivesAhead$History" (3 : Nat) : Cond) ∈ lw_g := lw_gm (i := 124) (by decide +kernel) (by decide +kernel)
theorem q125 : (.methodLink "LivesAhead" (21 : Nat) ({ cls := "LivesAhead$History", name := "<init>", desc := "()V" } : Jvm.MethodName) : Cond) ∈ lw_g := lw_gm (i := 125) (by decide +kernel) (by decide +kernel)
theorem q126 : (.instanceMethod ({ cls := "LivesAhead$History", name := "<init>", desc := "()V" } : Jvm.MethodName) : Cond) ∈ lw_g := lw_gm (i := 126) (by decide +kernel) (by decide +kernel)
theorem q127 : (.code ({ cls := "LivesAhead$History", name := "<init>", desc := "()V" } : Jvm.MethodName) prog_3_method_1_code (2 : Nat) (Option.none : Option Jvm.ClassFile.FieldType) : Cond) ∈ lw_g := lw_gm (i := 127) (by decide +kernel) (by decide +kernel)
theorem q128 : (.methodLink "LivesAhead$History" (3 : Nat) ({ cls := "java/lang/Object", name := "<init>", desc := "()V" } : Jvm.MethodName) : Cond) ∈ lw_g := lw_gm (i := 128) (by decide +kernel) (by decide +kernel)
theorem q129 : (.classLink "LivesAhead$History" (9 : Nat) "LivesAhead$Desk" : Cond) ∈ lw_g := lw_gm (i := 129) (by decide +kernel) (by decide +kernel)
theorem q131 : (.methodLink "LivesAhead$History" (17 : Nat) ({ cls := "LivesAhead$Desk", name := "<init>", desc := "()V" } : Jvm.MethodName) : Cond) ∈ lw_g := lw_gm (i := 131) (by decide +kernel) (by decide +kernel)
theorem q132 : (.fieldLink "LivesAhead$History" (11 : Nat) "LivesAhead$History" "states" "[LLivesAhead$Desk;" : Cond) ∈ lw_g := lw_gm (i := 132) (by decide +kernel) (by decide +kernel)
theorem q133 : (.fieldLink "LivesAhead$History" (22 : Nat) "LivesAhead$History" "first" "I" : Cond) ∈ lw_g := lw_gm (i := 133) (by decide +kernel) (by decide +kernel)
theorem q134 : (.fieldLink "LivesAhead$History" (18 : Nat) "LivesAhead$History" "size" "I" : Cond) ∈ lw_g := lw_gm (i := 134) (by decide +kernel) (by decide +kernel)
theorem q135 : (.laysFinal "LivesAhead$History" "LivesAhead$History" "states" "[LLivesAhead$Desk;" : Cond) ∈ lw_g := lw_gm (i := 135) (by decide +kernel) (by decide +kernel)
theorem q137 : (.lays "LivesAhead$History" "LivesAhead$History" "first" "I" : Cond) ∈ lw_g := lw_gm (i := 137) (by decide +kernel) (by decide +kernel)
theorem q139 : (.lays "LivesAhead$History" "LivesAhead$History" "size" "I" : Cond) ∈ lw_g := lw_gm (i := 139) (by decide +kernel) (by decide +kernel)
theorem q142 : (.classLink "LivesAhead" (26 : Nat) "LivesAhead$PersonsText" : Cond) ∈ lw_g := lw_gm (i := 142) (by decide +kernel) (by decide +kernel)
theorem q143 : (.instantiable "LivesAhead$PersonsText" (5 : Nat) : Cond) ∈ lw_g := lw_gm (i := 143) (by decide +kernel) (by decide +kernel)
theorem q144 : (.methodLink "LivesAhead" (28 : Nat) ({ cls := "LivesAhead$PersonsText", name := "<init>", desc := "()V" } : Jvm.MethodName) : Cond) ∈ lw_g := lw_gm (i := 144) (by decide +kernel) (by decide +kernel)
theorem q145 : (.instanceMethod ({ cls := "LivesAhead$PersonsText", name := "<init>", desc := "()V" } : Jvm.MethodName) : Cond) ∈ lw_g := lw_gm (i := 145) (by decide +kernel) (by decide +kernel)
theorem q146 : (.code ({ cls := "LivesAhead$PersonsText", name := "<init>", desc := "()V" } : Jvm.MethodName) prog_6_method_1_code (2 : Nat) (Option.none : Option Jvm.ClassFile.FieldType) : Cond) ∈ lw_g := lw_gm (i := 146) (by decide +kernel) (by decide +kernel)
theorem q147 : (.methodLink "LivesAhead$PersonsText" (3 : Nat) ({ cls := "java/lang/Object", name := "<init>", desc := "()V" } : Jvm.MethodName) : Cond) ∈ lw_g := lw_gm (i := 147) (by decide +kernel) (by decide +kernel)
theorem q148 : (.classLink "LivesAhead$PersonsText" (15 : Nat) "LivesAhead$Life" : Cond) ∈ lw_g := lw_gm (i := 148) (by decide +kernel) (by decide +kernel)
theorem q150 : (.fieldLink "LivesAhead$PersonsText" (9 : Nat) "LivesAhead$PersonsText" "characters" "[C" : Cond) ∈ lw_g := lw_gm (i := 150) (by decide +kernel) (by decide +kernel)
theorem q151 : (.fieldLink "LivesAhead$PersonsText" (22 : Nat) "LivesAhead$PersonsText" "length" "I" : Cond) ∈ lw_g := lw_gm (i := 151) (by decide +kernel) (by decide +kernel)
theorem q152 : (.fieldLink "LivesAhead$PersonsText" (17 : Nat) "LivesAhead$PersonsText" "read" "[LLivesAhead$Life;" : Cond) ∈ lw_g := lw_gm (i := 152) (by decide +kernel) (by decide +kernel)
theorem q153 : (.fieldLink "LivesAhead$PersonsText" (29 : Nat) "LivesAhead$PersonsText" "personsRead" "I" : Cond) ∈ lw_g := lw_gm (i := 153) (by decide +kernel) (by decide +kernel)
theorem q154 : (.fieldLink "LivesAhead$PersonsText" (26 : Nat) "LivesAhead$PersonsText" "at" "I" : Cond) ∈ lw_g := lw_gm (i := 154) (by decide +kernel) (by decide +kernel)
theorem q155 : (.laysFinal "LivesAhead$PersonsText" "LivesAhead$PersonsText" "characters" "[C" : Cond) ∈ lw_g := lw_gm (i := 155) (by decide +kernel) (by decide +kernel)
theorem q157 : (.lays "LivesAhead$PersonsText" "LivesAhead$PersonsText" "length" "I" : Cond) ∈ lw_g := lw_gm (i := 157) (by decide +kernel) (by decide +kernel)
theorem q159 : (.laysFinal "LivesAhead$PersonsText" "LivesAhead$PersonsText" "read" "[LLivesAhead$Life;" : Cond) ∈ lw_g := lw_gm (i := 159) (by decide +kernel) (by decide +kernel)
theorem q161 : (.lays "LivesAhead$PersonsText" "LivesAhead$PersonsText" "personsRead" "I" : Cond) ∈ lw_g := lw_gm (i := 161) (by decide +kernel) (by decide +kernel)
theorem q163 : (.lays "LivesAhead$PersonsText" "LivesAhead$PersonsText" "at" "I" : Cond) ∈ lw_g := lw_gm (i := 163) (by decide +kernel) (by decide +kernel)
theorem q166 : (.arrayClass .char : Cond) ∈ lw_g := lw_gm (i := 166) (by decide +kernel) (by decide +kernel)
theorem q167 : (.classLink "LivesAhead" (33 : Nat) "LivesAhead$Ranking" : Cond) ∈ lw_g := lw_gm (i := 167) (by decide +kernel) (by decide +kernel)
theorem q168 : (.instantiable "LivesAhead$Ranking" (3 : Nat) : Cond) ∈ lw_g := lw_gm (i := 168) (by decide +kernel) (by decide +kernel)
theorem q170 : (.instanceMethod ({ cls := "LivesAhead$Ranking", name := "<init>", desc := "()V" } : Jvm.MethodName) : Cond) ∈ lw_g := lw_gm (i := 170) (by decide +kernel) (by decide +kernel)
theorem q171 : (.code ({ cls := "LivesAhead$Ranking", name := "<init>", desc := "()V" } : Jvm.MethodName) prog_7_method_1_code (1 : Nat) (Option.none : Option Jvm.ClassFile.FieldType) : Cond) ∈ lw_g := lw_gm (i := 171) (by decide +kernel) (by decide +kernel)
theorem q172 : (.methodLink "LivesAhead$Ranking" (3 : Nat) ({ cls := "java/lang/Object", name := "<init>", desc := "()V" } : Jvm.MethodName) : Cond) ∈ lw_g := lw_gm (i := 172) (by decide +kernel) (by decide +kernel)
theorem q173 : (.fieldLink "LivesAhead$Ranking" (9 : Nat) "LivesAhead$Ranking" "persons" "[I" : Cond) ∈ lw_g := lw_gm (i := 173) (by decide +kernel) (by decide +kernel)
theorem q174 : (.fieldLink "LivesAhead$Ranking" (15 : Nat) "LivesAhead$Ranking" "keys" "[I" : Cond) ∈ lw_g := lw_gm (i := 174) (by decide +kernel) (by decide +kernel)
theorem q175 : (.fieldLink "LivesAhead$Ranking" (18 : Nat) "LivesAhead$Ranking" "size" "I" : Cond) ∈ lw_g := lw_gm (i := 175) (by decide +kernel) (by decide +kernel)
theorem q176 : (.laysFinal "LivesAhead$Ranking" "LivesAhead$Ranking" "persons" "[I" : Cond) ∈ lw_g := lw_gm (i := 176) (by decide +kernel) (by decide +kernel)
theorem q178 : (.laysFinal "LivesAhead$Ranking" "LivesAhead$Ranking" "keys" "[I" : Cond) ∈ lw_g := lw_gm (i := 178) (by decide +kernel) (by decide +kernel)
theorem q180 : (.lays "LivesAhead$Ranking" "LivesAhead$Ranking" "size" "I" : Cond) ∈ lw_g := lw_gm (i := 180) (by decide +kernel) (by decide +kernel)
theorem q183 : (.classLink "LivesAhead" (40 : Nat) "LivesAhead$Page" : Cond) ∈ lw_g := lw_gm (i := 183) (by decide +kernel) (by decide +kernel)
theorem q184 : (.instantiable "LivesAhead$Page" (4 : Nat) : Cond) ∈ lw_g := lw_gm (i := 184) (by decide +kernel) (by decide +kernel)
theorem q186 : (.instanceMethod ({ cls := "LivesAhead$Page", name := "<init>", desc := "()V" } : Jvm.MethodName) : Cond) ∈ lw_g := lw_gm (i := 186) (by decide +kernel) (by decide +kernel)
theorem q187 : (.code ({ cls := "LivesAhead$Page", name := "<init>", desc := "()V" } : Jvm.MethodName) prog_5_method_1_code (1 : Nat) (Option.none : Option Jvm.ClassFile.FieldType) : Cond) ∈ lw_g := lw_gm (i := 187) (by decide +kernel) (by decide +kernel)
theorem q188 : (.methodLink "LivesAhead$Page" (3 : Nat) ({ cls := "java/lang/Object", name := "<init>", desc := "()V" } : Jvm.MethodName) : Cond) ∈ lw_g := lw_gm (i := 188) (by decide +kernel) (by decide +kernel)
theorem q189 : (.classLink "LivesAhead$Page" (9 : Nat) "LivesAhead$Ranking" : Cond) ∈ lw_g := lw_gm (i := 189) (by decide +kernel) (by decide +kernel)
theorem q191 : (.fieldLink "LivesAhead$Page" (12 : Nat) "LivesAhead$Page" "queue" "LLivesAhead$Ranking;" : Cond) ∈ lw_g := lw_gm (i := 191) (by decide +kernel) (by decide +kernel)
theorem q192 : (.fieldLink "LivesAhead$Page" (18 : Nat) "LivesAhead$Page" "persons" "[I" : Cond) ∈ lw_g := lw_gm (i := 192) (by decide +kernel) (by decide +kernel)
theorem q193 : (.fieldLink "LivesAhead$Page" (26 : Nat) "LivesAhead$Page" "size" "I" : Cond) ∈ lw_g := lw_gm (i := 193) (by decide +kernel) (by decide +kernel)
theorem q194 : (.fieldLink "LivesAhead$Page" (36 : Nat) "LivesAhead$Page" "linesFree" "I" : Cond) ∈ lw_g := lw_gm (i := 194) (by decide +kernel) (by decide +kernel)
theorem q195 : (.laysFinal "LivesAhead$Page" "LivesAhead$Page" "queue" "LLivesAhead$Ranking;" : Cond) ∈ lw_g := lw_gm (i := 195) (by decide +kernel) (by decide +kernel)
theorem q197 : (.laysFinal "LivesAhead$Page" "LivesAhead$Page" "persons" "[I" : Cond) ∈ lw_g := lw_gm (i := 197) (by decide +kernel) (by decide +kernel)
theorem q199 : (.lays "LivesAhead$Page" "LivesAhead$Page" "size" "I" : Cond) ∈ lw_g := lw_gm (i := 199) (by decide +kernel) (by decide +kernel)
theorem q201 : (.lays "LivesAhead$Page" "LivesAhead$Page" "linesFree" "I" : Cond) ∈ lw_g := lw_gm (i := 201) (by decide +kernel) (by decide +kernel)
theorem q204 : (.fieldLink "LivesAhead" (10 : Nat) "LivesAhead" "desk" "LLivesAhead$Desk;" : Cond) ∈ lw_g := lw_gm (i := 204) (by decide +kernel) (by decide +kernel)
theorem q205 : (.fieldLink "LivesAhead" (16 : Nat) "LivesAhead" "snapshot" "LLivesAhead$Desk;" : Cond) ∈ lw_g := lw_gm (i := 205) (by decide +kernel) (by decide +kernel)
theorem q206 : (.fieldLink "LivesAhead" (211 : Nat) "LivesAhead" "hasSnapshot" "Z" : Cond) ∈ lw_g := lw_gm (i := 206) (by decide +kernel) (by decide +kernel)
theorem q207 : (.fieldLink "LivesAhead" (22 : Nat) "LivesAhead" "history" "LLivesAhead$History;" : Cond) ∈ lw_g := lw_gm (i := 207) (by decide +kernel) (by decide +kernel)
theorem q208 : (.fieldLink "LivesAhead" (29 : Nat) "LivesAhead" "text" "LLivesAhead$PersonsText;" : Cond) ∈ lw_g := lw_gm (i := 208) (by decide +kernel) (by decide +kernel)
theorem q209 : (.fieldLink "LivesAhead" (36 : Nat) "LivesAhead" "urgencies" "LLivesAhead$Ranking;" : Cond) ∈ lw_g := lw_gm (i := 209) (by decide +kernel) (by decide +kernel)
theorem q210 : (.fieldLink "LivesAhead" (43 : Nat) "LivesAhead" "nextPage" "LLivesAhead$Page;" : Cond) ∈ lw_g := lw_gm (i := 210) (by decide +kernel) (by decide +kernel)
theorem q211 : (.laysFinal "LivesAhead" "LivesAhead" "desk" "LLivesAhead$Desk;" : Cond) ∈ lw_g := lw_gm (i := 211) (by decide +kernel) (by decide +kernel)
theorem q213 : (.laysFinal "LivesAhead" "LivesAhead" "snapshot" "LLivesAhead$Desk;" : Cond) ∈ lw_g := lw_gm (i := 213) (by decide +kernel) (by decide +kernel)
theorem q215 : (.lays "LivesAhead" "LivesAhead" "hasSnapshot" "Z" : Cond) ∈ lw_g := lw_gm (i := 215) (by decide +kernel) (by decide +kernel)
theorem q217 : (.laysFinal "LivesAhead" "LivesAhead" "history" "LLivesAhead$History;" : Cond) ∈ lw_g := lw_gm (i := 217) (by decide +kernel) (by decide +kernel)
theorem q219 : (.laysFinal "LivesAhead" "LivesAhead" "text" "LLivesAhead$PersonsText;" : Cond) ∈ lw_g := lw_gm (i := 219) (by decide +kernel) (by decide +kernel)
theorem q221 : (.laysFinal "LivesAhead" "LivesAhead" "urgencies" "LLivesAhead$Ranking;" : Cond) ∈ lw_g := lw_gm (i := 221) (by decide +kernel) (by decide +kernel)
theorem q223 : (.laysFinal "LivesAhead" "LivesAhead" "nextPage" "LLivesAhead$Page;" : Cond) ∈ lw_g := lw_gm (i := 223) (by decide +kernel) (by decide +kernel)
theorem q226 : (.methodLink "LivesAheadLaw" (13 : Nat) ({ cls := "LivesAhead", name := "addPerson", desc := "(II)I" } : Jvm.MethodName) : Cond) ∈ lw_g := lw_gm (i := 226) (by decide +kernel) (by decide +kernel)
theorem q227 : (.instanceMethod ({ cls := "LivesAhead", name := "addPerson", desc := "(II)I" } : Jvm.MethodName) : Cond) ∈ lw_g := lw_gm (i := 227) (by decide +kernel) (by decide +kernel)
theorem q228 : (.selects "LivesAhead" ({ cls := "LivesAhead", name := "addPerson", desc := "(II)I" } : Jvm.MethodName) ({ cls := "LivesAhead", name := "addPerson", desc := "(II)I" } : Jvm.MethodName) : Cond) ∈ lw_g := lw_gm (i := 228) (by decide +kernel) (by decide +kernel)
theorem q229 : (.code ({ cls := "LivesAhead", name := "addPerson", desc := "(II)I" } : Jvm.MethodName) prog_1_method_2_code (3 : Nat) (Option.some .int) : Cond) ∈ lw_g := lw_gm (i := 229) (by decide +kernel) (by decide +kernel)
theorem q230 : (.methodLink "LivesAhead" (47 : Nat) ({ cls := "LivesAhead", name := "isWithin", desc := "(III)Z" } : Jvm.MethodName) : Cond) ∈ lw_g := lw_gm (i := 230) (by decide +kernel) (by decide +kernel)
theorem q231 : (.static ({ cls := "LivesAhead", name := "isWithin", desc := "(III)Z" } : Jvm.MethodName) : Cond) ∈ lw_g := lw_gm (i := 231) (by decide +kernel) (by decide +kernel)
theorem q232 : (.code ({ cls := "LivesAhead", name := "isWithin", desc := "(III)Z" } : Jvm.MethodName) prog_1_method_27_code (3 : Nat) (Option.some .boolean) : Cond) ∈ lw_g := lw_gm (i := 232) (by decide +kernel) (by decide +kernel)
theorem q233 : (.methodLink "LivesAhead" (51 : Nat) ({ cls := "LivesAhead$Desk", name := "roomForPersons", desc := "()I" } : Jvm.MethodName) : Cond) ∈ lw_g := lw_gm (i := 233) (by decide +kernel) (by decide +kernel)
theorem q234 : (.instanceMethod ({ cls := "LivesAhead$Desk", name := "roomForPersons", desc := "()I" } : Jvm.MethodName) : Cond) ∈ lw_g := lw_gm (i := 234) (by decide +kernel) (by decide +kernel)
theorem q235 : (.selects "LivesAhead$Desk" ({ cls := "LivesAhead$Desk", name := "roomForPersons", desc := "()I" } : Jvm.MethodName) ({ cls := "LivesAhead$Desk", name := "roomForPersons", desc := "()I" } : Jvm.MethodName) : Cond) ∈ lw_g := lw_gm (i := 235) (by decide +kernel) (by decide +kernel)
theorem q236 : (.code ({ cls := "LivesAhead$Desk", name := "roomForPersons", desc := "()I" } : Jvm.MethodName) prog_2_method_7_code (1 : Nat) (Option.some .int) : Cond) ∈ lw_g := lw_gm (i := 236) (by decide +kernel) (by decide +kernel)
theorem q237 : (.methodLink "LivesAhead" (55 : Nat) ({ cls := "LivesAhead$History", name := "remember", desc := "(LLivesAhead$Desk;)V" } : Jvm.MethodName) : Cond) ∈ lw_g := lw_gm (i := 237) (by decide +kernel) (by decide +kernel)
theorem q238 : (.instanceMethod ({ cls := "LivesAhead$History", name := "remember", desc := "(LLivesAhead$Desk;)V" } : Jvm.MethodName) : Cond) ∈ lw_g := lw_gm (i := 238) (by decide +kernel) (by decide +kernel)
theorem q239 : (.selects "LivesAhead$History" ({ cls := "LivesAhead$History", name := "remember", desc := "(LLivesAhead$Desk;)V" } : Jvm.MethodName) ({ cls := "LivesAhead$History", name := "remember", desc := "(LLivesAhead$Desk;)V" } : Jvm.MethodName) : Cond) ∈ lw_g := lw_gm (i := 239) (by decide +kernel) (by decide +kernel)
theorem q240 : (.code ({ cls := "LivesAhead$History", name := "remember", desc := "(LLivesAhead$Desk;)V" } : Jvm.MethodName) prog_3_method_3_code (3 : Nat) (Option.none : Option Jvm.ClassFile.FieldType) : Cond) ∈ lw_g := lw_gm (i := 240) (by decide +kernel) (by decide +kernel)
theorem q241 : (.methodLink "LivesAhead$History" (25 : Nat) ({ cls := "LivesAhead$History", name := "stateAt", desc := "(I)LLivesAhead$Desk;" } : Jvm.MethodName) : Cond) ∈ lw_g := lw_gm (i := 241) (by decide +kernel) (by decide +kernel)
theorem q243 : (.instanceMethod ({ cls := "LivesAhead$History", name := "stateAt", desc := "(I)LLivesAhead$Desk;" } : Jvm.MethodName) : Cond) ∈ lw_g := lw_gm (i := 243) (by decide +kernel) (by decide +kernel)
theorem q244 : (.code ({ cls := "LivesAhead$History", name := "stateAt", desc := "(I)LLivesAhead$Desk;" } : Jvm.MethodName) prog_3_method_5_code (3 : Nat) (Option.some (.object "LivesAhead$Desk")) : Cond) ∈ lw_g := lw_gm (i := 244) (by decide +kernel) (by decide +kernel)
theorem q245 : (.methodLink "LivesAhead$History" (29 : Nat) ({ cls := "LivesAhead$Desk", name := "copyFrom", desc := "(LLivesAhead$Desk;)V" } : Jvm.MethodName) : Cond) ∈ lw_g := lw_gm (i := 245) (by decide +kernel) (by decide +kernel)
theorem q246 : (.instanceMethod ({ cls := "LivesAhead$Desk", name := "copyFrom", desc := "(LLivesAhead$Desk;)V" } : Jvm.MethodName) : Cond) ∈ lw_g := lw_gm (i := 246) (by decide +kernel) (by decide +kernel)
theorem q247 : (.selects "LivesAhead$Desk" ({ cls := "LivesAhead$Desk", name := "copyFrom", desc := "(LLivesAhead$Desk;)V" } : Jvm.MethodName) ({ cls := "LivesAhead$Desk", name := "copyFrom", desc := "(LLivesAhead$Desk;)V" } : Jvm.MethodName) : Cond) ∈ lw_g := lw_gm (i := 247) (by decide +kernel) (by decide +kernel)
theorem q248 : (.code ({ cls := "LivesAhead$Desk", name := "copyFrom", desc := "(LLivesAhead$Desk;)V" } : Jvm.MethodName) prog_2_method_2_code (5 : Nat) (Option.none : Option Jvm.ClassFile.FieldType) : Cond) ∈ lw_g := lw_gm (i := 248) (by decide +kernel) (by decide +kernel)
theorem q249 : (.methodLink "LivesAhead$Desk" (29 : Nat) ({ cls := "java/lang/System", name := "arraycopy", desc := "(Ljava/lang/Object;ILjava/lang/Object;II)V" } : Jvm.MethodName) : Cond) ∈ lw_g := lw_gm (i := 249) (by decide +kernel) (by decide +kernel)
theorem q250 : (.static ({ cls := "java/lang/System", name := "arraycopy", desc := "(Ljava/lang/Object;ILjava/lang/Object;II)V" } : Jvm.MethodName) : Cond) ∈ lw_g := lw_gm (i := 250) (by decide +kernel) (by decide +kernel)
theorem q251 : (.native ({ cls := "java/lang/System", name := "arraycopy", desc := "(Ljava/lang/Object;ILjava/lang/Object;II)V" } : Jvm.MethodName) : Cond) ∈ lw_g := lw_gm (i := 251) (by decide +kernel) (by decide +kernel)
theorem q252 : (.methodLink "LivesAhead$Desk" (44 : Nat) ({ cls := "LivesAhead$Desk", name := "lifeOf", desc := "(I)LLivesAhead$Life;" } : Jvm.MethodName) : Cond) ∈ lw_g := lw_gm (i := 252) (by decide +kernel) (by decide +kernel)
theorem q253 : (.instanceMethod ({ cls := "LivesAhead$Desk", name := "lifeOf", desc := "(I)LLivesAhead$Life;" } : Jvm.MethodName) : Cond) ∈ lw_g := lw_gm (i := 253) (by decide +kernel) (by decide +kernel)
theorem q254 : (.selects "LivesAhead$Desk" ({ cls := "LivesAhead$Desk", name := "lifeOf", desc := "(I)LLivesAhead$Life;" } : Jvm.MethodName) ({ cls := "LivesAhead$Desk", name := "lifeOf", desc := "(I)LLivesAhead$Life;" } : Jvm.MethodName) : Cond) ∈ lw_g := lw_gm (i := 254) (by decide +kernel) (by decide +kernel)
theorem q255 : (.code ({ cls := "LivesAhead$Desk", name := "lifeOf", desc := "(I)LLivesAhead$Life;" } : Jvm.MethodName) prog_2_method_8_code (2 : Nat) (Option.some (.object "LivesAhead$Life")) : Cond) ∈ lw_g := lw_gm (i := 255) (by decide +kernel) (by decide +kernel)
theorem q256 : (.methodLink "LivesAhead$Desk" (48 : Nat) ({ cls := "LivesAhead$Life", name := "copyLife", desc := "(LLivesAhead$Life;)V" } : Jvm.MethodName) : Cond) ∈ lw_g := lw_gm (i := 256) (by decide +kernel) (by decide +kernel)
theorem q257 : (.instanceMethod ({ cls := "LivesAhead$Life", name := "copyLife", desc := "(LLivesAhead$Life;)V" } : Jvm.MethodName) : Cond) ∈ lw_g := lw_gm (i := 257) (by decide +kernel) (by decide +kernel)
theorem q258 : (.selects "LivesAhead$Life" ({ cls := "LivesAhead$Life", name := "copyLife", desc := "(LLivesAhead$Life;)V" } : Jvm.MethodName) ({ cls := "LivesAhead$Life", name := "copyLife", desc := "(LLivesAhead$Life;)V" } : Jvm.MethodName) : Cond) ∈ lw_g := lw_gm (i := 258) (by decide +kernel) (by decide +kernel)
theorem q259 : (.code ({ cls := "LivesAhead$Life", name := "copyLife", desc := "(LLivesAhead$Life;)V" } : Jvm.MethodName) prog_4_method_3_code (2 : Nat) (Option.none : Option Jvm.ClassFile.FieldType) : Cond) ∈ lw_g := lw_gm (i := 259) (by decide +kernel) (by decide +kernel)
theorem q260 : (.methodLink "LivesAhead$Life" (46 : Nat) ({ cls := "java/lang/System", name := "arraycopy", desc := "(Ljava/lang/Object;ILjava/lang/Object;II)V" } : Jvm.MethodName) : Cond) ∈ lw_g := lw_gm (i := 260) (by decide +kernel) (by decide +kernel)
theorem q261 : (.methodLink "LivesAhead" (59 : Nat) ({ cls := "LivesAhead$Desk", name := "join", desc := "(II)I" } : Jvm.MethodName) : Cond) ∈ lw_g := lw_gm (i := 261) (by decide +kernel) (by decide +kernel)
theorem q262 : (.instanceMethod ({ cls := "LivesAhead$Desk", name := "join", desc := "(II)I" } : Jvm.MethodName) : Cond) ∈ lw_g := lw_gm (i := 262) (by decide +kernel) (by decide +kernel)
theorem q263 : (.selects "LivesAhead$Desk" ({ cls := "LivesAhead$Desk", name := "join", desc := "(II)I" } : Jvm.MethodName) ({ cls := "LivesAhead$Desk", name := "join", desc := "(II)I" } : Jvm.MethodName) : Cond) ∈ lw_g := lw_gm (i := 263) (by decide +kernel) (by decide +kernel)
theorem q264 : (.code ({ cls := "LivesAhead$Desk", name := "join", desc := "(II)I" } : Jvm.MethodName) prog_2_method_9_code (4 : Nat) (Option.some .int) : Cond) ∈ lw_g := lw_gm (i := 264) (by decide +kernel) (by decide +kernel)
theorem q265 : (.methodLink "LivesAhead$Desk" (52 : Nat) ({ cls := "LivesAhead$Desk", name := "roomForPersons", desc := "()I" } : Jvm.MethodName) : Cond) ∈ lw_g := lw_gm (i := 265) (by decide +kernel) (by decide +kernel)
theorem q266 : (.methodLink "LivesAhead$Desk" (56 : Nat) ({ cls := "LivesAhead$Life", name := "begin", desc := "(II)V" } : Jvm.MethodName) : Cond) ∈ lw_g := lw_gm (i := 266) (by decide +kernel) (by decide +kernel)
theorem q267 : (.instanceMethod ({ cls := "LivesAhead$Life", name := "begin", desc := "(II)V" } : Jvm.MethodName) : Cond) ∈ lw_g := lw_gm (i := 267) (by decide +kernel) (by decide +kernel)
theorem q268 : (.selects "LivesAhead$Life" ({ cls := "LivesAhead$Life", name := "begin", desc := "(II)V" } : Jvm.MethodName) ({ cls := "LivesAhead$Life", name := "begin", desc := "(II)V" } : Jvm.MethodName) : Cond) ∈ lw_g := lw_gm (i := 268) (by decide +kernel) (by decide +kernel)
theorem q269 : (.code ({ cls := "LivesAhead$Life", name := "begin", desc := "(II)V" } : Jvm.MethodName) prog_4_method_2_code (3 : Nat) (Option.none : Option Jvm.ClassFile.FieldType) : Cond) ∈ lw_g := lw_gm (i := 269) (by decide +kernel) (by decide +kernel)
theorem q270 : (.methodLink "LivesAhead$Life" (40 : Nat) ({ cls := "LivesAhead$Life", name := "takeBackDeath", desc := "()V" } : Jvm.MethodName) : Cond) ∈ lw_g := lw_gm (i := 270) (by decide +kernel) (by decide +kernel)
theorem q271 : (.instanceMethod ({ cls := "LivesAhead$Life", name := "takeBackDeath", desc := "()V" } : Jvm.MethodName) : Cond) ∈ lw_g := lw_gm (i := 271) (by decide +kernel) (by decide +kernel)
theorem q272 : (.selects "LivesAhead$Life" ({ cls := "LivesAhead$Life", name := "takeBackDeath", desc := "()V" } : Jvm.MethodName) ({ cls := "LivesAhead$Life", name := "takeBackDeath", desc := "()V" } : Jvm.MethodName) : Cond) ∈ lw_g := lw_gm (i := 272) (by decide +kernel) (by decide +kernel)
theorem q273 : (.code ({ cls := "LivesAhead$Life", name := "takeBackDeath", desc := "()V" } : Jvm.MethodName) prog_4_method_14_code (1 : Nat) (Option.none : Option Jvm.ClassFile.FieldType) : Cond) ∈ lw_g := lw_gm (i := 273) (by decide +kernel) (by decide +kernel)
theorem q274 : (.methodLink "LivesAheadLaw" (18 : Nat) ({ cls := "LivesAhead", name := "addPersons", desc := "()I" } : Jvm.MethodName) : Cond) ∈ lw_g := lw_gm (i := 274) (by decide +kernel) (by decide +kernel)
theorem q275 : (.instanceMethod ({ cls := "LivesAhead", name := "addPersons", desc := "()I" } : Jvm.MethodName) : Cond) ∈ lw_g := lw_gm (i := 275) (by decide +kernel) (by decide +kernel)
theorem q276 : (.selects "LivesAhead" ({ cls := "LivesAhead", name := "addPersons", desc := "()I" } : Jvm.MethodName) ({ cls := "LivesAhead", name := "addPersons", desc := "()I" } : Jvm.MethodName) : Cond) ∈ lw_g := lw_gm (i := 276) (by decide +kernel) (by decide +kernel)
theorem q277 : (.code ({ cls := "LivesAhead", name := "addPersons", desc := "()I" } : Jvm.MethodName) prog_1_method_3_code (3 : Nat) (Option.some .int) : Cond) ∈ lw_g := lw_gm (i := 277) (by decide +kernel) (by decide +kernel)
theorem q278 : (.methodLink "LivesAhead" (63 : Nat) ({ cls := "LivesAhead$Desk", name := "today", desc := "()I" } : Jvm.MethodName) : Cond) ∈ lw_g := lw_gm (i := 278) (by decide +kernel) (by decide +kernel)
theorem q279 : (.instanceMethod ({ cls := "LivesAhead$Desk", name := "today", desc := "()I" } : Jvm.MethodName) : Cond) ∈ lw_g := lw_gm (i := 279) (by decide +kernel) (by decide +kernel)
theorem q280 : (.selects "LivesAhead$Desk" ({ cls := "LivesAhead$Desk", name := "today", desc := "()I" } : Jvm.MethodName) ({ cls := "LivesAhead$Desk", name := "today", desc := "()I" } : Jvm.MethodName) : Cond) ∈ lw_g := lw_gm (i := 280) (by decide +kernel) (by decide +kernel)
theorem q281 : (.code ({ cls := "LivesAhead$Desk", name := "today", desc := "()I" } : Jvm.MethodName) prog_2_method_3_code (1 : Nat) (Option.some .int) : Cond) ∈ lw_g := lw_gm (i := 281) (by decide +kernel) (by decide +kernel)
theorem q282 : (.methodLink "LivesAhead" (66 : Nat) ({ cls := "LivesAhead$PersonsText", name := "readPersons", desc := "(I)Z" } : Jvm.MethodName) : Cond) ∈ lw_g := lw_gm (i := 282) (by decide +kernel) (by decide +kernel)
theorem q283 : (.instanceMethod ({ cls := "LivesAhead$PersonsText", name := "readPersons", desc := "(I)Z" } : Jvm.MethodName) : Cond) ∈ lw_g := lw_gm (i := 283) (by decide +kernel) (by decide +kernel)
theorem q284 : (.selects "LivesAhead$PersonsText" ({ cls := "LivesAhead$PersonsText", name := "readPersons", desc := "(I)Z" } : Jvm.MethodName) ({ cls := "LivesAhead$PersonsText", name := "readPersons", desc := "(I)Z" } : Jvm.MethodName) : Cond) ∈ lw_g := lw_gm (i := 284) (by decide +kernel) (by decide +kernel)
theorem q285 : (.code ({ cls := "LivesAhead$PersonsText", name := "readPersons", desc := "(I)Z" } : Jvm.MethodName) prog_6_method_8_code (3 : Nat) (Option.some .boolean) : Cond) ∈ lw_g := lw_gm (i := 285) (by decide +kernel) (by decide +kernel)
theorem q286 : (.methodLink "LivesAhead$PersonsText" (32 : Nat) ({ cls := "LivesAhead$PersonsText", name := "readLife", desc := "(I)LLivesAhead$Life;" } : Jvm.MethodName) : Cond) ∈ lw_g := lw_gm (i := 286) (by decide +kernel) (by decide +kernel)
theorem q287 : (.instanceMethod ({ cls := "LivesAhead$PersonsText", name := "readLife", desc := "(I)LLivesAhead$Life;" } : Jvm.MethodName) : Cond) ∈ lw_g := lw_gm (i := 287) (by decide +kernel) (by decide +kernel)
theorem q288 : (.selects "LivesAhead$PersonsText" ({ cls := "LivesAhead$PersonsText", name := "readLife", desc := "(I)LLivesAhead$Life;" } : Jvm.MethodName) ({ cls := "LivesAhead$PersonsText", name := "readLife", desc := "(I)LLivesAhead$Life;" } : Jvm.MethodName) : Cond) ∈ lw_g := lw_gm (i := 288) (by decide +kernel) (by decide +kernel)
theorem q289 : (.code ({ cls := "LivesAhead$PersonsText", name := "readLife", desc := "(I)LLivesAhead$Life;" } : Jvm.MethodName) prog_6_method_7_code (2 : Nat) (Option.some (.object "LivesAhead$Life")) : Cond) ∈ lw_g := lw_gm (i := 289) (by decide +kernel) (by decide +kernel)
theorem q290 : (.methodLink "LivesAhead$PersonsText" (36 : Nat) ({ cls := "LivesAhead$PersonsText", name := "readPerson", desc := "(LLivesAhead$Life;I)Z" } : Jvm.MethodName) : Cond) ∈ lw_g := lw_gm (i := 290) (by decide +kernel) (by decide +kernel)
theorem q292 : (.instanceMethod ({ cls := "LivesAhead$PersonsText", name := "readPerson", desc := "(LLivesAhead$Life;I)Z" } : Jvm.MethodName) : Cond) ∈ lw_g := lw_gm (i := 292) (by decide +kernel) (by decide +kernel)
theorem q293 : (.code ({ cls := "LivesAhead$PersonsText", name := "readPerson", desc := "(LLivesAhead$Life;I)Z" } : Jvm.MethodName) prog_6_method_9_code (6 : Nat) (Option.some .boolean) : Cond) ∈ lw_g := lw_gm (i := 293) (by decide +kernel) (by decide +kernel)
theorem q294 : (.methodLink "LivesAhead$PersonsText" (44 : Nat) ({ cls := "LivesAhead$PersonsText", name := "takeAge", desc := "()I" } : Jvm.MethodName) : Cond) ∈ lw_g := lw_gm (i := 294) (by decide +kernel) (by decide +kernel)
theorem q296 : (.instanceMethod ({ cls := "LivesAhead$PersonsText", name := "takeAge", desc := "()I" } : Jvm.MethodName) : Cond) ∈ lw_g := lw_gm (i := 296) (by decide +kernel) (by decide +kernel)
theorem q297 : (.code ({ cls := "LivesAhead$PersonsText", name := "takeAge", desc := "()I" } : Jvm.MethodName) prog_6_method_11_code (5 : Nat) (Option.some .int) : Cond) ∈ lw_g := lw_gm (i := 297) (by decide +kernel) (by decide +kernel)
theorem q298 : (.methodLink "LivesAhead$PersonsText" (48 : Nat) ({ cls := "LivesAhead$PersonsText", name := "takeDigit", desc := "(II)I" } : Jvm.MethodName) : Cond) ∈ lw_g := lw_gm (i := 298) (by decide +kernel) (by decide +kernel)
theorem q300 : (.instanceMethod ({ cls := "LivesAhead$PersonsText", name := "takeDigit", desc := "(II)I" } : Jvm.MethodName) : Cond) ∈ lw_g := lw_gm (i := 300) (by decide +kernel) (by decide +kernel)
theorem q301 : (.code ({ cls := "LivesAhead$PersonsText", name := "takeDigit", desc := "(II)I" } : Jvm.MethodName) prog_6_method_12_code (4 : Nat) (Option.some .int) : Cond) ∈ lw_g := lw_gm (i := 301) (by decide +kernel) (by decide +kernel)
theorem q303 : (.methodLink "LivesAhead$PersonsText" (63 : Nat) ({ cls := "java/lang/Math", name := "min", desc := "(II)I" } : Jvm.MethodName) : Cond) ∈ lw_g := lw_gm (i := 303) (by decide +kernel) (by decide +kernel)
theorem q304 : (.static ({ cls := "java/lang/Math", name := "min", desc := "(II)I" } : Jvm.MethodName) : Cond) ∈ lw_g := lw_gm (i := 304) (by decide +kernel) (by decide +kernel)
theorem q305 : (.code ({ cls := "java/lang/Math", name := "min", desc := "(II)I" } : Jvm.MethodName) prog_12_method_69_code (2 : Nat) (Option.some .int) : Cond) ∈ lw_g := lw_gm (i := 305) (by decide +kernel) (by decide +kernel)
theorem q306 : (.methodLink "LivesAhead$PersonsText" (40 : Nat) ({ cls := "LivesAhead$PersonsText", name := "takes", desc := "(C)Z" } : Jvm.MethodName) : Cond) ∈ lw_g := lw_gm (i := 306) (by decide +kernel) (by decide +kernel)
theorem q308 : (.instanceMethod ({ cls := "LivesAhead$PersonsText", name := "takes", desc := "(C)Z" } : Jvm.MethodName) : Cond) ∈ lw_g := lw_gm (i := 308) (by decide +kernel) (by decide +kernel)
theorem q309 : (.code ({ cls := "LivesAhead$PersonsText", name := "takes", desc := "(C)Z" } : Jvm.MethodName) prog_6_method_13_code (2 : Nat) (Option.some .boolean) : Cond) ∈ lw_g := lw_gm (i := 309) (by decide +kernel) (by decide +kernel)
theorem q310 : (.methodLink "LivesAhead$PersonsText" (52 : Nat) ({ cls := "LivesAhead$Life", name := "begin", desc := "(II)V" } : Jvm.MethodName) : Cond) ∈ lw_g := lw_gm (i := 310) (by decide +kernel) (by decide +kernel)
theorem q311 : (.methodLink "LivesAhead$PersonsText" (56 : Nat) ({ cls := "LivesAhead$PersonsText", name := "readFact", desc := "(LLivesAhead$Life;I)Z" } : Jvm.MethodName) : Cond) ∈ lw_g := lw_gm (i := 311) (by decide +kernel) (by decide +kernel)
theorem q313 : (.instanceMethod ({ cls := "LivesAhead$PersonsText", name := "readFact", desc := "(LLivesAhead$Life;I)Z" } : Jvm.MethodName) : Cond) ∈ lw_g := lw_gm (i := 313) (by decide +kernel) (by decide +kernel)
theorem q314 : (.code ({ cls := "LivesAhead$PersonsText", name := "readFact", desc := "(LLivesAhead$Life;I)Z" } : Jvm.MethodName) prog_6_method_10_code (5 : Nat) (Option.some .boolean) : Cond) ∈ lw_g := lw_gm (i := 314) (by decide +kernel) (by decide +kernel)
theorem q315 : (.methodLink "LivesAhead$PersonsText" (59 : Nat) ({ cls := "LivesAhead$Life", name := "addFact", desc := "(III)I" } : Jvm.MethodName) : Cond) ∈ lw_g := lw_gm (i := 315) (by decide +kernel) (by decide +kernel)
theorem q316 : (.instanceMethod ({ cls := "LivesAhead$Life", name := "addFact", desc := "(III)I" } : Jvm.MethodName) : Cond) ∈ lw_g := lw_gm (i := 316) (by decide +kernel) (by decide +kernel)
theorem q317 : (.selects "LivesAhead$Life" ({ cls := "LivesAhead$Life", name := "addFact", desc := "(III)I" } : Jvm.MethodName) ({ cls := "LivesAhead$Life", name := "addFact", desc := "(III)I" } : Jvm.MethodName) : Cond) ∈ lw_g := lw_gm (i := 317) (by decide +kernel) (by decide +kernel)
theorem q318 : (.code ({ cls := "LivesAhead$Life", name := "addFact", desc := "(III)I" } : Jvm.MethodName) prog_4_method_20_code (4 : Nat) (Option.some .int) : Cond) ∈ lw_g := lw_gm (i := 318) (by decide +kernel) (by decide +kernel)
theorem q319 : (.methodLink "LivesAhead" (70 : Nat) ({ cls := "LivesAhead$PersonsText", name := "fault", desc := "()I" } : Jvm.MethodName) : Cond) ∈ lw_g := lw_gm (i := 319) (by decide +kernel) (by decide +kernel)
theorem q320 : (.instanceMethod ({ cls := "LivesAhead$PersonsText", name := "fault", desc := "()I" } : Jvm.MethodName) : Cond) ∈ lw_g := lw_gm (i := 320) (by decide +kernel) (by decide +kernel)
theorem q321 : (.selects "LivesAhead$PersonsText" ({ cls := "LivesAhead$PersonsText", name := "fault", desc := "()I" } : Jvm.MethodName) ({ cls := "LivesAhead$PersonsText", name := "fault", desc := "()I" } : Jvm.MethodName) : Cond) ∈ lw_g := lw_gm (i := 321) (by decide +kernel) (by decide +kernel)
theorem q322 : (.code ({ cls := "LivesAhead$PersonsText", name := "fault", desc := "()I" } : Jvm.MethodName) prog_6_method_5_code (1 : Nat) (Option.some .int) : Cond) ∈ lw_g := lw_gm (i := 322) (by decide +kernel) (by decide +kernel)
theorem q323 : (.methodLink "LivesAhead" (73 : Nat) ({ cls := "LivesAhead$PersonsText", name := "personsRead", desc := "()I" } : Jvm.MethodName) : Cond) ∈ lw_g := lw_gm (i := 323) (by decide +kernel) (by decide +kernel)
theorem q324 : (.instanceMethod ({ cls := "LivesAhead$PersonsText", name := "personsRead", desc := "()I" } : Jvm.MethodName) : Cond) ∈ lw_g := lw_gm (i := 324) (by decide +kernel) (by decide +kernel)
theorem q325 : (.selects "LivesAhead$PersonsText" ({ cls := "LivesAhead$PersonsText", name := "personsRead", desc := "()I" } : Jvm.MethodName) ({ cls := "LivesAhead$PersonsText", name := "personsRead", desc := "()I" } : Jvm.MethodName) : Cond) ∈ lw_g := lw_gm (i := 325) (by decide +kernel) (by decide +kernel)
theorem q326 : (.code ({ cls := "LivesAhead$PersonsText", name := "personsRead", desc := "()I" } : Jvm.MethodName) prog_6_method_6_code (1 : Nat) (Option.some .int) : Cond) ∈ lw_g := lw_gm (i := 326) (by decide +kernel) (by decide +kernel)
theorem q327 : (.methodLink "LivesAhead" (76 : Nat) ({ cls := "LivesAhead$PersonsText", name := "readLife", desc := "(I)LLivesAhead$Life;" } : Jvm.MethodName) : Cond) ∈ lw_g := lw_gm (i := 327) (by decide +kernel) (by decide +kernel)
theorem q328 : (.methodLink "LivesAhead" (80 : Nat) ({ cls := "LivesAhead$Desk", name := "joinLike", desc := "(LLivesAhead$Life;)V" } : Jvm.MethodName) : Cond) ∈ lw_g := lw_gm (i := 328) (by decide +kernel) (by decide +kernel)
theorem q329 : (.instanceMethod ({ cls := "LivesAhead$Desk", name := "joinLike", desc := "(LLivesAhead$Life;)V" } : Jvm.MethodName) : Cond) ∈ lw_g := lw_gm (i := 329) (by decide +kernel) (by decide +kernel)
theorem q330 : (.selects "LivesAhead$Desk" ({ cls := "LivesAhead$Desk", name := "joinLike", desc := "(LLivesAhead$Life;)V" } : Jvm.MethodName) ({ cls := "LivesAhead$Desk", name := "joinLike", desc := "(LLivesAhead$Life;)V" } : Jvm.MethodName) : Cond) ∈ lw_g := lw_gm (i := 330) (by decide +kernel) (by decide +kernel)
theorem q331 : (.code ({ cls := "LivesAhead$Desk", name := "joinLike", desc := "(LLivesAhead$Life;)V" } : Jvm.MethodName) prog_2_method_10_code (3 : Nat) (Option.none : Option Jvm.ClassFile.FieldType) : Cond) ∈ lw_g := lw_gm (i := 331) (by decide +kernel) (by decide +kernel)
theorem q332 : (.methodLink "LivesAhead$Desk" (60 : Nat) ({ cls := "LivesAhead$Life", name := "age", desc := "()I" } : Jvm.MethodName) : Cond) ∈ lw_g := lw_gm (i := 332) (by decide +kernel) (by decide +kernel)
theorem q333 : (.instanceMethod ({ cls := "LivesAhead$Life", name := "age", desc := "()I" } : Jvm.MethodName) : Cond) ∈ lw_g := lw_gm (i := 333) (by decide +kernel) (by decide +kernel)
theorem q334 : (.selects "LivesAhead$Life" ({ cls := "LivesAhead$Life", name := "age", desc := "()I" } : Jvm.MethodName) ({ cls := "LivesAhead$Life", name := "age", desc := "()I" } : Jvm.MethodName) : Cond) ∈ lw_g := lw_gm (i := 334) (by decide +kernel) (by decide +kernel)
theorem q335 : (.code ({ cls := "LivesAhead$Life", name := "age", desc := "()I" } : Jvm.MethodName) prog_4_method_4_code (1 : Nat) (Option.some .int) : Cond) ∈ lw_g := lw_gm (i := 335) (by decide +kernel) (by decide +kernel)
theorem q336 : (.methodLink "LivesAhead$Desk" (63 : Nat) ({ cls := "LivesAhead$Life", name := "rank", desc := "()I" } : Jvm.MethodName) : Cond) ∈ lw_g := lw_gm (i := 336) (by decide +kernel) (by decide +kernel)
theorem q337 : (.instanceMethod ({ cls := "LivesAhead$Life", name := "rank", desc := "()I" } : Jvm.MethodName) : Cond) ∈ lw_g := lw_gm (i := 337) (by decide +kernel) (by decide +kernel)
theorem q338 : (.selects "LivesAhead$Life" ({ cls := "LivesAhead$Life", name := "rank", desc := "()I" } : Jvm.MethodName) ({ cls := "LivesAhead$Life", name := "rank", desc := "()I" } : Jvm.MethodName) : Cond) ∈ lw_g := lw_gm (i := 338) (by decide +kernel) (by decide +kernel)
theorem q339 : (.code ({ cls := "LivesAhead$Life", name := "rank", desc := "()I" } : Jvm.MethodName) prog_4_method_5_code (1 : Nat) (Option.some .int) : Cond) ∈ lw_g := lw_gm (i := 339) (by decide +kernel) (by decide +kernel)
theorem q340 : (.methodLink "LivesAhead$Desk" (66 : Nat) ({ cls := "LivesAhead$Desk", name := "join", desc := "(II)I" } : Jvm.MethodName) : Cond) ∈ lw_g := lw_gm (i := 340) (by decide +kernel) (by decide +kernel)
theorem q341 : (.methodLink "LivesAheadLaw" (23 : Nat) ({ cls := "LivesAhead", name := "write", desc := "(III)I" } : Jvm.MethodName) : Cond) ∈ lw_g := lw_gm (i := 341) (by decide +kernel) (by decide +kernel)
theorem q342 : (.instanceMethod ({ cls := "LivesAhead", name := "write", desc := "(III)I" } : Jvm.MethodName) : Cond) ∈ lw_g := lw_gm (i := 342) (by decide +kernel) (by decide +kernel)
theorem q343 : (.selects "LivesAhead" ({ cls := "LivesAhead", name := "write", desc := "(III)I" } : Jvm.MethodName) ({ cls := "LivesAhead", name := "write", desc := "(III)I" } : Jvm.MethodName) : Cond) ∈ lw_g := lw_gm (i := 343) (by decide +kernel) (by decide +kernel)
theorem q344 : (.code ({ cls := "LivesAhead", name := "write", desc := "(III)I" } : Jvm.MethodName) prog_1_method_4_code (5 : Nat) (Option.some .int) : Cond) ∈ lw_g := lw_gm (i := 344) (by decide +kernel) (by decide +kernel)
theorem q345 : (.methodLink "LivesAhead" (84 : Nat) ({ cls := "LivesAhead$Desk", name := "lifeOf", desc := "(I)LLivesAhead$Life;" } : Jvm.MethodName) : Cond) ∈ lw_g := lw_gm (i := 345) (by decide +kernel) (by decide +kernel)
theorem q346 : (.methodLink "LivesAhead" (87 : Nat) ({ cls := "LivesAhead", name := "isSource", desc := "(I)Z" } : Jvm.MethodName) : Cond) ∈ lw_g := lw_gm (i := 346) (by decide +kernel) (by decide +kernel)
theorem q347 : (.static ({ cls := "LivesAhead", name := "isSource", desc := "(I)Z" } : Jvm.MethodName) : Cond) ∈ lw_g := lw_gm (i := 347) (by decide +kernel) (by decide +kernel)
theorem q348 : (.code ({ cls := "LivesAhead", name := "isSource", desc := "(I)Z" } : Jvm.MethodName) prog_1_method_28_code (1 : Nat) (Option.some .boolean) : Cond) ∈ lw_g := lw_gm (i := 348) (by decide +kernel) (by decide +kernel)
theorem q349 : (.methodLink "LivesAhead" (90 : Nat) ({ cls := "LivesAhead$Life", name := "isIn", desc := "(I)Z" } : Jvm.MethodName) : Cond) ∈ lw_g := lw_gm (i := 349) (by decide +kernel) (by decide +kernel)
theorem q350 : (.instanceMethod ({ cls := "LivesAhead$Life", name := "isIn", desc := "(I)Z" } : Jvm.MethodName) : Cond) ∈ lw_g := lw_gm (i := 350) (by decide +kernel) (by decide +kernel)
theorem q351 : (.selects "LivesAhead$Life" ({ cls := "LivesAhead$Life", name := "isIn", desc := "(I)Z" } : Jvm.MethodName) ({ cls := "LivesAhead$Life", name := "isIn", desc := "(I)Z" } : Jvm.MethodName) : Cond) ∈ lw_g := lw_gm (i := 351) (by decide +kernel) (by decide +kernel)
theorem q352 : (.code ({ cls := "LivesAhead$Life", name := "isIn", desc := "(I)Z" } : Jvm.MethodName) prog_4_method_7_code (2 : Nat) (Option.some .boolean) : Cond) ∈ lw_g := lw_gm (i := 352) (by decide +kernel) (by decide +kernel)
theorem q353 : (.methodLink "LivesAhead" (95 : Nat) ({ cls := "LivesAhead$Life", name := "size", desc := "()I" } : Jvm.MethodName) : Cond) ∈ lw_g := lw_gm (i := 353) (by decide +kernel) (by decide +kernel)
theorem q354 : (.instanceMethod ({ cls := "LivesAhead$Life", name := "size", desc := "()I" } : Jvm.MethodName) : Cond) ∈ lw_g := lw_gm (i := 354) (by decide +kernel) (by decide +kernel)
theorem q355 : (.selects "LivesAhead$Life" ({ cls := "LivesAhead$Life", name := "size", desc := "()I" } : Jvm.MethodName) ({ cls := "LivesAhead$Life", name := "size", desc := "()I" } : Jvm.MethodName) : Cond) ∈ lw_g := lw_gm (i := 355) (by decide +kernel) (by decide +kernel)
theorem q356 : (.code ({ cls := "LivesAhead$Life", name := "size", desc := "()I" } : Jvm.MethodName) prog_4_method_11_code (1 : Nat) (Option.some .int) : Cond) ∈ lw_g := lw_gm (i := 356) (by decide +kernel) (by decide +kernel)
theorem q357 : (.methodLink "LivesAhead" (98 : Nat) ({ cls := "LivesAhead$Desk", name := "hoursLeft", desc := "()I" } : Jvm.MethodName) : Cond) ∈ lw_g := lw_gm (i := 357) (by decide +kernel) (by decide +kernel)
theorem q358 : (.instanceMethod ({ cls := "LivesAhead$Desk", name := "hoursLeft", desc := "()I" } : Jvm.MethodName) : Cond) ∈ lw_g := lw_gm (i := 358) (by decide +kernel) (by decide +kernel)
theorem q359 : (.selects "LivesAhead$Desk" ({ cls := "LivesAhead$Desk", name := "hoursLeft", desc := "()I" } : Jvm.MethodName) ({ cls := "LivesAhead$Desk", name := "hoursLeft", desc := "()I" } : Jvm.MethodName) : Cond) ∈ lw_g := lw_gm (i := 359) (by decide +kernel) (by decide +kernel)
theorem q360 : (.code ({ cls := "LivesAhead$Desk", name := "hoursLeft", desc := "()I" } : Jvm.MethodName) prog_2_method_4_code (1 : Nat) (Option.some .int) : Cond) ∈ lw_g := lw_gm (i := 360) (by decide +kernel) (by decide +kernel)
theorem q361 : (.methodLink "LivesAhead" (101 : Nat) ({ cls := "LivesAhead$Desk", name := "spendHours", desc := "(I)V" } : Jvm.MethodName) : Cond) ∈ lw_g := lw_gm (i := 361) (by decide +kernel) (by decide +kernel)
theorem q362 : (.instanceMethod ({ cls := "LivesAhead$Desk", name := "spendHours", desc := "(I)V" } : Jvm.MethodName) : Cond) ∈ lw_g := lw_gm (i := 362) (by decide +kernel) (by decide +kernel)
theorem q363 : (.selects "LivesAhead$Desk" ({ cls := "LivesAhead$Desk", name := "spendHours", desc := "(I)V" } : Jvm.MethodName) ({ cls := "LivesAhead$Desk", name := "spendHours", desc := "(I)V" } : Jvm.MethodName) : Cond) ∈ lw_g := lw_gm (i := 363) (by decide +kernel) (by decide +kernel)
theorem q364 : (.code ({ cls := "LivesAhead$Desk", name := "spendHours", desc := "(I)V" } : Jvm.MethodName) prog_2_method_11_code (2 : Nat) (Option.none : Option Jvm.ClassFile.FieldType) : Cond) ∈ lw_g := lw_gm (i := 364) (by decide +kernel) (by decide +kernel)
theorem q365 : (.methodLink "LivesAhead" (105 : Nat) ({ cls := "LivesAhead$Life", name := "addFact", desc := "(III)I" } : Jvm.MethodName) : Cond) ∈ lw_g := lw_gm (i := 365) (by decide +kernel) (by decide +kernel)
theorem q366 : (.methodLink "LivesAheadLaw" (28 : Nat) ({ cls := "LivesAhead", name := "check", desc := "(II)I" } : Jvm.MethodName) : Cond) ∈ lw_g := lw_gm (i := 366) (by decide +kernel) (by decide +kernel)
theorem q367 : (.instanceMethod ({ cls := "LivesAhead", name := "check", desc := "(II)I" } : Jvm.MethodName) : Cond) ∈ lw_g := lw_gm (i := 367) (by decide +kernel) (by decide +kernel)
theorem q368 : (.selects "LivesAhead" ({ cls := "LivesAhead", name := "check", desc := "(II)I" } : Jvm.MethodName) ({ cls := "LivesAhead", name := "check", desc := "(II)I" } : Jvm.MethodName) : Cond) ∈ lw_g := lw_gm (i := 368) (by decide +kernel) (by decide +kernel)
theorem q369 : (.code ({ cls := "LivesAhead", name := "check", desc := "(II)I" } : Jvm.MethodName) prog_1_method_5_code (4 : Nat) (Option.some .int) : Cond) ∈ lw_g := lw_gm (i := 369) (by decide +kernel) (by decide +kernel)
theorem q370 : (.methodLink "LivesAhead" (109 : Nat) ({ cls := "LivesAhead$Life", name := "hasFact", desc := "(I)Z" } : Jvm.MethodName) : Cond) ∈ lw_g := lw_gm (i := 370) (by decide +kernel) (by decide +kernel)
theorem q371 : (.instanceMethod ({ cls := "LivesAhead$Life", name := "hasFact", desc := "(I)Z" } : Jvm.MethodName) : Cond) ∈ lw_g := lw_gm (i := 371) (by decide +kernel) (by decide +kernel)
theorem q372 : (.selects "LivesAhead$Life" ({ cls := "LivesAhead$Life", name := "hasFact", desc := "(I)Z" } : Jvm.MethodName) ({ cls := "LivesAhead$Life", name := "hasFact", desc := "(I)Z" } : Jvm.MethodName) : Cond) ∈ lw_g := lw_gm (i := 372) (by decide +kernel) (by decide +kernel)
theorem q373 : (.code ({ cls := "LivesAhead$Life", name := "hasFact", desc := "(I)Z" } : Jvm.MethodName) prog_4_method_16_code (2 : Nat) (Option.some .boolean) : Cond) ∈ lw_g := lw_gm (i := 373) (by decide +kernel) (by decide +kernel)
theorem q374 : (.methodLink "LivesAhead" (112 : Nat) ({ cls := "LivesAhead$Life", name := "dayOf", desc := "(I)I" } : Jvm.MethodName) : Cond) ∈ lw_g := lw_gm (i := 374) (by decide +kernel) (by decide +kernel)
theorem q375 : (.instanceMethod ({ cls := "LivesAhead$Life", name := "dayOf", desc := "(I)I" } : Jvm.MethodName) : Cond) ∈ lw_g := lw_gm (i := 375) (by decide +kernel) (by decide +kernel)
theorem q376 : (.selects "LivesAhead$Life" ({ cls := "LivesAhead$Life", name := "dayOf", desc := "(I)I" } : Jvm.MethodName) ({ cls := "LivesAhead$Life", name := "dayOf", desc := "(I)I" } : Jvm.MethodName) : Cond) ∈ lw_g := lw_gm (i := 376) (by decide +kernel) (by decide +kernel)
theorem q377 : (.code ({ cls := "LivesAhead$Life", name := "dayOf", desc := "(I)I" } : Jvm.MethodName) prog_4_method_19_code (2 : Nat) (Option.some .int) : Cond) ∈ lw_g := lw_gm (i := 377) (by decide +kernel) (by decide +kernel)
theorem q378 : (.methodLink "LivesAhead$Life" (52 : Nat) ({ cls := "LivesAhead$Life", name := "hasFact", desc := "(I)Z" } : Jvm.MethodName) : Cond) ∈ lw_g := lw_gm (i := 378) (by decide +kernel) (by decide +kernel)
theorem q379 : (.methodLink "LivesAhead" (116 : Nat) ({ cls := "LivesAhead$Desk", name := "checkToday", desc := "(LLivesAhead$Life;I)V" } : Jvm.MethodName) : Cond) ∈ lw_g := lw_gm (i := 379) (by decide +kernel) (by decide +kernel)
theorem q380 : (.instanceMethod ({ cls := "LivesAhead$Desk", name := "checkToday", desc := "(LLivesAhead$Life;I)V" } : Jvm.MethodName) : Cond) ∈ lw_g := lw_gm (i := 380) (by decide +kernel) (by decide +kernel)
theorem q381 : (.selects "LivesAhead$Desk" ({ cls := "LivesAhead$Desk", name := "checkToday", desc := "(LLivesAhead$Life;I)V" } : Jvm.MethodName) ({ cls := "LivesAhead$Desk", name := "checkToday", desc := "(LLivesAhead$Life;I)V" } : Jvm.MethodName) : Cond) ∈ lw_g := lw_gm (i := 381) (by decide +kernel) (by decide +kernel)
theorem q382 : (.code ({ cls := "LivesAhead$Desk", name := "checkToday", desc := "(LLivesAhead$Life;I)V" } : Jvm.MethodName) prog_2_method_32_code (3 : Nat) (Option.none : Option Jvm.ClassFile.FieldType) : Cond) ∈ lw_g := lw_gm (i := 382) (by decide +kernel) (by decide +kernel)
theorem q383 : (.methodLink "LivesAhead$Desk" (132 : Nat) ({ cls := "LivesAhead$Life", name := "changeDay", desc := "(II)V" } : Jvm.MethodName) : Cond) ∈ lw_g := lw_gm (i := 383) (by decide +kernel) (by decide +kernel)
theorem q384 : (.instanceMethod ({ cls := "LivesAhead$Life", name := "changeDay", desc := "(II)V" } : Jvm.MethodName) : Cond) ∈ lw_g := lw_gm (i := 384) (by decide +kernel) (by decide +kernel)
theorem q385 : (.selects "LivesAhead$Life" ({ cls := "LivesAhead$Life", name := "changeDay", desc := "(II)V" } : Jvm.MethodName) ({ cls := "LivesAhead$Life", name := "changeDay", desc := "(II)V" } : Jvm.MethodName) : Cond) ∈ lw_g := lw_gm (i := 385) (by decide +kernel) (by decide +kernel)
theorem q386 : (.code ({ cls := "LivesAhead$Life", name := "changeDay", desc := "(II)V" } : Jvm.MethodName) prog_4_method_23_code (3 : Nat) (Option.none : Option Jvm.ClassFile.FieldType) : Cond) ∈ lw_g := lw_gm (i := 386) (by decide +kernel) (by decide +kernel)
theorem q387 : (.methodLink "LivesAhead$Desk" (135 : Nat) ({ cls := "LivesAhead$Desk", name := "spendHours", desc := "(I)V" } : Jvm.MethodName) : Cond) ∈ lw_g := lw_gm (i := 387) (by decide +kernel) (by decide +kernel)
theorem q388 : (.methodLink "LivesAheadLaw" (32 : Nat) ({ cls := "LivesAhead", name := "strike", desc := "(II)I" } : Jvm.MethodName) : Cond) ∈ lw_g := lw_gm (i := 388) (by decide +kernel) (by decide +kernel)
theorem q389 : (.instanceMethod ({ cls := "LivesAhead", name := "strike", desc := "(II)I" } : Jvm.MethodName) : Cond) ∈ lw_g := lw_gm (i := 389) (by decide +kernel) (by decide +kernel)
theorem q390 : (.selects "LivesAhead" ({ cls := "LivesAhead", name := "strike", desc := "(II)I" } : Jvm.MethodName) ({ cls := "LivesAhead", name := "strike", desc := "(II)I" } : Jvm.MethodName) : Cond) ∈ lw_g := lw_gm (i := 390) (by decide +kernel) (by decide +kernel)
theorem q391 : (.code ({ cls := "LivesAhead", name := "strike", desc := "(II)I" } : Jvm.MethodName) prog_1_method_6_code (4 : Nat) (Option.some .int) : Cond) ∈ lw_g := lw_gm (i := 391) (by decide +kernel) (by decide +kernel)
theorem q392 : (.methodLink "LivesAhead" (120 : Nat) ({ cls := "LivesAhead$Life", name := "removeFact", desc := "(I)V" } : Jvm.MethodName) : Cond) ∈ lw_g := lw_gm (i := 392) (by decide +kernel) (by decide +kernel)
theorem q393 : (.instanceMethod ({ cls := "LivesAhead$Life", name := "removeFact", desc := "(I)V" } : Jvm.MethodName) : Cond) ∈ lw_g := lw_gm (i := 393) (by decide +kernel) (by decide +kernel)
theorem q394 : (.selects "LivesAhead$Life" ({ cls := "LivesAhead$Life", name := "removeFact", desc := "(I)V" } : Jvm.MethodName) ({ cls := "LivesAhead$Life", name := "removeFact", desc := "(I)V" } : Jvm.MethodName) : Cond) ∈ lw_g := lw_gm (i := 394) (by decide +kernel) (by decide +kernel)
theorem q395 : (.code ({ cls := "LivesAhead$Life", name := "removeFact", desc := "(I)V" } : Jvm.MethodName) prog_4_method_21_code (3 : Nat) (Option.none : Option Jvm.ClassFile.FieldType) : Cond) ∈ lw_g := lw_gm (i := 395) (by decide +kernel) (by decide +kernel)
theorem q396 : (.methodLink "LivesAheadLaw" (36 : Nat) ({ cls := "LivesAhead", name := "checkUrgent", desc := "()I" } : Jvm.MethodName) : Cond) ∈ lw_g := lw_gm (i := 396) (by decide +kernel) (by decide +kernel)
theorem q397 : (.instanceMethod ({ cls := "LivesAhead", name := "checkUrgent", desc := "()I" } : Jvm.MethodName) : Cond) ∈ lw_g := lw_gm (i := 397) (by decide +kernel) (by decide +kernel)
theorem q398 : (.selects "LivesAhead" ({ cls := "LivesAhead", name := "checkUrgent", desc := "()I" } : Jvm.MethodName) ({ cls := "LivesAhead", name := "checkUrgent", desc := "()I" } : Jvm.MethodName) : Cond) ∈ lw_g := lw_gm (i := 398) (by decide +kernel) (by decide +kernel)
theorem q399 : (.code ({ cls := "LivesAhead", name := "checkUrgent", desc := "()I" } : Jvm.MethodName) prog_1_method_7_code (3 : Nat) (Option.some .int) : Cond) ∈ lw_g := lw_gm (i := 399) (by decide +kernel) (by decide +kernel)
theorem q400 : (.methodLink "LivesAhead" (123 : Nat) ({ cls := "LivesAhead$Desk", name := "mostUrgentToCheck", desc := "()LLivesAhead$Life;" } : Jvm.MethodName) : Cond) ∈ lw_g := lw_gm (i := 400) (by decide +kernel) (by decide +kernel)
theorem q401 : (.instanceMethod ({ cls := "LivesAhead$Desk", name := "mostUrgentToCheck", desc := "()LLivesAhead$Life;" } : Jvm.MethodName) : Cond) ∈ lw_g := lw_gm (i := 401) (by decide +kernel) (by decide +kernel)
theorem q402 : (.selects "LivesAhead$Desk" ({ cls := "LivesAhead$Desk", name := "mostUrgentToCheck", desc := "()LLivesAhead$Life;" } : Jvm.MethodName) ({ cls := "LivesAhead$Desk", name := "mostUrgentToCheck", desc := "()LLivesAhead$Life;" } : Jvm.MethodName) : Cond) ∈ lw_g := lw_gm (i := 402) (by decide +kernel) (by decide +kernel)
theorem q403 : (.code ({ cls := "LivesAhead$Desk", name := "mostUrgentToCheck", desc := "()LLivesAhead$Life;" } : Jvm.MethodName) prog_2_method_31_code (6 : Nat) (Option.some (.object "LivesAhead$Life")) : Cond) ∈ lw_g := lw_gm (i := 403) (by decide +kernel) (by decide +kernel)
theorem q404 : (.methodLink "LivesAhead$Desk" (77 : Nat) ({ cls := "LivesAhead$Life", name := "isIn", desc := "(I)Z" } : Jvm.MethodName) : Cond) ∈ lw_g := lw_gm (i := 404) (by decide +kernel) (by decide +kernel)
theorem q405 : (.methodLink "LivesAhead$Desk" (129 : Nat) ({ cls := "LivesAhead$Desk", name := "firstToCheck", desc := "(LLivesAhead$Life;)I" } : Jvm.MethodName) : Cond) ∈ lw_g := lw_gm (i := 405) (by decide +kernel) (by decide +kernel)
theorem q406 : (.instanceMethod ({ cls := "LivesAhead$Desk", name := "firstToCheck", desc := "(LLivesAhead$Life;)I" } : Jvm.MethodName) : Cond) ∈ lw_g := lw_gm (i := 406) (by decide +kernel) (by decide +kernel)
theorem q407 : (.selects "LivesAhead$Desk" ({ cls := "LivesAhead$Desk", name := "firstToCheck", desc := "(LLivesAhead$Life;)I" } : Jvm.MethodName) ({ cls := "LivesAhead$Desk", name := "firstToCheck", desc := "(LLivesAhead$Life;)I" } : Jvm.MethodName) : Cond) ∈ lw_g := lw_gm (i := 407) (by decide +kernel) (by decide +kernel)
theorem q408 : (.code ({ cls := "LivesAhead$Desk", name := "firstToCheck", desc := "(LLivesAhead$Life;)I" } : Jvm.MethodName) prog_2_method_30_code (3 : Nat) (Option.some .int) : Cond) ∈ lw_g := lw_gm (i := 408) (by decide +kernel) (by decide +kernel)
theorem q409 : (.methodLink "LivesAhead$Desk" (80 : Nat) ({ cls := "LivesAhead$Life", name := "size", desc := "()I" } : Jvm.MethodName) : Cond) ∈ lw_g := lw_gm (i := 409) (by decide +kernel) (by decide +kernel)
theorem q410 : (.methodLink "LivesAhead$Desk" (91 : Nat) ({ cls := "LivesAhead$Life", name := "dayOf", desc := "(I)I" } : Jvm.MethodName) : Cond) ∈ lw_g := lw_gm (i := 410) (by decide +kernel) (by decide +kernel)
theorem q411 : (.methodLink "LivesAhead$Desk" (113 : Nat) ({ cls := "LivesAhead$Desk", name := "isStale", desc := "(LLivesAhead$Life;I)Z" } : Jvm.MethodName) : Cond) ∈ lw_g := lw_gm (i := 411) (by decide +kernel) (by decide +kernel)
theorem q412 : (.instanceMethod ({ cls := "LivesAhead$Desk", name := "isStale", desc := "(LLivesAhead$Life;I)Z" } : Jvm.MethodName) : Cond) ∈ lw_g := lw_gm (i := 412) (by decide +kernel) (by decide +kernel)
theorem q413 : (.selects "LivesAhead$Desk" ({ cls := "LivesAhead$Desk", name := "isStale", desc := "(LLivesAhead$Life;I)Z" } : Jvm.MethodName) ({ cls := "LivesAhead$Desk", name := "isStale", desc := "(LLivesAhead$Life;I)Z" } : Jvm.MethodName) : Cond) ∈ lw_g := lw_gm (i := 413) (by decide +kernel) (by decide +kernel)
theorem q414 : (.code ({ cls := "LivesAhead$Desk", name := "isStale", desc := "(LLivesAhead$Life;I)Z" } : Jvm.MethodName) prog_2_method_22_code (3 : Nat) (Option.some .boolean) : Cond) ∈ lw_g := lw_gm (i := 414) (by decide +kernel) (by decide +kernel)
theorem q415 : (.methodLink "LivesAhead$Desk" (95 : Nat) ({ cls := "LivesAhead$Desk", name := "worthOf", desc := "(LLivesAhead$Life;II)F" } : Jvm.MethodName) : Cond) ∈ lw_g := lw_gm (i := 415) (by decide +kernel) (by decide +kernel)
theorem q416 : (.instanceMethod ({ cls := "LivesAhead$Desk", name := "worthOf", desc := "(LLivesAhead$Life;II)F" } : Jvm.MethodName) : Cond) ∈ lw_g := lw_gm (i := 416) (by decide +kernel) (by decide +kernel)
theorem q417 : (.selects "LivesAhead$Desk" ({ cls := "LivesAhead$Desk", name := "worthOf", desc := "(LLivesAhead$Life;II)F" } : Jvm.MethodName) ({ cls := "LivesAhead$Desk", name := "worthOf", desc := "(LLivesAhead$Life;II)F" } : Jvm.MethodName) : Cond) ∈ lw_g := lw_gm (i := 417) (by decide +kernel) (by decide +kernel)
theorem q418 : (.code ({ cls := "LivesAhead$Desk", name := "worthOf", desc := "(LLivesAhead$Life;II)F" } : Jvm.MethodName) prog_2_method_19_code (7 : Nat) (Option.some .float) : Cond) ∈ lw_g := lw_gm (i := 418) (by decide +kernel) (by decide +kernel)
theorem q419 : (.methodLink "LivesAhead$Desk" (83 : Nat) ({ cls := "LivesAhead$Life", name := "sourceOf", desc := "(I)I" } : Jvm.MethodName) : Cond) ∈ lw_g := lw_gm (i := 419) (by decide +kernel) (by decide +kernel)
theorem q420 : (.instanceMethod ({ cls := "LivesAhead$Life", name := "sourceOf", desc := "(I)I" } : Jvm.MethodName) : Cond) ∈ lw_g := lw_gm (i := 420) (by decide +kernel) (by decide +kernel)
theorem q421 : (.selects "LivesAhead$Life" ({ cls := "LivesAhead$Life", name := "sourceOf", desc := "(I)I" } : Jvm.MethodName) ({ cls := "LivesAhead$Life", name := "sourceOf", desc := "(I)I" } : Jvm.MethodName) : Cond) ∈ lw_g := lw_gm (i := 421) (by decide +kernel) (by decide +kernel)
theorem q422 : (.code ({ cls := "LivesAhead$Life", name := "sourceOf", desc := "(I)I" } : Jvm.MethodName) prog_4_method_17_code (2 : Nat) (Option.some .int) : Cond) ∈ lw_g := lw_gm (i := 422) (by decide +kernel) (by decide +kernel)
theorem q423 : (.methodLink "LivesAhead$Desk" (87 : Nat) ({ cls := "LivesAhead$Desk", name := "trustOf", desc := "(I)I" } : Jvm.MethodName) : Cond) ∈ lw_g := lw_gm (i := 423) (by decide +kernel) (by decide +kernel)
theorem q424 : (.instanceMethod ({ cls := "LivesAhead$Desk", name := "trustOf", desc := "(I)I" } : Jvm.MethodName) : Cond) ∈ lw_g := lw_gm (i := 424) (by decide +kernel) (by decide +kernel)
theorem q425 : (.selects "LivesAhead$Desk" ({ cls := "LivesAhead$Desk", name := "trustOf", desc := "(I)I" } : Jvm.MethodName) ({ cls := "LivesAhead$Desk", name := "trustOf", desc := "(I)I" } : Jvm.MethodName) : Cond) ∈ lw_g := lw_gm (i := 425) (by decide +kernel) (by decide +kernel)
theorem q426 : (.code ({ cls := "LivesAhead$Desk", name := "trustOf", desc := "(I)I" } : Jvm.MethodName) prog_2_method_14_code (2 : Nat) (Option.some .int) : Cond) ∈ lw_g := lw_gm (i := 426) (by decide +kernel) (by decide +kernel)
theorem q428 : (.constantFloat "LivesAhead$Desk" (90 : Nat) (1120403456 : UInt32) : Cond) ∈ lw_g := lw_gm (i := 428) (by decide +kernel) (by decide +kernel)
theorem q429 : (.constantFloat "LivesAhead$Desk" (94 : Nat) (1063675494 : UInt32) : Cond) ∈ lw_g := lw_gm (i := 429) (by decide +kernel) (by decide +kernel)
theorem q430 : (.methodLink "LivesAhead$Desk" (105 : Nat) ({ cls := "LivesAhead$Desk", name := "bound", desc := "()F" } : Jvm.MethodName) : Cond) ∈ lw_g := lw_gm (i := 430) (by decide +kernel) (by decide +kernel)
theorem q431 : (.instanceMethod ({ cls := "LivesAhead$Desk", name := "bound", desc := "()F" } : Jvm.MethodName) : Cond) ∈ lw_g := lw_gm (i := 431) (by decide +kernel) (by decide +kernel)
theorem q432 : (.selects "LivesAhead$Desk" ({ cls := "LivesAhead$Desk", name := "bound", desc := "()F" } : Jvm.MethodName) ({ cls := "LivesAhead$Desk", name := "bound", desc := "()F" } : Jvm.MethodName) : Cond) ∈ lw_g := lw_gm (i := 432) (by decide +kernel) (by decide +kernel)
theorem q433 : (.code ({ cls := "LivesAhead$Desk", name := "bound", desc := "()F" } : Jvm.MethodName) prog_2_method_21_code (1 : Nat) (Option.some .float) : Cond) ∈ lw_g := lw_gm (i := 433) (by decide +kernel) (by decide +kernel)
theorem q434 : (.methodLink "LivesAhead$Desk" (102 : Nat) ({ cls := "LivesAhead$Desk", name := "setting", desc := "(I)I" } : Jvm.MethodName) : Cond) ∈ lw_g := lw_gm (i := 434) (by decide +kernel) (by decide +kernel)
theorem q435 : (.instanceMethod ({ cls := "LivesAhead$Desk", name := "setting", desc := "(I)I" } : Jvm.MethodName) : Cond) ∈ lw_g := lw_gm (i := 435) (by decide +kernel) (by decide +kernel)
theorem q436 : (.selects "LivesAhead$Desk" ({ cls := "LivesAhead$Desk", name := "setting", desc := "(I)I" } : Jvm.MethodName) ({ cls := "LivesAhead$Desk", name := "setting", desc := "(I)I" } : Jvm.MethodName) : Cond) ∈ lw_g := lw_gm (i := 436) (by decide +kernel) (by decide +kernel)
theorem q437 : (.code ({ cls := "LivesAhead$Desk", name := "setting", desc := "(I)I" } : Jvm.MethodName) prog_2_method_12_code (2 : Nat) (Option.some .int) : Cond) ∈ lw_g := lw_gm (i := 437) (by decide +kernel) (by decide +kernel)
theorem q439 : (.static ({ cls := "LivesAhead", name := "isSetting", desc := "(I)Z" } : Jvm.MethodName) : Cond) ∈ lw_g := lw_gm (i := 439) (by decide +kernel) (by decide +kernel)
theorem q440 : (.code ({ cls := "LivesAhead", name := "isSetting", desc := "(I)Z" } : Jvm.MethodName) prog_1_method_29_code (1 : Nat) (Option.some .boolean) : Cond) ∈ lw_g := lw_gm (i := 440) (by decide +kernel) (by decide +kernel)
theorem q441 : (.methodLink "LivesAhead$Desk" (122 : Nat) ({ cls := "LivesAhead$Desk", name := "urgencyOf", desc := "(LLivesAhead$Life;)I" } : Jvm.MethodName) : Cond) ∈ lw_g := lw_gm (i := 441) (by decide +kernel) (by decide +kernel)
theorem q442 : (.instanceMethod ({ cls := "LivesAhead$Desk", name := "urgencyOf", desc := "(LLivesAhead$Life;)I" } : Jvm.MethodName) : Cond) ∈ lw_g := lw_gm (i := 442) (by decide +kernel) (by decide +kernel)
theorem q443 : (.selects "LivesAhead$Desk" ({ cls := "LivesAhead$Desk", name := "urgencyOf", desc := "(LLivesAhead$Life;)I" } : Jvm.MethodName) ({ cls := "LivesAhead$Desk", name := "urgencyOf", desc := "(LLivesAhead$Life;)I" } : Jvm.MethodName) : Cond) ∈ lw_g := lw_gm (i := 443) (by decide +kernel) (by decide +kernel)
theorem q444 : (.code ({ cls := "LivesAhead$Desk", name := "urgencyOf", desc := "(LLivesAhead$Life;)I" } : Jvm.MethodName) prog_2_method_28_code (3 : Nat) (Option.some .int) : Cond) ∈ lw_g := lw_gm (i := 444) (by decide +kernel) (by decide +kernel)
theorem q445 : (.methodLink "LivesAhead$Desk" (109 : Nat) ({ cls := "LivesAhead$Desk", name := "staleFactsOf", desc := "(LLivesAhead$Life;I)I" } : Jvm.MethodName) : Cond) ∈ lw_g := lw_gm (i := 445) (by decide +kernel) (by decide +kernel)
theorem q446 : (.instanceMethod ({ cls := "LivesAhead$Desk", name := "staleFactsOf", desc := "(LLivesAhead$Life;I)I" } : Jvm.MethodName) : Cond) ∈ lw_g := lw_gm (i := 446) (by decide +kernel) (by decide +kernel)
theorem q447 : (.selects "LivesAhead$Desk" ({ cls := "LivesAhead$Desk", name := "staleFactsOf", desc := "(LLivesAhead$Life;I)I" } : Jvm.MethodName) ({ cls := "LivesAhead$Desk", name := "staleFactsOf", desc := "(LLivesAhead$Life;I)I" } : Jvm.MethodName) : Cond) ∈ lw_g := lw_gm (i := 447) (by decide +kernel) (by decide +kernel)
theorem q448 : (.code ({ cls := "LivesAhead$Desk", name := "staleFactsOf", desc := "(LLivesAhead$Life;I)I" } : Jvm.MethodName) prog_2_method_23_code (6 : Nat) (Option.some .int) : Cond) ∈ lw_g := lw_gm (i := 448) (by decide +kernel) (by decide +kernel)
theorem q449 : (.methodLink "LivesAhead" (127 : Nat) ({ cls := "LivesAhead$Desk", name := "firstToCheck", desc := "(LLivesAhead$Life;)I" } : Jvm.MethodName) : Cond) ∈ lw_g := lw_gm (i := 449) (by decide +kernel) (by decide +kernel)
theorem q450 : (.methodLink "LivesAheadLaw" (40 : Nat) ({ cls := "LivesAhead", name := "trust", desc := "(II)I" } : Jvm.MethodName) : Cond) ∈ lw_g := lw_gm (i := 450) (by decide +kernel) (by decide +kernel)
theorem q451 : (.instanceMethod ({ cls := "LivesAhead", name := "trust", desc := "(II)I" } : Jvm.MethodName) : Cond) ∈ lw_g := lw_gm (i := 451) (by decide +kernel) (by decide +kernel)
theorem q452 : (.selects "LivesAhead" ({ cls := "LivesAhead", name := "trust", desc := "(II)I" } : Jvm.MethodName) ({ cls := "LivesAhead", name := "trust", desc := "(II)I" } : Jvm.MethodName) : Cond) ∈ lw_g := lw_gm (i := 452) (by decide +kernel) (by decide +kernel)
theorem q453 : (.code ({ cls := "LivesAhead", name := "trust", desc := "(II)I" } : Jvm.MethodName) prog_1_method_8_code (4 : Nat) (Option.some .int) : Cond) ∈ lw_g := lw_gm (i := 453) (by decide +kernel) (by decide +kernel)
theorem q454 : (.methodLink "LivesAhead" (131 : Nat) ({ cls := "LivesAhead$Desk", name := "trustOf", desc := "(I)I" } : Jvm.MethodName) : Cond) ∈ lw_g := lw_gm (i := 454) (by decide +kernel) (by decide +kernel)
theorem q455 : (.methodLink "LivesAhead" (134 : Nat) ({ cls := "LivesAhead$Desk", name := "changeTrust", desc := "(II)V" } : Jvm.MethodName) : Cond) ∈ lw_g := lw_gm (i := 455) (by decide +kernel) (by decide +kernel)
theorem q456 : (.instanceMethod ({ cls := "LivesAhead$Desk", name := "changeTrust", desc := "(II)V" } : Jvm.MethodName) : Cond) ∈ lw_g := lw_gm (i := 456) (by decide +kernel) (by decide +kernel)
theorem q457 : (.selects "LivesAhead$Desk" ({ cls := "LivesAhead$Desk", name := "changeTrust", desc := "(II)V" } : Jvm.MethodName) ({ cls := "LivesAhead$Desk", name := "changeTrust", desc := "(II)V" } : Jvm.MethodName) : Cond) ∈ lw_g := lw_gm (i := 457) (by decide +kernel) (by decide +kernel)
theorem q458 : (.code ({ cls := "LivesAhead$Desk", name := "changeTrust", desc := "(II)V" } : Jvm.MethodName) prog_2_method_15_code (3 : Nat) (Option.none : Option Jvm.ClassFile.FieldType) : Cond) ∈ lw_g := lw_gm (i := 458) (by decide +kernel) (by decide +kernel)
theorem q459 : (.methodLink "LivesAheadLaw" (44 : Nat) ({ cls := "LivesAhead", name := "set", desc := "(II)I" } : Jvm.MethodName) : Cond) ∈ lw_g := lw_gm (i := 459) (by decide +kernel) (by decide +kernel)
theorem q460 : (.instanceMethod ({ cls := "LivesAhead", name := "set", desc := "(II)I" } : Jvm.MethodName) : Cond) ∈ lw_g := lw_gm (i := 460) (by decide +kernel) (by decide +kernel)
theorem q461 : (.selects "LivesAhead" ({ cls := "LivesAhead", name := "set", desc := "(II)I" } : Jvm.MethodName) ({ cls := "LivesAhead", name := "set", desc := "(II)I" } : Jvm.MethodName) : Cond) ∈ lw_g := lw_gm (i := 461) (by decide +kernel) (by decide +kernel)
theorem q462 : (.code ({ cls := "LivesAhead", name := "set", desc := "(II)I" } : Jvm.MethodName) prog_1_method_9_code (4 : Nat) (Option.some .int) : Cond) ∈ lw_g := lw_gm (i := 462) (by decide +kernel) (by decide +kernel)
theorem q463 : (.methodLink "LivesAhead" (138 : Nat) ({ cls := "LivesAhead", name := "isSetting", desc := "(I)Z" } : Jvm.MethodName) : Cond) ∈ lw_g := lw_gm (i := 463) (by decide +kernel) (by decide +kernel)
theorem q464 : (.fieldLink "LivesAhead" (141 : Nat) "LivesAhead" "LEAST_OF_SETTING" "[I" : Cond) ∈ lw_g := lw_gm (i := 464) (by decide +kernel) (by decide +kernel)
theorem q466 : (.fieldLink "LivesAhead" (145 : Nat) "LivesAhead" "MOST_OF_SETTING" "[I" : Cond) ∈ lw_g := lw_gm (i := 466) (by decide +kernel) (by decide +kernel)
theorem q468 : (.methodLink "LivesAhead" (148 : Nat) ({ cls := "LivesAhead$Desk", name := "setting", desc := "(I)I" } : Jvm.MethodName) : Cond) ∈ lw_g := lw_gm (i := 468) (by decide +kernel) (by decide +kernel)
theorem q469 : (.methodLink "LivesAhead" (151 : Nat) ({ cls := "LivesAhead$Desk", name := "changeSetting", desc := "(II)V" } : Jvm.MethodName) : Cond) ∈ lw_g := lw_gm (i := 469) (by decide +kernel) (by decide +kernel)
theorem q470 : (.instanceMethod ({ cls := "LivesAhead$Desk", name := "changeSetting", desc := "(II)V" } : Jvm.MethodName) : Cond) ∈ lw_g := lw_gm (i := 470) (by decide +kernel) (by decide +kernel)
theorem q471 : (.selects "LivesAhead$Desk" ({ cls := "LivesAhead$Desk", name := "changeSetting", desc := "(II)V" } : Jvm.MethodName) ({ cls := "LivesAhead$Desk", name := "changeSetting", desc := "(II)V" } : Jvm.MethodName) : Cond) ∈ lw_g := lw_gm (i := 471) (by decide +kernel) (by decide +kernel)
theorem q472 : (.code ({ cls := "LivesAhead$Desk", name := "changeSetting", desc := "(II)V" } : Jvm.MethodName) prog_2_method_13_code (3 : Nat) (Option.none : Option Jvm.ClassFile.FieldType) : Cond) ∈ lw_g := lw_gm (i := 472) (by decide +kernel) (by decide +kernel)
theorem q473 : (.methodLink "LivesAheadLaw" (48 : Nat) ({ cls := "LivesAhead", name := "tellDeath", desc := "(II)I" } : Jvm.MethodName) : Cond) ∈ lw_g := lw_gm (i := 473) (by decide +kernel) (by decide +kernel)
theorem q474 : (.instanceMethod ({ cls := "LivesAhead", name := "tellDeath", desc := "(II)I" } : Jvm.MethodName) : Cond) ∈ lw_g := lw_gm (i := 474) (by decide +kernel) (by decide +kernel)
theorem q475 : (.selects "LivesAhead" ({ cls := "LivesAhead", name := "tellDeath", desc := "(II)I" } : Jvm.MethodName) ({ cls := "LivesAhead", name := "tellDeath", desc := "(II)I" } : Jvm.MethodName) : Cond) ∈ lw_g := lw_gm (i := 475) (by decide +kernel) (by decide +kernel)
theorem q476 : (.code ({ cls := "LivesAhead", name := "tellDeath", desc := "(II)I" } : Jvm.MethodName) prog_1_method_10_code (5 : Nat) (Option.some .int) : Cond) ∈ lw_g := lw_gm (i := 476) (by decide +kernel) (by decide +kernel)
theorem q477 : (.methodLink "LivesAhead" (154 : Nat) ({ cls := "LivesAhead$Life", name := "teller", desc := "()I" } : Jvm.MethodName) : Cond) ∈ lw_g := lw_gm (i := 477) (by decide +kernel) (by decide +kernel)
theorem q478 : (.instanceMethod ({ cls := "LivesAhead$Life", name := "teller", desc := "()I" } : Jvm.MethodName) : Cond) ∈ lw_g := lw_gm (i := 478) (by decide +kernel) (by decide +kernel)
theorem q479 : (.selects "LivesAhead$Life" ({ cls := "LivesAhead$Life", name := "teller", desc := "()I" } : Jvm.MethodName) ({ cls := "LivesAhead$Life", name := "teller", desc := "()I" } : Jvm.MethodName) : Cond) ∈ lw_g := lw_gm (i := 479) (by decide +kernel) (by decide +kernel)
theorem q480 : (.code ({ cls := "LivesAhead$Life", name := "teller", desc := "()I" } : Jvm.MethodName) prog_4_method_8_code (1 : Nat) (Option.some .int) : Cond) ∈ lw_g := lw_gm (i := 480) (by decide +kernel) (by decide +kernel)
theorem q481 : (.methodLink "LivesAhead" (157 : Nat) ({ cls := "LivesAhead$Life", name := "confirmDeath", desc := "(I)V" } : Jvm.MethodName) : Cond) ∈ lw_g := lw_gm (i := 481) (by decide +kernel) (by decide +kernel)
theorem q482 : (.instanceMethod ({ cls := "LivesAhead$Life", name := "confirmDeath", desc := "(I)V" } : Jvm.MethodName) : Cond) ∈ lw_g := lw_gm (i := 482) (by decide +kernel) (by decide +kernel)
theorem q483 : (.selects "LivesAhead$Life" ({ cls := "LivesAhead$Life", name := "confirmDeath", desc := "(I)V" } : Jvm.MethodName) ({ cls := "LivesAhead$Life", name := "confirmDeath", desc := "(I)V" } : Jvm.MethodName) : Cond) ∈ lw_g := lw_gm (i := 483) (by decide +kernel) (by decide +kernel)
theorem q484 : (.code ({ cls := "LivesAhead$Life", name := "confirmDeath", desc := "(I)V" } : Jvm.MethodName) prog_4_method_13_code (2 : Nat) (Option.none : Option Jvm.ClassFile.FieldType) : Cond) ∈ lw_g := lw_gm (i := 484) (by decide +kernel) (by decide +kernel)
theorem q485 : (.methodLink "LivesAhead" (160 : Nat) ({ cls := "LivesAhead$Life", name := "tellDead", desc := "(II)V" } : Jvm.MethodName) : Cond) ∈ lw_g := lw_gm (i := 485) (by decide +kernel) (by decide +kernel)
theorem q486 : (.instanceMethod ({ cls := "LivesAhead$Life", name := "tellDead", desc := "(II)V" } : Jvm.MethodName) : Cond) ∈ lw_g := lw_gm (i := 486) (by decide +kernel) (by decide +kernel)
theorem q487 : (.selects "LivesAhead$Life" ({ cls := "LivesAhead$Life", name := "tellDead", desc := "(II)V" } : Jvm.MethodName) ({ cls := "LivesAhead$Life", name := "tellDead", desc := "(II)V" } : Jvm.MethodName) : Cond) ∈ lw_g := lw_gm (i := 487) (by decide +kernel) (by decide +kernel)
theorem q488 : (.code ({ cls := "LivesAhead$Life", name := "tellDead", desc := "(II)V" } : Jvm.MethodName) prog_4_method_12_code (3 : Nat) (Option.none : Option Jvm.ClassFile.FieldType) : Cond) ∈ lw_g := lw_gm (i := 488) (by decide +kernel) (by decide +kernel)
theorem q489 : (.methodLink "LivesAheadLaw" (52 : Nat) ({ cls := "LivesAhead", name := "decide", desc := "(IZ)I" } : Jvm.MethodName) : Cond) ∈ lw_g := lw_gm (i := 489) (by decide +kernel) (by decide +kernel)
theorem q490 : (.instanceMethod ({ cls := "LivesAhead", name := "decide", desc := "(IZ)I" } : Jvm.MethodName) : Cond) ∈ lw_g := lw_gm (i := 490) (by decide +kernel) (by decide +kernel)
theorem q491 : (.selects "LivesAhead" ({ cls := "LivesAhead", name := "decide", desc := "(IZ)I" } : Jvm.MethodName) ({ cls := "LivesAhead", name := "decide", desc := "(IZ)I" } : Jvm.MethodName) : Cond) ∈ lw_g := lw_gm (i := 491) (by decide +kernel) (by decide +kernel)
theorem q492 : (.code ({ cls := "LivesAhead", name := "decide", desc := "(IZ)I" } : Jvm.MethodName) prog_1_method_11_code (4 : Nat) (Option.some .int) : Cond) ∈ lw_g := lw_gm (i := 492) (by decide +kernel) (by decide +kernel)
theorem q493 : (.methodLink "LivesAhead" (163 : Nat) ({ cls := "LivesAhead$Life", name := "takeBackDeath", desc := "()V" } : Jvm.MethodName) : Cond) ∈ lw_g := lw_gm (i := 493) (by decide +kernel) (by decide +kernel)
theorem q494 : (.methodLink "LivesAhead" (166 : Nat) ({ cls := "LivesAhead$Desk", name := "personsIn", desc := "(I)I" } : Jvm.MethodName) : Cond) ∈ lw_g := lw_gm (i := 494) (by decide +kernel) (by decide +kernel)
theorem q495 : (.instanceMethod ({ cls := "LivesAhead$Desk", name := "personsIn", desc := "(I)I" } : Jvm.MethodName) : Cond) ∈ lw_g := lw_gm (i := 495) (by decide +kernel) (by decide +kernel)
theorem q496 : (.selects "LivesAhead$Desk" ({ cls := "LivesAhead$Desk", name := "personsIn", desc := "(I)I" } : Jvm.MethodName) ({ cls := "LivesAhead$Desk", name := "personsIn", desc := "(I)I" } : Jvm.MethodName) : Cond) ∈ lw_g := lw_gm (i := 496) (by decide +kernel) (by decide +kernel)
theorem q497 : (.code ({ cls := "LivesAhead$Desk", name := "personsIn", desc := "(I)I" } : Jvm.MethodName) prog_2_method_17_code (5 : Nat) (Option.some .int) : Cond) ∈ lw_g := lw_gm (i := 497) (by decide +kernel) (by decide +kernel)
theorem q498 : (.methodLink "LivesAheadLaw" (57 : Nat) ({ cls := "LivesAhead", name := "print", desc := "()I" } : Jvm.MethodName) : Cond) ∈ lw_g := lw_gm (i := 498) (by decide +kernel) (by decide +kernel)
theorem q499 : (.instanceMethod ({ cls := "LivesAhead", name := "print", desc := "()I" } : Jvm.MethodName) : Cond) ∈ lw_g := lw_gm (i := 499) (by decide +kernel) (by decide +kernel)
theorem q500 : (.selects "LivesAhead" ({ cls := "LivesAhead", name := "print", desc := "()I" } : Jvm.MethodName) ({ cls := "LivesAhead", name := "print", desc := "()I" } : Jvm.MethodName) : Cond) ∈ lw_g := lw_gm (i := 500) (by decide +kernel) (by decide +kernel)
theorem q501 : (.code ({ cls := "LivesAhead", name := "print", desc := "()I" } : Jvm.MethodName) prog_1_method_12_code (3 : Nat) (Option.some .int) : Cond) ∈ lw_g := lw_gm (i := 501) (by decide +kernel) (by decide +kernel)
theorem q502 : (.methodLink "LivesAhead" (169 : Nat) ({ cls := "LivesAhead$Page", name := "lay", desc := "(LLivesAhead$Desk;)V" } : Jvm.MethodName) : Cond) ∈ lw_g := lw_gm (i := 502) (by decide +kernel) (by decide +kernel)
theorem q503 : (.instanceMethod ({ cls := "LivesAhead$Page", name := "lay", desc := "(LLivesAhead$Desk;)V" } : Jvm.MethodName) : Cond) ∈ lw_g := lw_gm (i := 503) (by decide +kernel) (by decide +kernel)
theorem q504 : (.selects "LivesAhead$Page" ({ cls := "LivesAhead$Page", name := "lay", desc := "(LLivesAhead$Desk;)V" } : Jvm.MethodName) ({ cls := "LivesAhead$Page", name := "lay", desc := "(LLivesAhead$Desk;)V" } : Jvm.MethodName) : Cond) ∈ lw_g := lw_gm (i := 504) (by decide +kernel) (by decide +kernel)
theorem q505 : (.code ({ cls := "LivesAhead$Page", name := "lay", desc := "(LLivesAhead$Desk;)V" } : Jvm.MethodName) prog_5_method_2_code (5 : Nat) (Option.none : Option Jvm.ClassFile.FieldType) : Cond) ∈ lw_g := lw_gm (i := 505) (by decide +kernel) (by decide +kernel)
theorem q506 : (.methodLink "LivesAhead$Page" (22 : Nat) ({ cls := "LivesAhead$Page", name := "queueDead", desc := "(LLivesAhead$Desk;)V" } : Jvm.MethodName) : Cond) ∈ lw_g := lw_gm (i := 506) (by decide +kernel) (by decide +kernel)
theorem q508 : (.instanceMethod ({ cls := "LivesAhead$Page", name := "queueDead", desc := "(LLivesAhead$Desk;)V" } : Jvm.MethodName) : Cond) ∈ lw_g := lw_gm (i := 508) (by decide +kernel) (by decide +kernel)
theorem q509 : (.code ({ cls := "LivesAhead$Page", name := "queueDead", desc := "(LLivesAhead$Desk;)V" } : Jvm.MethodName) prog_5_method_5_code (5 : Nat) (Option.none : Option Jvm.ClassFile.FieldType) : Cond) ∈ lw_g := lw_gm (i := 509) (by decide +kernel) (by decide +kernel)
theorem q510 : (.methodLink "LivesAhead$Page" (58 : Nat) ({ cls := "LivesAhead$Ranking", name := "clear", desc := "()V" } : Jvm.MethodName) : Cond) ∈ lw_g := lw_gm (i := 510) (by decide +kernel) (by decide +kernel)
theorem q511 : (.instanceMethod ({ cls := "LivesAhead$Ranking", name := "clear", desc := "()V" } : Jvm.MethodName) : Cond) ∈ lw_g := lw_gm (i := 511) (by decide +kernel) (by decide +kernel)
theorem q512 : (.selects "LivesAhead$Ranking" ({ cls := "LivesAhead$Ranking", name := "clear", desc := "()V" } : Jvm.MethodName) ({ cls := "LivesAhead$Ranking", name := "clear", desc := "()V" } : Jvm.MethodName) : Cond) ∈ lw_g := lw_gm (i := 512) (by decide +kernel) (by decide +kernel)
theorem q513 : (.code ({ cls := "LivesAhead$Ranking", name := "clear", desc := "()V" } : Jvm.MethodName) prog_7_method_2_code (1 : Nat) (Option.none : Option Jvm.ClassFile.FieldType) : Cond) ∈ lw_g := lw_gm (i := 513) (by decide +kernel) (by decide +kernel)
theorem q514 : (.methodLink "LivesAhead$Page" (61 : Nat) ({ cls := "LivesAhead$Desk", name := "persons", desc := "()I" } : Jvm.MethodName) : Cond) ∈ lw_g := lw_gm (i := 514) (by decide +kernel) (by decide +kernel)
theorem q515 : (.instanceMethod ({ cls := "LivesAhead$Desk", name := "persons", desc := "()I" } : Jvm.MethodName) : Cond) ∈ lw_g := lw_gm (i := 515) (by decide +kernel) (by decide +kernel)
theorem q516 : (.selects "LivesAhead$Desk" ({ cls := "LivesAhead$Desk", name := "persons", desc := "()I" } : Jvm.MethodName) ({ cls := "LivesAhead$Desk", name := "persons", desc := "()I" } : Jvm.MethodName) : Cond) ∈ lw_g := lw_gm (i := 516) (by decide +kernel) (by decide +kernel)
theorem q517 : (.code ({ cls := "LivesAhead$Desk", name := "persons", desc := "()I" } : Jvm.MethodName) prog_2_method_5_code (1 : Nat) (Option.some .int) : Cond) ∈ lw_g := lw_gm (i := 517) (by decide +kernel) (by decide +kernel)
theorem q518 : (.methodLink "LivesAhead$Page" (45 : Nat) ({ cls := "LivesAhead$Desk", name := "lifeOf", desc := "(I)LLivesAhead$Life;" } : Jvm.MethodName) : Cond) ∈ lw_g := lw_gm (i := 518) (by decide +kernel) (by decide +kernel)
theorem q519 : (.methodLink "LivesAhead$Page" (63 : Nat) ({ cls := "LivesAhead$Life", name := "isIn", desc := "(I)Z" } : Jvm.MethodName) : Cond) ∈ lw_g := lw_gm (i := 519) (by decide +kernel) (by decide +kernel)
theorem q520 : (.methodLink "LivesAhead$Page" (67 : Nat) ({ cls := "LivesAhead$Life", name := "deathDay", desc := "()I" } : Jvm.MethodName) : Cond) ∈ lw_g := lw_gm (i := 520) (by decide +kernel) (by decide +kernel)
theorem q521 : (.instanceMethod ({ cls := "LivesAhead$Life", name := "deathDay", desc := "()I" } : Jvm.MethodName) : Cond) ∈ lw_g := lw_gm (i := 521) (by decide +kernel) (by decide +kernel)
theorem q522 : (.selects "LivesAhead$Life" ({ cls := "LivesAhead$Life", name := "deathDay", desc := "()I" } : Jvm.MethodName) ({ cls := "LivesAhead$Life", name := "deathDay", desc := "()I" } : Jvm.MethodName) : Cond) ∈ lw_g := lw_gm (i := 522) (by decide +kernel) (by decide +kernel)
theorem q523 : (.code ({ cls := "LivesAhead$Life", name := "deathDay", desc := "()I" } : Jvm.MethodName) prog_4_method_9_code (1 : Nat) (Option.some .int) : Cond) ∈ lw_g := lw_gm (i := 523) (by decide +kernel) (by decide +kernel)
theorem q524 : (.methodLink "LivesAhead$Page" (70 : Nat) ({ cls := "LivesAhead$Life", name := "rank", desc := "()I" } : Jvm.MethodName) : Cond) ∈ lw_g := lw_gm (i := 524) (by decide +kernel) (by decide +kernel)
theorem q525 : (.methodLink "LivesAhead$Page" (73 : Nat) ({ cls := "LivesAhead$Ranking", name := "enter", desc := "(II)V" } : Jvm.MethodName) : Cond) ∈ lw_g := lw_gm (i := 525) (by decide +kernel) (by decide +kernel)
theorem q526 : (.instanceMethod ({ cls := "LivesAhead$Ranking", name := "enter", desc := "(II)V" } : Jvm.MethodName) : Cond) ∈ lw_g := lw_gm (i := 526) (by decide +kernel) (by decide +kernel)
theorem q527 : (.selects "LivesAhead$Ranking" ({ cls := "LivesAhead$Ranking", name := "enter", desc := "(II)V" } : Jvm.MethodName) ({ cls := "LivesAhead$Ranking", name := "enter", desc := "(II)V" } : Jvm.MethodName) : Cond) ∈ lw_g := lw_gm (i := 527) (by decide +kernel) (by decide +kernel)
theorem q528 : (.code ({ cls := "LivesAhead$Ranking", name := "enter", desc := "(II)V" } : Jvm.MethodName) prog_7_method_4_code (4 : Nat) (Option.none : Option Jvm.ClassFile.FieldType) : Cond) ∈ lw_g := lw_gm (i := 528) (by decide +kernel) (by decide +kernel)
theorem q529 : (.methodLink "LivesAhead$Page" (30 : Nat) ({ cls := "LivesAhead$Desk", name := "setting", desc := "(I)I" } : Jvm.MethodName) : Cond) ∈ lw_g := lw_gm (i := 529) (by decide +kernel) (by decide +kernel)
theorem q530 : (.methodLink "LivesAhead$Page" (39 : Nat) ({ cls := "LivesAhead$Ranking", name := "size", desc := "()I" } : Jvm.MethodName) : Cond) ∈ lw_g := lw_gm (i := 530) (by decide +kernel) (by decide +kernel)
theorem q531 : (.instanceMethod ({ cls := "LivesAhead$Ranking", name := "size", desc := "()I" } : Jvm.MethodName) : Cond) ∈ lw_g := lw_gm (i := 531) (by decide +kernel) (by decide +kernel)
theorem q532 : (.selects "LivesAhead$Ranking" ({ cls := "LivesAhead$Ranking", name := "size", desc := "()I" } : Jvm.MethodName) ({ cls := "LivesAhead$Ranking", name := "size", desc := "()I" } : Jvm.MethodName) : Cond) ∈ lw_g := lw_gm (i := 532) (by decide +kernel) (by decide +kernel)
theorem q533 : (.code ({ cls := "LivesAhead$Ranking", name := "size", desc := "()I" } : Jvm.MethodName) prog_7_method_3_code (1 : Nat) (Option.some .int) : Cond) ∈ lw_g := lw_gm (i := 533) (by decide +kernel) (by decide +kernel)
theorem q534 : (.methodLink "LivesAhead$Page" (42 : Nat) ({ cls := "LivesAhead$Ranking", name := "personAt", desc := "(I)I" } : Jvm.MethodName) : Cond) ∈ lw_g := lw_gm (i := 534) (by decide +kernel) (by decide +kernel)
theorem q535 : (.instanceMethod ({ cls := "LivesAhead$Ranking", name := "personAt", desc := "(I)I" } : Jvm.MethodName) : Cond) ∈ lw_g := lw_gm (i := 535) (by decide +kernel) (by decide +kernel)
theorem q536 : (.selects "LivesAhead$Ranking" ({ cls := "LivesAhead$Ranking", name := "personAt", desc := "(I)I" } : Jvm.MethodName) ({ cls := "LivesAhead$Ranking", name := "personAt", desc := "(I)I" } : Jvm.MethodName) : Cond) ∈ lw_g := lw_gm (i := 536) (by decide +kernel) (by decide +kernel)
theorem q537 : (.code ({ cls := "LivesAhead$Ranking", name := "personAt", desc := "(I)I" } : Jvm.MethodName) prog_7_method_5_code (2 : Nat) (Option.some .int) : Cond) ∈ lw_g := lw_gm (i := 537) (by decide +kernel) (by decide +kernel)
theorem q538 : (.methodLink "LivesAhead$Page" (49 : Nat) ({ cls := "LivesAhead$Desk", name := "couldPrint", desc := "(LLivesAhead$Life;)Z" } : Jvm.MethodName) : Cond) ∈ lw_g := lw_gm (i := 538) (by decide +kernel) (by decide +kernel)
theorem q539 : (.instanceMethod ({ cls := "LivesAhead$Desk", name := "couldPrint", desc := "(LLivesAhead$Life;)Z" } : Jvm.MethodName) : Cond) ∈ lw_g := lw_gm (i := 539) (by decide +kernel) (by decide +kernel)
theorem q540 : (.selects "LivesAhead$Desk" ({ cls := "LivesAhead$Desk", name := "couldPrint", desc := "(LLivesAhead$Life;)Z" } : Jvm.MethodName) ({ cls := "LivesAhead$Desk", name := "couldPrint", desc := "(LLivesAhead$Life;)Z" } : Jvm.MethodName) : Cond) ∈ lw_g := lw_gm (i := 540) (by decide +kernel) (by decide +kernel)
theorem q541 : (.code ({ cls := "LivesAhead$Desk", name := "couldPrint", desc := "(LLivesAhead$Life;)Z" } : Jvm.MethodName) prog_2_method_33_code (2 : Nat) (Option.some .boolean) : Cond) ∈ lw_g := lw_gm (i := 541) (by decide +kernel) (by decide +kernel)
theorem q542 : (.methodLink "LivesAhead$Desk" (139 : Nat) ({ cls := "LivesAhead$Life", name := "differentSources", desc := "()I" } : Jvm.MethodName) : Cond) ∈ lw_g := lw_gm (i := 542) (by decide +kernel) (by decide +kernel)
theorem q543 : (.instanceMethod ({ cls := "LivesAhead$Life", name := "differentSources", desc := "()I" } : Jvm.MethodName) : Cond) ∈ lw_g := lw_gm (i := 543) (by decide +kernel) (by decide +kernel)
theorem q544 : (.selects "LivesAhead$Life" ({ cls := "LivesAhead$Life", name := "differentSources", desc := "()I" } : Jvm.MethodName) ({ cls := "LivesAhead$Life", name := "differentSources", desc := "()I" } : Jvm.MethodName) : Cond) ∈ lw_g := lw_gm (i := 544) (by decide +kernel) (by decide +kernel)
theorem q545 : (.code ({ cls := "LivesAhead$Life", name := "differentSources", desc := "()I" } : Jvm.MethodName) prog_4_method_25_code (3 : Nat) (Option.some .int) : Cond) ∈ lw_g := lw_gm (i := 545) (by decide +kernel) (by decide +kernel)
theorem q546 : (.methodLink "LivesAhead$Life" (60 : Nat) ({ cls := "LivesAhead$Life", name := "sourceOf", desc := "(I)I" } : Jvm.MethodName) : Cond) ∈ lw_g := lw_gm (i := 546) (by decide +kernel) (by decide +kernel)
theorem q547 : (.methodLink "LivesAhead$Life" (63 : Nat) ({ cls := "java/lang/Integer", name := "bitCount", desc := "(I)I" } : Jvm.MethodName) : Cond) ∈ lw_g := lw_gm (i := 547) (by decide +kernel) (by decide +kernel)
theorem q548 : (.static ({ cls := "java/lang/Integer", name := "bitCount", desc := "(I)I" } : Jvm.MethodName) : Cond) ∈ lw_g := lw_gm (i := 548) (by decide +kernel) (by decide +kernel)
theorem q549 : (.code ({ cls := "java/lang/Integer", name := "bitCount", desc := "(I)I" } : Jvm.MethodName) prog_11_method_49_code (1 : Nat) (Option.some .int) : Cond) ∈ lw_g := lw_gm (i := 549) (by decide +kernel) (by decide +kernel)
theorem q550 : (.constant "java/lang/Integer" (265 : Nat) (1431655765 : Int32) : Cond) ∈ lw_g := lw_gm (i := 550) (by decide +kernel) (by decide +kernel)
theorem q551 : (.constant "java/lang/Integer" (266 : Nat) (858993459 : Int32) : Cond) ∈ lw_g := lw_gm (i := 551) (by decide +kernel) (by decide +kernel)
theorem q552 : (.constant "java/lang/Integer" (267 : Nat) (252645135 : Int32) : Cond) ∈ lw_g := lw_gm (i := 552) (by decide +kernel) (by decide +kernel)
theorem q553 : (.methodLink "LivesAhead$Page" (53 : Nat) ({ cls := "LivesAhead$Life", name := "length", desc := "()I" } : Jvm.MethodName) : Cond) ∈ lw_g := lw_gm (i := 553) (by decide +kernel) (by decide +kernel)
theorem q554 : (.instanceMethod ({ cls := "LivesAhead$Life", name := "length", desc := "()I" } : Jvm.MethodName) : Cond) ∈ lw_g := lw_gm (i := 554) (by decide +kernel) (by decide +kernel)
theorem q555 : (.selects "LivesAhead$Life" ({ cls := "LivesAhead$Life", name := "length", desc := "()I" } : Jvm.MethodName) ({ cls := "LivesAhead$Life", name := "length", desc := "()I" } : Jvm.MethodName) : Cond) ∈ lw_g := lw_gm (i := 555) (by decide +kernel) (by decide +kernel)
theorem q556 : (.code ({ cls := "LivesAhead$Life", name := "length", desc := "()I" } : Jvm.MethodName) prog_4_method_24_code (3 : Nat) (Option.some .int) : Cond) ∈ lw_g := lw_gm (i := 556) (by decide +kernel) (by decide +kernel)
theorem q557 : (.methodLink "LivesAhead$Life" (56 : Nat) ({ cls := "LivesAhead$Life", name := "linesOf", desc := "(I)I" } : Jvm.MethodName) : Cond) ∈ lw_g := lw_gm (i := 557) (by decide +kernel) (by decide +kernel)
theorem q558 : (.instanceMethod ({ cls := "LivesAhead$Life", name := "linesOf", desc := "(I)I" } : Jvm.MethodName) : Cond) ∈ lw_g := lw_gm (i := 558) (by decide +kernel) (by decide +kernel)
theorem q559 : (.selects "LivesAhead$Life" ({ cls := "LivesAhead$Life", name := "linesOf", desc := "(I)I" } : Jvm.MethodName) ({ cls := "LivesAhead$Life", name := "linesOf", desc := "(I)I" } : Jvm.MethodName) : Cond) ∈ lw_g := lw_gm (i := 559) (by decide +kernel) (by decide +kernel)
theorem q560 : (.code ({ cls := "LivesAhead$Life", name := "linesOf", desc := "(I)I" } : Jvm.MethodName) prog_4_method_18_code (2 : Nat) (Option.some .int) : Cond) ∈ lw_g := lw_gm (i := 560) (by decide +kernel) (by decide +kernel)
theorem q561 : (.methodLink "LivesAhead" (172 : Nat) ({ cls := "LivesAhead$Page", name := "size", desc := "()I" } : Jvm.MethodName) : Cond) ∈ lw_g := lw_gm (i := 561) (by decide +kernel) (by decide +kernel)
theorem q562 : (.instanceMethod ({ cls := "LivesAhead$Page", name := "size", desc := "()I" } : Jvm.MethodName) : Cond) ∈ lw_g := lw_gm (i := 562) (by decide +kernel) (by decide +kernel)
theorem q563 : (.selects "LivesAhead$Page" ({ cls := "LivesAhead$Page", name := "size", desc := "()I" } : Jvm.MethodName) ({ cls := "LivesAhead$Page", name := "size", desc := "()I" } : Jvm.MethodName) : Cond) ∈ lw_g := lw_gm (i := 563) (by decide +kernel) (by decide +kernel)
theorem q564 : (.code ({ cls := "LivesAhead$Page", name := "size", desc := "()I" } : Jvm.MethodName) prog_5_method_3_code (1 : Nat) (Option.some .int) : Cond) ∈ lw_g := lw_gm (i := 564) (by decide +kernel) (by decide +kernel)
theorem q565 : (.methodLink "LivesAhead" (173 : Nat) ({ cls := "LivesAhead$Page", name := "personAt", desc := "(I)I" } : Jvm.MethodName) : Cond) ∈ lw_g := lw_gm (i := 565) (by decide +kernel) (by decide +kernel)
theorem q566 : (.instanceMethod ({ cls := "LivesAhead$Page", name := "personAt", desc := "(I)I" } : Jvm.MethodName) : Cond) ∈ lw_g := lw_gm (i := 566) (by decide +kernel) (by decide +kernel)
theorem q567 : (.selects "LivesAhead$Page" ({ cls := "LivesAhead$Page", name := "personAt", desc := "(I)I" } : Jvm.MethodName) ({ cls := "LivesAhead$Page", name := "personAt", desc := "(I)I" } : Jvm.MethodName) : Cond) ∈ lw_g := lw_gm (i := 567) (by decide +kernel) (by decide +kernel)
theorem q568 : (.code ({ cls := "LivesAhead$Page", name := "personAt", desc := "(I)I" } : Jvm.MethodName) prog_5_method_6_code (2 : Nat) (Option.some .int) : Cond) ∈ lw_g := lw_gm (i := 568) (by decide +kernel) (by decide +kernel)
theorem q569 : (.methodLink "LivesAhead" (176 : Nat) ({ cls := "LivesAhead$Desk", name := "markPrinted", desc := "(I)V" } : Jvm.MethodName) : Cond) ∈ lw_g := lw_gm (i := 569) (by decide +kernel) (by decide +kernel)
theorem q570 : (.instanceMethod ({ cls := "LivesAhead$Desk", name := "markPrinted", desc := "(I)V" } : Jvm.MethodName) : Cond) ∈ lw_g := lw_gm (i := 570) (by decide +kernel) (by decide +kernel)
theorem q571 : (.selects "LivesAhead$Desk" ({ cls := "LivesAhead$Desk", name := "markPrinted", desc := "(I)V" } : Jvm.MethodName) ({ cls := "LivesAhead$Desk", name := "markPrinted", desc := "(I)V" } : Jvm.MethodName) : Cond) ∈ lw_g := lw_gm (i := 571) (by decide +kernel) (by decide +kernel)
theorem q572 : (.code ({ cls := "LivesAhead$Desk", name := "markPrinted", desc := "(I)V" } : Jvm.MethodName) prog_2_method_34_code (3 : Nat) (Option.none : Option Jvm.ClassFile.FieldType) : Cond) ∈ lw_g := lw_gm (i := 572) (by decide +kernel) (by decide +kernel)
theorem q573 : (.methodLink "LivesAhead$Desk" (142 : Nat) ({ cls := "LivesAhead$Life", name := "becomePrinted", desc := "(I)V" } : Jvm.MethodName) : Cond) ∈ lw_g := lw_gm (i := 573) (by decide +kernel) (by decide +kernel)
theorem q574 : (.instanceMethod ({ cls := "LivesAhead$Life", name := "becomePrinted", desc := "(I)V" } : Jvm.MethodName) : Cond) ∈ lw_g := lw_gm (i := 574) (by decide +kernel) (by decide +kernel)
theorem q575 : (.selects "LivesAhead$Life" ({ cls := "LivesAhead$Life", name := "becomePrinted", desc := "(I)V" } : Jvm.MethodName) ({ cls := "LivesAhead$Life", name := "becomePrinted", desc := "(I)V" } : Jvm.MethodName) : Cond) ∈ lw_g := lw_gm (i := 575) (by decide +kernel) (by decide +kernel)
theorem q576 : (.code ({ cls := "LivesAhead$Life", name := "becomePrinted", desc := "(I)V" } : Jvm.MethodName) prog_4_method_15_code (2 : Nat) (Option.none : Option Jvm.ClassFile.FieldType) : Cond) ∈ lw_g := lw_gm (i := 576) (by decide +kernel) (by decide +kernel)
theorem q577 : (.methodLink "LivesAhead" (179 : Nat) ({ cls := "LivesAhead$Desk", name := "takeBackOldDeaths", desc := "()V" } : Jvm.MethodName) : Cond) ∈ lw_g := lw_gm (i := 577) (by decide +kernel) (by decide +kernel)
theorem q578 : (.instanceMethod ({ cls := "LivesAhead$Desk", name := "takeBackOldDeaths", desc := "()V" } : Jvm.MethodName) : Cond) ∈ lw_g := lw_gm (i := 578) (by decide +kernel) (by decide +kernel)
theorem q579 : (.selects "LivesAhead$Desk" ({ cls := "LivesAhead$Desk", name := "takeBackOldDeaths", desc := "()V" } : Jvm.MethodName) ({ cls := "LivesAhead$Desk", name := "takeBackOldDeaths", desc := "()V" } : Jvm.MethodName) : Cond) ∈ lw_g := lw_gm (i := 579) (by decide +kernel) (by decide +kernel)
theorem q580 : (.code ({ cls := "LivesAhead$Desk", name := "takeBackOldDeaths", desc := "()V" } : Jvm.MethodName) prog_2_method_35_code (3 : Nat) (Option.none : Option Jvm.ClassFile.FieldType) : Cond) ∈ lw_g := lw_gm (i := 580) (by decide +kernel) (by decide +kernel)
theorem q581 : (.methodLink "LivesAhead$Desk" (145 : Nat) ({ cls := "LivesAhead$Life", name := "deathDay", desc := "()I" } : Jvm.MethodName) : Cond) ∈ lw_g := lw_gm (i := 581) (by decide +kernel) (by decide +kernel)
theorem q582 : (.methodLink "LivesAhead$Desk" (148 : Nat) ({ cls := "LivesAhead$Life", name := "takeBackDeath", desc := "()V" } : Jvm.MethodName) : Cond) ∈ lw_g := lw_gm (i := 582) (by decide +kernel) (by decide +kernel)
theorem q583 : (.methodLink "LivesAhead" (182 : Nat) ({ cls := "LivesAhead$Desk", name := "beginNextDay", desc := "()V" } : Jvm.MethodName) : Cond) ∈ lw_g := lw_gm (i := 583) (by decide +kernel) (by decide +kernel)
theorem q584 : (.instanceMethod ({ cls := "LivesAhead$Desk", name := "beginNextDay", desc := "()V" } : Jvm.MethodName) : Cond) ∈ lw_g := lw_gm (i := 584) (by decide +kernel) (by decide +kernel)
theorem q585 : (.selects "LivesAhead$Desk" ({ cls := "LivesAhead$Desk", name := "beginNextDay", desc := "()V" } : Jvm.MethodName) ({ cls := "LivesAhead$Desk", name := "beginNextDay", desc := "()V" } : Jvm.MethodName) : Cond) ∈ lw_g := lw_gm (i := 585) (by decide +kernel) (by decide +kernel)
theorem q586 : (.code ({ cls := "LivesAhead$Desk", name := "beginNextDay", desc := "()V" } : Jvm.MethodName) prog_2_method_36_code (1 : Nat) (Option.none : Option Jvm.ClassFile.FieldType) : Cond) ∈ lw_g := lw_gm (i := 586) (by decide +kernel) (by decide +kernel)
theorem q587 : (.methodLink "LivesAheadLaw" (61 : Nat) ({ cls := "LivesAhead", name := "correct", desc := "(III)I" } : Jvm.MethodName) : Cond) ∈ lw_g := lw_gm (i := 587) (by decide +kernel) (by decide +kernel)
theorem q588 : (.instanceMethod ({ cls := "LivesAhead", name := "correct", desc := "(III)I" } : Jvm.MethodName) : Cond) ∈ lw_g := lw_gm (i := 588) (by decide +kernel) (by decide +kernel)
theorem q589 : (.selects "LivesAhead" ({ cls := "LivesAhead", name := "correct", desc := "(III)I" } : Jvm.MethodName) ({ cls := "LivesAhead", name := "correct", desc := "(III)I" } : Jvm.MethodName) : Cond) ∈ lw_g := lw_gm (i := 589) (by decide +kernel) (by decide +kernel)
theorem q590 : (.code ({ cls := "LivesAhead", name := "correct", desc := "(III)I" } : Jvm.MethodName) prog_1_method_13_code (5 : Nat) (Option.some .int) : Cond) ∈ lw_g := lw_gm (i := 590) (by decide +kernel) (by decide +kernel)
theorem q591 : (.methodLink "LivesAhead" (185 : Nat) ({ cls := "LivesAhead$Life", name := "sourceOf", desc := "(I)I" } : Jvm.MethodName) : Cond) ∈ lw_g := lw_gm (i := 591) (by decide +kernel) (by decide +kernel)
theorem q592 : (.methodLink "LivesAhead" (188 : Nat) ({ cls := "LivesAhead$Life", name := "changeSource", desc := "(II)V" } : Jvm.MethodName) : Cond) ∈ lw_g := lw_gm (i := 592) (by decide +kernel) (by decide +kernel)
theorem q593 : (.instanceMethod ({ cls := "LivesAhead$Life", name := "changeSource", desc := "(II)V" } : Jvm.MethodName) : Cond) ∈ lw_g := lw_gm (i := 593) (by decide +kernel) (by decide +kernel)
theorem q594 : (.selects "LivesAhead$Life" ({ cls := "LivesAhead$Life", name := "changeSource", desc := "(II)V" } : Jvm.MethodName) ({ cls := "LivesAhead$Life", name := "changeSource", desc := "(II)V" } : Jvm.MethodName) : Cond) ∈ lw_g := lw_gm (i := 594) (by decide +kernel) (by decide +kernel)
theorem q595 : (.code ({ cls := "LivesAhead$Life", name := "changeSource", desc := "(II)V" } : Jvm.MethodName) prog_4_method_22_code (3 : Nat) (Option.none : Option Jvm.ClassFile.FieldType) : Cond) ∈ lw_g := lw_gm (i := 595) (by decide +kernel) (by decide +kernel)
theorem q596 : (.methodLink "LivesAhead" (191 : Nat) ({ cls := "LivesAhead$Desk", name := "countCorrection", desc := "()I" } : Jvm.MethodName) : Cond) ∈ lw_g := lw_gm (i := 596) (by decide +kernel) (by decide +kernel)
theorem q597 : (.instanceMethod ({ cls := "LivesAhead$Desk", name := "countCorrection", desc := "()I" } : Jvm.MethodName) : Cond) ∈ lw_g := lw_gm (i := 597) (by decide +kernel) (by decide +kernel)
theorem q598 : (.selects "LivesAhead$Desk" ({ cls := "LivesAhead$Desk", name := "countCorrection", desc := "()I" } : Jvm.MethodName) ({ cls := "LivesAhead$Desk", name := "countCorrection", desc := "()I" } : Jvm.MethodName) : Cond) ∈ lw_g := lw_gm (i := 598) (by decide +kernel) (by decide +kernel)
theorem q599 : (.code ({ cls := "LivesAhead$Desk", name := "countCorrection", desc := "()I" } : Jvm.MethodName) prog_2_method_16_code (1 : Nat) (Option.some .int) : Cond) ∈ lw_g := lw_gm (i := 599) (by decide +kernel) (by decide +kernel)
theorem q600 : (.methodLink "LivesAheadLaw" (65 : Nat) ({ cls := "LivesAhead", name := "type", desc := "(C)I" } : Jvm.MethodName) : Cond) ∈ lw_g := lw_gm (i := 600) (by decide +kernel) (by decide +kernel)
theorem q601 : (.instanceMethod ({ cls := "LivesAhead", name := "type", desc := "(C)I" } : Jvm.MethodName) : Cond) ∈ lw_g := lw_gm (i := 601) (by decide +kernel) (by decide +kernel)
theorem q602 : (.selects "LivesAhead" ({ cls := "LivesAhead", name := "type", desc := "(C)I" } : Jvm.MethodName) ({ cls := "LivesAhead", name := "type", desc := "(C)I" } : Jvm.MethodName) : Cond) ∈ lw_g := lw_gm (i := 602) (by decide +kernel) (by decide +kernel)
theorem q603 : (.code ({ cls := "LivesAhead", name := "type", desc := "(C)I" } : Jvm.MethodName) prog_1_method_14_code (2 : Nat) (Option.some .int) : Cond) ∈ lw_g := lw_gm (i := 603) (by decide +kernel) (by decide +kernel)
theorem q604 : (.methodLink "LivesAhead" (194 : Nat) ({ cls := "LivesAhead$PersonsText", name := "append", desc := "(C)Z" } : Jvm.MethodName) : Cond) ∈ lw_g := lw_gm (i := 604) (by decide +kernel) (by decide +kernel)
theorem q605 : (.instanceMethod ({ cls := "LivesAhead$PersonsText", name := "append", desc := "(C)Z" } : Jvm.MethodName) : Cond) ∈ lw_g := lw_gm (i := 605) (by decide +kernel) (by decide +kernel)
theorem q606 : (.selects "LivesAhead$PersonsText" ({ cls := "LivesAhead$PersonsText", name := "append", desc := "(C)Z" } : Jvm.MethodName) ({ cls := "LivesAhead$PersonsText", name := "append", desc := "(C)Z" } : Jvm.MethodName) : Cond) ∈ lw_g := lw_gm (i := 606) (by decide +kernel) (by decide +kernel)
theorem q607 : (.code ({ cls := "LivesAhead$PersonsText", name := "append", desc := "(C)Z" } : Jvm.MethodName) prog_6_method_3_code (2 : Nat) (Option.some .boolean) : Cond) ∈ lw_g := lw_gm (i := 607) (by decide +kernel) (by decide +kernel)
theorem q608 : (.methodLink "LivesAhead" (198 : Nat) ({ cls := "LivesAhead$PersonsText", name := "length", desc := "()I" } : Jvm.MethodName) : Cond) ∈ lw_g := lw_gm (i := 608) (by decide +kernel) (by decide +kernel)
theorem q609 : (.instanceMethod ({ cls := "LivesAhead$PersonsText", name := "length", desc := "()I" } : Jvm.MethodName) : Cond) ∈ lw_g := lw_gm (i := 609) (by decide +kernel) (by decide +kernel)
theorem q610 : (.selects "LivesAhead$PersonsText" ({ cls := "LivesAhead$PersonsText", name := "length", desc := "()I" } : Jvm.MethodName) ({ cls := "LivesAhead$PersonsText", name := "length", desc := "()I" } : Jvm.MethodName) : Cond) ∈ lw_g := lw_gm (i := 610) (by decide +kernel) (by decide +kernel)
theorem q611 : (.code ({ cls := "LivesAhead$PersonsText", name := "length", desc := "()I" } : Jvm.MethodName) prog_6_method_2_code (1 : Nat) (Option.some .int) : Cond) ∈ lw_g := lw_gm (i := 611) (by decide +kernel) (by decide +kernel)
theorem q612 : (.methodLink "LivesAheadLaw" (70 : Nat) ({ cls := "LivesAhead", name := "clearText", desc := "()I" } : Jvm.MethodName) : Cond) ∈ lw_g := lw_gm (i := 612) (by decide +kernel) (by decide +kernel)
theorem q613 : (.instanceMethod ({ cls := "LivesAhead", name := "clearText", desc := "()I" } : Jvm.MethodName) : Cond) ∈ lw_g := lw_gm (i := 613) (by decide +kernel) (by decide +kernel)
theorem q614 : (.selects "LivesAhead" ({ cls := "LivesAhead", name := "clearText", desc := "()I" } : Jvm.MethodName) ({ cls := "LivesAhead", name := "clearText", desc := "()I" } : Jvm.MethodName) : Cond) ∈ lw_g := lw_gm (i := 614) (by decide +kernel) (by decide +kernel)
theorem q615 : (.code ({ cls := "LivesAhead", name := "clearText", desc := "()I" } : Jvm.MethodName) prog_1_method_15_code (2 : Nat) (Option.some .int) : Cond) ∈ lw_g := lw_gm (i := 615) (by decide +kernel) (by decide +kernel)
theorem q616 : (.methodLink "LivesAhead" (201 : Nat) ({ cls := "LivesAhead$PersonsText", name := "clear", desc := "()V" } : Jvm.MethodName) : Cond) ∈ lw_g := lw_gm (i := 616) (by decide +kernel) (by decide +kernel)
theorem q617 : (.instanceMethod ({ cls := "LivesAhead$PersonsText", name := "clear", desc := "()V" } : Jvm.MethodName) : Cond) ∈ lw_g := lw_gm (i := 617) (by decide +kernel) (by decide +kernel)
theorem q618 : (.selects "LivesAhead$PersonsText" ({ cls := "LivesAhead$PersonsText", name := "clear", desc := "()V" } : Jvm.MethodName) ({ cls := "LivesAhead$PersonsText", name := "clear", desc := "()V" } : Jvm.MethodName) : Cond) ∈ lw_g := lw_gm (i := 618) (by decide +kernel) (by decide +kernel)
theorem q619 : (.code ({ cls := "LivesAhead$PersonsText", name := "clear", desc := "()V" } : Jvm.MethodName) prog_6_method_4_code (1 : Nat) (Option.none : Option Jvm.ClassFile.FieldType) : Cond) ∈ lw_g := lw_gm (i := 619) (by decide +kernel) (by decide +kernel)
theorem q620 : (.methodLink "LivesAheadLaw" (74 : Nat) ({ cls := "LivesAhead", name := "undo", desc := "()I" } : Jvm.MethodName) : Cond) ∈ lw_g := lw_gm (i := 620) (by decide +kernel) (by decide +kernel)
theorem q621 : (.instanceMethod ({ cls := "LivesAhead", name := "undo", desc := "()I" } : Jvm.MethodName) : Cond) ∈ lw_g := lw_gm (i := 621) (by decide +kernel) (by decide +kernel)
theorem q622 : (.selects "LivesAhead" ({ cls := "LivesAhead", name := "undo", desc := "()I" } : Jvm.MethodName) ({ cls := "LivesAhead", name := "undo", desc := "()I" } : Jvm.MethodName) : Cond) ∈ lw_g := lw_gm (i := 622) (by decide +kernel) (by decide +kernel)
theorem q623 : (.code ({ cls := "LivesAhead", name := "undo", desc := "()I" } : Jvm.MethodName) prog_1_method_16_code (1 : Nat) (Option.some .int) : Cond) ∈ lw_g := lw_gm (i := 623) (by decide +kernel) (by decide +kernel)
theorem q624 : (.methodLink "LivesAhead" (204 : Nat) ({ cls := "LivesAhead$History", name := "size", desc := "()I" } : Jvm.MethodName) : Cond) ∈ lw_g := lw_gm (i := 624) (by decide +kernel) (by decide +kernel)
theorem q625 : (.instanceMethod ({ cls := "LivesAhead$History", name := "size", desc := "()I" } : Jvm.MethodName) : Cond) ∈ lw_g := lw_gm (i := 625) (by decide +kernel) (by decide +kernel)
theorem q626 : (.selects "LivesAhead$History" ({ cls := "LivesAhead$History", name := "size", desc := "()I" } : Jvm.MethodName) ({ cls := "LivesAhead$History", name := "size", desc := "()I" } : Jvm.MethodName) : Cond) ∈ lw_g := lw_gm (i := 626) (by decide +kernel) (by decide +kernel)
theorem q627 : (.code ({ cls := "LivesAhead$History", name := "size", desc := "()I" } : Jvm.MethodName) prog_3_method_2_code (1 : Nat) (Option.some .int) : Cond) ∈ lw_g := lw_gm (i := 627) (by decide +kernel) (by decide +kernel)
theorem q628 : (.methodLink "LivesAhead" (205 : Nat) ({ cls := "LivesAhead$History", name := "takeLatest", desc := "(LLivesAhead$Desk;)V" } : Jvm.MethodName) : Cond) ∈ lw_g := lw_gm (i := 628) (by decide +kernel) (by decide +kernel)
theorem q629 : (.instanceMethod ({ cls := "LivesAhead$History", name := "takeLatest", desc := "(LLivesAhead$Desk;)V" } : Jvm.MethodName) : Cond) ∈ lw_g := lw_gm (i := 629) (by decide +kernel) (by decide +kernel)
theorem q630 : (.selects "LivesAhead$History" ({ cls := "LivesAhead$History", name := "takeLatest", desc := "(LLivesAhead$Desk;)V" } : Jvm.MethodName) ({ cls := "LivesAhead$History", name := "takeLatest", desc := "(LLivesAhead$Desk;)V" } : Jvm.MethodName) : Cond) ∈ lw_g := lw_gm (i := 630) (by decide +kernel) (by decide +kernel)
theorem q631 : (.code ({ cls := "LivesAhead$History", name := "takeLatest", desc := "(LLivesAhead$Desk;)V" } : Jvm.MethodName) prog_3_method_4_code (3 : Nat) (Option.none : Option Jvm.ClassFile.FieldType) : Cond) ∈ lw_g := lw_gm (i := 631) (by decide +kernel) (by decide +kernel)
theorem q632 : (.methodLink "LivesAheadLaw" (78 : Nat) ({ cls := "LivesAhead", name := "keep", desc := "()I" } : Jvm.MethodName) : Cond) ∈ lw_g := lw_gm (i := 632) (by decide +kernel) (by decide +kernel)
theorem q633 : (.instanceMethod ({ cls := "LivesAhead", name := "keep", desc := "()I" } : Jvm.MethodName) : Cond) ∈ lw_g := lw_gm (i := 633) (by decide +kernel) (by decide +kernel)
theorem q634 : (.selects "LivesAhead" ({ cls := "LivesAhead", name := "keep", desc := "()I" } : Jvm.MethodName) ({ cls := "LivesAhead", name := "keep", desc := "()I" } : Jvm.MethodName) : Cond) ∈ lw_g := lw_gm (i := 634) (by decide +kernel) (by decide +kernel)
theorem q635 : (.code ({ cls := "LivesAhead", name := "keep", desc := "()I" } : Jvm.MethodName) prog_1_method_17_code (1 : Nat) (Option.some .int) : Cond) ∈ lw_g := lw_gm (i := 635) (by decide +kernel) (by decide +kernel)
theorem q636 : (.methodLink "LivesAhead" (208 : Nat) ({ cls := "LivesAhead$Desk", name := "copyFrom", desc := "(LLivesAhead$Desk;)V" } : Jvm.MethodName) : Cond) ∈ lw_g := lw_gm (i := 636) (by decide +kernel) (by decide +kernel)
theorem q637 : (.methodLink "LivesAheadLaw" (82 : Nat) ({ cls := "LivesAhead", name := "restore", desc := "()I" } : Jvm.MethodName) : Cond) ∈ lw_g := lw_gm (i := 637) (by decide +kernel) (by decide +kernel)
theorem q638 : (.instanceMethod ({ cls := "LivesAhead", name := "restore", desc := "()I" } : Jvm.MethodName) : Cond) ∈ lw_g := lw_gm (i := 638) (by decide +kernel) (by decide +kernel)
theorem q639 : (.selects "LivesAhead" ({ cls := "LivesAhead", name := "restore", desc := "()I" } : Jvm.MethodName) ({ cls := "LivesAhead", name := "restore", desc := "()I" } : Jvm.MethodName) : Cond) ∈ lw_g := lw_gm (i := 639) (by decide +kernel) (by decide +kernel)
theorem q640 : (.code ({ cls := "LivesAhead", name := "restore", desc := "()I" } : Jvm.MethodName) prog_1_method_18_code (1 : Nat) (Option.some .int) : Cond) ∈ lw_g := lw_gm (i := 640) (by decide +kernel) (by decide +kernel)
theorem q641 : (.methodLink "LivesAheadLaw" (86 : Nat) ({ cls := "LivesAhead", name := "person", desc := "(II)I" } : Jvm.MethodName) : Cond) ∈ lw_g := lw_gm (i := 641) (by decide +kernel) (by decide +kernel)
theorem q642 : (.instanceMethod ({ cls := "LivesAhead", name := "person", desc := "(II)I" } : Jvm.MethodName) : Cond) ∈ lw_g := lw_gm (i := 642) (by decide +kernel) (by decide +kernel)
theorem q643 : (.selects "LivesAhead" ({ cls := "LivesAhead", name := "person", desc := "(II)I" } : Jvm.MethodName) ({ cls := "LivesAhead", name := "person", desc := "(II)I" } : Jvm.MethodName) : Cond) ∈ lw_g := lw_gm (i := 643) (by decide +kernel) (by decide +kernel)
theorem q644 : (.code ({ cls := "LivesAhead", name := "person", desc := "(II)I" } : Jvm.MethodName) prog_1_method_19_code (4 : Nat) (Option.some .int) : Cond) ∈ lw_g := lw_gm (i := 644) (by decide +kernel) (by decide +kernel)
theorem q645 : (.methodLink "LivesAhead" (215 : Nat) ({ cls := "LivesAhead$Life", name := "age", desc := "()I" } : Jvm.MethodName) : Cond) ∈ lw_g := lw_gm (i := 645) (by decide +kernel) (by decide +kernel)
theorem q646 : (.methodLink "LivesAhead" (218 : Nat) ({ cls := "LivesAhead$Life", name := "rank", desc := "()I" } : Jvm.MethodName) : Cond) ∈ lw_g := lw_gm (i := 646) (by decide +kernel) (by decide +kernel)
theorem q647 : (.methodLink "LivesAhead" (221 : Nat) ({ cls := "LivesAhead$Life", name := "state", desc := "()I" } : Jvm.MethodName) : Cond) ∈ lw_g := lw_gm (i := 647) (by decide +kernel) (by decide +kernel)
theorem q648 : (.instanceMethod ({ cls := "LivesAhead$Life", name := "state", desc := "()I" } : Jvm.MethodName) : Cond) ∈ lw_g := lw_gm (i := 648) (by decide +kernel) (by decide +kernel)
theorem q649 : (.selects "LivesAhead$Life" ({ cls := "LivesAhead$Life", name := "state", desc := "()I" } : Jvm.MethodName) ({ cls := "LivesAhead$Life", name := "state", desc := "()I" } : Jvm.MethodName) : Cond) ∈ lw_g := lw_gm (i := 649) (by decide +kernel) (by decide +kernel)
theorem q650 : (.code ({ cls := "LivesAhead$Life", name := "state", desc := "()I" } : Jvm.MethodName) prog_4_method_6_code (1 : Nat) (Option.some .int) : Cond) ∈ lw_g := lw_gm (i := 650) (by decide +kernel) (by decide +kernel)
theorem q651 : (.methodLink "LivesAhead" (224 : Nat) ({ cls := "LivesAhead$Life", name := "length", desc := "()I" } : Jvm.MethodName) : Cond) ∈ lw_g := lw_gm (i := 651) (by decide +kernel) (by decide +kernel)
theorem q652 : (.methodLink "LivesAhead" (225 : Nat) ({ cls := "LivesAhead$Desk", name := "staleFactsOf", desc := "(LLivesAhead$Life;I)I" } : Jvm.MethodName) : Cond) ∈ lw_g := lw_gm (i := 652) (by decide +kernel) (by decide +kernel)
theorem q653 : (.methodLink "LivesAhead" (229 : Nat) ({ cls := "LivesAhead$Life", name := "differentSources", desc := "()I" } : Jvm.MethodName) : Cond) ∈ lw_g := lw_gm (i := 653) (by decide +kernel) (by decide +kernel)
theorem q654 : (.methodLink "LivesAhead" (232 : Nat) ({ cls := "LivesAhead$Desk", name := "urgencyOf", desc := "(LLivesAhead$Life;)I" } : Jvm.MethodName) : Cond) ∈ lw_g := lw_gm (i := 654) (by decide +kernel) (by decide +kernel)
theorem q655 : (.methodLink "LivesAhead" (235 : Nat) ({ cls := "LivesAhead$Life", name := "deathDay", desc := "()I" } : Jvm.MethodName) : Cond) ∈ lw_g := lw_gm (i := 655) (by decide +kernel) (by decide +kernel)
theorem q656 : (.methodLink "LivesAhead" (238 : Nat) ({ cls := "LivesAhead$Life", name := "printDay", desc := "()I" } : Jvm.MethodName) : Cond) ∈ lw_g := lw_gm (i := 656) (by decide +kernel) (by decide +kernel)
theorem q657 : (.instanceMethod ({ cls := "LivesAhead$Life", name := "printDay", desc := "()I" } : Jvm.MethodName) : Cond) ∈ lw_g := lw_gm (i := 657) (by decide +kernel) (by decide +kernel)
theorem q658 : (.selects "LivesAhead$Life" ({ cls := "LivesAhead$Life", name := "printDay", desc := "()I" } : Jvm.MethodName) ({ cls := "LivesAhead$Life", name := "printDay", desc := "()I" } : Jvm.MethodName) : Cond) ∈ lw_g := lw_gm (i := 658) (by decide +kernel) (by decide +kernel)
theorem q659 : (.code ({ cls := "LivesAhead$Life", name := "printDay", desc := "()I" } : Jvm.MethodName) prog_4_method_10_code (1 : Nat) (Option.some .int) : Cond) ∈ lw_g := lw_gm (i := 659) (by decide +kernel) (by decide +kernel)
theorem q660 : (.methodLink "LivesAhead" (241 : Nat) ({ cls := "LivesAhead$Desk", name := "couldPrint", desc := "(LLivesAhead$Life;)Z" } : Jvm.MethodName) : Cond) ∈ lw_g := lw_gm (i := 660) (by decide +kernel) (by decide +kernel)
theorem q661 : (.methodLink "LivesAheadLaw" (90 : Nat) ({ cls := "LivesAhead", name := "fact", desc := "(III)I" } : Jvm.MethodName) : Cond) ∈ lw_g := lw_gm (i := 661) (by decide +kernel) (by decide +kernel)
theorem q662 : (.instanceMethod ({ cls := "LivesAhead", name := "fact", desc := "(III)I" } : Jvm.MethodName) : Cond) ∈ lw_g := lw_gm (i := 662) (by decide +kernel) (by decide +kernel)
theorem q663 : (.selects "LivesAhead" ({ cls := "LivesAhead", name := "fact", desc := "(III)I" } : Jvm.MethodName) ({ cls := "LivesAhead", name := "fact", desc := "(III)I" } : Jvm.MethodName) : Cond) ∈ lw_g := lw_gm (i := 663) (by decide +kernel) (by decide +kernel)
theorem q664 : (.code ({ cls := "LivesAhead", name := "fact", desc := "(III)I" } : Jvm.MethodName) prog_1_method_20_code (5 : Nat) (Option.some .int) : Cond) ∈ lw_g := lw_gm (i := 664) (by decide +kernel) (by decide +kernel)
theorem q665 : (.methodLink "LivesAhead" (245 : Nat) ({ cls := "LivesAhead$Life", name := "linesOf", desc := "(I)I" } : Jvm.MethodName) : Cond) ∈ lw_g := lw_gm (i := 665) (by decide +kernel) (by decide +kernel)
theorem q666 : (.methodLink "LivesAhead" (248 : Nat) ({ cls := "LivesAhead$Desk", name := "isStale", desc := "(LLivesAhead$Life;I)Z" } : Jvm.MethodName) : Cond) ∈ lw_g := lw_gm (i := 666) (by decide +kernel) (by decide +kernel)
theorem q667 : (.methodLink "LivesAhead" (252 : Nat) ({ cls := "LivesAhead$Desk", name := "worthOf", desc := "(LLivesAhead$Life;II)F" } : Jvm.MethodName) : Cond) ∈ lw_g := lw_gm (i := 667) (by decide +kernel) (by decide +kernel)
theorem q668 : (.methodLink "LivesAhead" (256 : Nat) ({ cls := "LivesAhead", name := "bitsOf", desc := "(F)I" } : Jvm.MethodName) : Cond) ∈ lw_g := lw_gm (i := 668) (by decide +kernel) (by decide +kernel)
theorem q669 : (.static ({ cls := "LivesAhead", name := "bitsOf", desc := "(F)I" } : Jvm.MethodName) : Cond) ∈ lw_g := lw_gm (i := 669) (by decide +kernel) (by decide +kernel)
theorem q670 : (.code ({ cls := "LivesAhead", name := "bitsOf", desc := "(F)I" } : Jvm.MethodName) prog_1_method_30_code (3 : Nat) (Option.some .int) : Cond) ∈ lw_g := lw_gm (i := 670) (by decide +kernel) (by decide +kernel)
theorem q671 : (.constantFloat "LivesAhead" (294 : Nat) (1258291200 : UInt32) : Cond) ∈ lw_g := lw_gm (i := 671) (by decide +kernel) (by decide +kernel)
theorem q672 : (.methodLink "LivesAheadLaw" (94 : Nat) ({ cls := "LivesAhead", name := "worth", desc := "(I)F" } : Jvm.MethodName) : Cond) ∈ lw_g := lw_gm (i := 672) (by decide +kernel) (by decide +kernel)
theorem q673 : (.instanceMethod ({ cls := "LivesAhead", name := "worth", desc := "(I)F" } : Jvm.MethodName) : Cond) ∈ lw_g := lw_gm (i := 673) (by decide +kernel) (by decide +kernel)
theorem q674 : (.selects "LivesAhead" ({ cls := "LivesAhead", name := "worth", desc := "(I)F" } : Jvm.MethodName) ({ cls := "LivesAhead", name := "worth", desc := "(I)F" } : Jvm.MethodName) : Cond) ∈ lw_g := lw_gm (i := 674) (by decide +kernel) (by decide +kernel)
theorem q675 : (.code ({ cls := "LivesAhead", name := "worth", desc := "(I)F" } : Jvm.MethodName) prog_1_method_21_code (3 : Nat) (Option.some .float) : Cond) ∈ lw_g := lw_gm (i := 675) (by decide +kernel) (by decide +kernel)
theorem q676 : (.constantFloat "LivesAhead" (260 : Nat) (3212836864 : UInt32) : Cond) ∈ lw_g := lw_gm (i := 676) (by decide +kernel) (by decide +kernel)
theorem q677 : (.methodLink "LivesAhead" (261 : Nat) ({ cls := "LivesAhead$Desk", name := "worthOfLife", desc := "(LLivesAhead$Life;)F" } : Jvm.MethodName) : Cond) ∈ lw_g := lw_gm (i := 677) (by decide +kernel) (by decide +kernel)
theorem q678 : (.instanceMethod ({ cls := "LivesAhead$Desk", name := "worthOfLife", desc := "(LLivesAhead$Life;)F" } : Jvm.MethodName) : Cond) ∈ lw_g := lw_gm (i := 678) (by decide +kernel) (by decide +kernel)
theorem q679 : (.selects "LivesAhead$Desk" ({ cls := "LivesAhead$Desk", name := "worthOfLife", desc := "(LLivesAhead$Life;)F" } : Jvm.MethodName) ({ cls := "LivesAhead$Desk", name := "worthOfLife", desc := "(LLivesAhead$Life;)F" } : Jvm.MethodName) : Cond) ∈ lw_g := lw_gm (i := 679) (by decide +kernel) (by decide +kernel)
theorem q680 : (.code ({ cls := "LivesAhead$Desk", name := "worthOfLife", desc := "(LLivesAhead$Life;)F" } : Jvm.MethodName) prog_2_method_20_code (4 : Nat) (Option.some .float) : Cond) ∈ lw_g := lw_gm (i := 680) (by decide +kernel) (by decide +kernel)
theorem q681 : (.methodLink "LivesAhead$Desk" (99 : Nat) ({ cls := "LivesAhead$Life", name := "linesOf", desc := "(I)I" } : Jvm.MethodName) : Cond) ∈ lw_g := lw_gm (i := 681) (by decide +kernel) (by decide +kernel)
theorem q682 : (.methodLink "LivesAheadLaw" (99 : Nat) ({ cls := "LivesAhead", name := "urgent", desc := "(I)I" } : Jvm.MethodName) : Cond) ∈ lw_g := lw_gm (i := 682) (by decide +kernel) (by decide +kernel)
theorem q683 : (.instanceMethod ({ cls := "LivesAhead", name := "urgent", desc := "(I)I" } : Jvm.MethodName) : Cond) ∈ lw_g := lw_gm (i := 683) (by decide +kernel) (by decide +kernel)
theorem q684 : (.selects "LivesAhead" ({ cls := "LivesAhead", name := "urgent", desc := "(I)I" } : Jvm.MethodName) ({ cls := "LivesAhead", name := "urgent", desc := "(I)I" } : Jvm.MethodName) : Cond) ∈ lw_g := lw_gm (i := 684) (by decide +kernel) (by decide +kernel)
theorem q685 : (.code ({ cls := "LivesAhead", name := "urgent", desc := "(I)I" } : Jvm.MethodName) prog_1_method_22_code (2 : Nat) (Option.some .int) : Cond) ∈ lw_g := lw_gm (i := 685) (by decide +kernel) (by decide +kernel)
theorem q686 : (.methodLink "LivesAhead" (265 : Nat) ({ cls := "LivesAhead$Desk", name := "rankUrgencies", desc := "(LLivesAhead$Ranking;)V" } : Jvm.MethodName) : Cond) ∈ lw_g := lw_gm (i := 686) (by decide +kernel) (by decide +kernel)
theorem q687 : (.instanceMethod ({ cls := "LivesAhead$Desk", name := "rankUrgencies", desc := "(LLivesAhead$Ranking;)V" } : Jvm.MethodName) : Cond) ∈ lw_g := lw_gm (i := 687) (by decide +kernel) (by decide +kernel)
theorem q688 : (.selects "LivesAhead$Desk" ({ cls := "LivesAhead$Desk", name := "rankUrgencies", desc := "(LLivesAhead$Ranking;)V" } : Jvm.MethodName) ({ cls := "LivesAhead$Desk", name := "rankUrgencies", desc := "(LLivesAhead$Ranking;)V" } : Jvm.MethodName) : Cond) ∈ lw_g := lw_gm (i := 688) (by decide +kernel) (by decide +kernel)
theorem q689 : (.code ({ cls := "LivesAhead$Desk", name := "rankUrgencies", desc := "(LLivesAhead$Ranking;)V" } : Jvm.MethodName) prog_2_method_29_code (4 : Nat) (Option.none : Option Jvm.ClassFile.FieldType) : Cond) ∈ lw_g := lw_gm (i := 689) (by decide +kernel) (by decide +kernel)
theorem q690 : (.methodLink "LivesAhead$Desk" (117 : Nat) ({ cls := "LivesAhead$Ranking", name := "clear", desc := "()V" } : Jvm.MethodName) : Cond) ∈ lw_g := lw_gm (i := 690) (by decide +kernel) (by decide +kernel)
theorem q691 : (.methodLink "LivesAhead$Desk" (126 : Nat) ({ cls := "LivesAhead$Ranking", name := "enter", desc := "(II)V" } : Jvm.MethodName) : Cond) ∈ lw_g := lw_gm (i := 691) (by decide +kernel) (by decide +kernel)
theorem q692 : (.methodLink "LivesAhead" (269 : Nat) ({ cls := "LivesAhead$Ranking", name := "personAt", desc := "(I)I" } : Jvm.MethodName) : Cond) ∈ lw_g := lw_gm (i := 692) (by decide +kernel) (by decide +kernel)
theorem q693 : (.methodLink "LivesAheadLaw" (104 : Nat) ({ cls := "LivesAhead", name := "page", desc := "(I)I" } : Jvm.MethodName) : Cond) ∈ lw_g := lw_gm (i := 693) (by decide +kernel) (by decide +kernel)
theorem q694 : (.instanceMethod ({ cls := "LivesAhead", name := "page", desc := "(I)I" } : Jvm.MethodName) : Cond) ∈ lw_g := lw_gm (i := 694) (by decide +kernel) (by decide +kernel)
theorem q695 : (.selects "LivesAhead" ({ cls := "LivesAhead", name := "page", desc := "(I)I" } : Jvm.MethodName) ({ cls := "LivesAhead", name := "page", desc := "(I)I" } : Jvm.MethodName) : Cond) ∈ lw_g := lw_gm (i := 695) (by decide +kernel) (by decide +kernel)
theorem q696 : (.code ({ cls := "LivesAhead", name := "page", desc := "(I)I" } : Jvm.MethodName) prog_1_method_23_code (2 : Nat) (Option.some .int) : Cond) ∈ lw_g := lw_gm (i := 696) (by decide +kernel) (by decide +kernel)
theorem q697 : (.methodLink "LivesAheadLaw" (108 : Nat) ({ cls := "LivesAhead", name := "source", desc := "(II)I" } : Jvm.MethodName) : Cond) ∈ lw_g := lw_gm (i := 697) (by decide +kernel) (by decide +kernel)
theorem q698 : (.instanceMethod ({ cls := "LivesAhead", name := "source", desc := "(II)I" } : Jvm.MethodName) : Cond) ∈ lw_g := lw_gm (i := 698) (by decide +kernel) (by decide +kernel)
theorem q699 : (.selects "LivesAhead" ({ cls := "LivesAhead", name := "source", desc := "(II)I" } : Jvm.MethodName) ({ cls := "LivesAhead", name := "source", desc := "(II)I" } : Jvm.MethodName) : Cond) ∈ lw_g := lw_gm (i := 699) (by decide +kernel) (by decide +kernel)
theorem q700 : (.code ({ cls := "LivesAhead", name := "source", desc := "(II)I" } : Jvm.MethodName) prog_1_method_24_code (3 : Nat) (Option.some .int) : Cond) ∈ lw_g := lw_gm (i := 700) (by decide +kernel) (by decide +kernel)
theorem q701 : (.methodLink "LivesAhead" (270 : Nat) ({ cls := "LivesAhead$Desk", name := "factsFrom", desc := "(I)I" } : Jvm.MethodName) : Cond) ∈ lw_g := lw_gm (i := 701) (by decide +kernel) (by decide +kernel)
theorem q702 : (.instanceMethod ({ cls := "LivesAhead$Desk", name := "factsFrom", desc := "(I)I" } : Jvm.MethodName) : Cond) ∈ lw_g := lw_gm (i := 702) (by decide +kernel) (by decide +kernel)
theorem q703 : (.selects "LivesAhead$Desk" ({ cls := "LivesAhead$Desk", name := "factsFrom", desc := "(I)I" } : Jvm.MethodName) ({ cls := "LivesAhead$Desk", name := "factsFrom", desc := "(I)I" } : Jvm.MethodName) : Cond) ∈ lw_g := lw_gm (i := 703) (by decide +kernel) (by decide +kernel)
theorem q704 : (.code ({ cls := "LivesAhead$Desk", name := "factsFrom", desc := "(I)I" } : Jvm.MethodName) prog_2_method_25_code (6 : Nat) (Option.some .int) : Cond) ∈ lw_g := lw_gm (i := 704) (by decide +kernel) (by decide +kernel)
theorem q705 : (.methodLink "LivesAhead" (273 : Nat) ({ cls := "LivesAhead$Desk", name := "staleFactsFrom", desc := "(I)I" } : Jvm.MethodName) : Cond) ∈ lw_g := lw_gm (i := 705) (by decide +kernel) (by decide +kernel)
theorem q706 : (.instanceMethod ({ cls := "LivesAhead$Desk", name := "staleFactsFrom", desc := "(I)I" } : Jvm.MethodName) : Cond) ∈ lw_g := lw_gm (i := 706) (by decide +kernel) (by decide +kernel)
theorem q707 : (.selects "LivesAhead$Desk" ({ cls := "LivesAhead$Desk", name := "staleFactsFrom", desc := "(I)I" } : Jvm.MethodName) ({ cls := "LivesAhead$Desk", name := "staleFactsFrom", desc := "(I)I" } : Jvm.MethodName) : Cond) ∈ lw_g := lw_gm (i := 707) (by decide +kernel) (by decide +kernel)
theorem q708 : (.code ({ cls := "LivesAhead$Desk", name := "staleFactsFrom", desc := "(I)I" } : Jvm.MethodName) prog_2_method_26_code (6 : Nat) (Option.some .int) : Cond) ∈ lw_g := lw_gm (i := 708) (by decide +kernel) (by decide +kernel)
theorem q709 : (.methodLink "LivesAhead" (276 : Nat) ({ cls := "LivesAhead$Desk", name := "linesFrom", desc := "(I)I" } : Jvm.MethodName) : Cond) ∈ lw_g := lw_gm (i := 709) (by decide +kernel) (by decide +kernel)
theorem q710 : (.instanceMethod ({ cls := "LivesAhead$Desk", name := "linesFrom", desc := "(I)I" } : Jvm.MethodName) : Cond) ∈ lw_g := lw_gm (i := 710) (by decide +kernel) (by decide +kernel)
theorem q711 : (.selects "LivesAhead$Desk" ({ cls := "LivesAhead$Desk", name := "linesFrom", desc := "(I)I" } : Jvm.MethodName) ({ cls := "LivesAhead$Desk", name := "linesFrom", desc := "(I)I" } : Jvm.MethodName) : Cond) ∈ lw_g := lw_gm (i := 711) (by decide +kernel) (by decide +kernel)
theorem q712 : (.code ({ cls := "LivesAhead$Desk", name := "linesFrom", desc := "(I)I" } : Jvm.MethodName) prog_2_method_27_code (6 : Nat) (Option.some .int) : Cond) ∈ lw_g := lw_gm (i := 712) (by decide +kernel) (by decide +kernel)
theorem q713 : (.methodLink "LivesAheadLaw" (112 : Nat) ({ cls := "LivesAhead", name := "staleIn", desc := "(I)I" } : Jvm.MethodName) : Cond) ∈ lw_g := lw_gm (i := 713) (by decide +kernel) (by decide +kernel)
theorem q714 : (.instanceMethod ({ cls := "LivesAhead", name := "staleIn", desc := "(I)I" } : Jvm.MethodName) : Cond) ∈ lw_g := lw_gm (i := 714) (by decide +kernel) (by decide +kernel)
theorem q715 : (.selects "LivesAhead" ({ cls := "LivesAhead", name := "staleIn", desc := "(I)I" } : Jvm.MethodName) ({ cls := "LivesAhead", name := "staleIn", desc := "(I)I" } : Jvm.MethodName) : Cond) ∈ lw_g := lw_gm (i := 715) (by decide +kernel) (by decide +kernel)
theorem q716 : (.code ({ cls := "LivesAhead", name := "staleIn", desc := "(I)I" } : Jvm.MethodName) prog_1_method_25_code (2 : Nat) (Option.some .int) : Cond) ∈ lw_g := lw_gm (i := 716) (by decide +kernel) (by decide +kernel)
theorem q717 : (.methodLink "LivesAhead" (279 : Nat) ({ cls := "LivesAhead$Desk", name := "staleFactsOn", desc := "(I)I" } : Jvm.MethodName) : Cond) ∈ lw_g := lw_gm (i := 717) (by decide +kernel) (by decide +kernel)
theorem q718 : (.instanceMethod ({ cls := "LivesAhead$Desk", name := "staleFactsOn", desc := "(I)I" } : Jvm.MethodName) : Cond) ∈ lw_g := lw_gm (i := 718) (by decide +kernel) (by decide +kernel)
theorem q719 : (.selects "LivesAhead$Desk" ({ cls := "LivesAhead$Desk", name := "staleFactsOn", desc := "(I)I" } : Jvm.MethodName) ({ cls := "LivesAhead$Desk", name := "staleFactsOn", desc := "(I)I" } : Jvm.MethodName) : Cond) ∈ lw_g := lw_gm (i := 719) (by decide +kernel) (by decide +kernel)
theorem q720 : (.code ({ cls := "LivesAhead$Desk", name := "staleFactsOn", desc := "(I)I" } : Jvm.MethodName) prog_2_method_24_code (5 : Nat) (Option.some .int) : Cond) ∈ lw_g := lw_gm (i := 720) (by decide +kernel) (by decide +kernel)
theorem q721 : (.methodLink "LivesAheadLaw" (116 : Nat) ({ cls := "LivesAhead", name := "count", desc := "(I)I" } : Jvm.MethodName) : Cond) ∈ lw_g := lw_gm (i := 721) (by decide +kernel) (by decide +kernel)
theorem q722 : (.instanceMethod ({ cls := "LivesAhead", name := "count", desc := "(I)I" } : Jvm.MethodName) : Cond) ∈ lw_g := lw_gm (i := 722) (by decide +kernel) (by decide +kernel)
theorem q723 : (.selects "LivesAhead" ({ cls := "LivesAhead", name := "count", desc := "(I)I" } : Jvm.MethodName) ({ cls := "LivesAhead", name := "count", desc := "(I)I" } : Jvm.MethodName) : Cond) ∈ lw_g := lw_gm (i := 723) (by decide +kernel) (by decide +kernel)
theorem q724 : (.code ({ cls := "LivesAhead", name := "count", desc := "(I)I" } : Jvm.MethodName) prog_1_method_26_code (2 : Nat) (Option.some .int) : Cond) ∈ lw_g := lw_gm (i := 724) (by decide +kernel) (by decide +kernel)
theorem q725 : (.methodLink "LivesAhead" (282 : Nat) ({ cls := "LivesAhead$Desk", name := "persons", desc := "()I" } : Jvm.MethodName) : Cond) ∈ lw_g := lw_gm (i := 725) (by decide +kernel) (by decide +kernel)
theorem q726 : (.methodLink "LivesAhead" (285 : Nat) ({ cls := "LivesAhead$Desk", name := "facts", desc := "()I" } : Jvm.MethodName) : Cond) ∈ lw_g := lw_gm (i := 726) (by decide +kernel) (by decide +kernel)
theorem q727 : (.instanceMethod ({ cls := "LivesAhead$Desk", name := "facts", desc := "()I" } : Jvm.MethodName) : Cond) ∈ lw_g := lw_gm (i := 727) (by decide +kernel) (by decide +kernel)
theorem q728 : (.selects "LivesAhead$Desk" ({ cls := "LivesAhead$Desk", name := "facts", desc := "()I" } : Jvm.MethodName) ({ cls := "LivesAhead$Desk", name := "facts", desc := "()I" } : Jvm.MethodName) : Cond) ∈ lw_g := lw_gm (i := 728) (by decide +kernel) (by decide +kernel)
theorem q729 : (.code ({ cls := "LivesAhead$Desk", name := "facts", desc := "()I" } : Jvm.MethodName) prog_2_method_18_code (4 : Nat) (Option.some .int) : Cond) ∈ lw_g := lw_gm (i := 729) (by decide +kernel) (by decide +kernel)
theorem q730 : (.methodLink "LivesAhead" (288 : Nat) ({ cls := "LivesAhead$Page", name := "linesFree", desc := "()I" } : Jvm.MethodName) : Cond) ∈ lw_g := lw_gm (i := 730) (by decide +kernel) (by decide +kernel)
theorem q731 : (.instanceMethod ({ cls := "LivesAhead$Page", name := "linesFree", desc := "()I" } : Jvm.MethodName) : Cond) ∈ lw_g := lw_gm (i := 731) (by decide +kernel) (by decide +kernel)
theorem q732 : (.selects "LivesAhead$Page" ({ cls := "LivesAhead$Page", name := "linesFree", desc := "()I" } : Jvm.MethodName) ({ cls := "LivesAhead$Page", name := "linesFree", desc := "()I" } : Jvm.MethodName) : Cond) ∈ lw_g := lw_gm (i := 732) (by decide +kernel) (by decide +kernel)
theorem q733 : (.code ({ cls := "LivesAhead$Page", name := "linesFree", desc := "()I" } : Jvm.MethodName) prog_5_method_4_code (1 : Nat) (Option.some .int) : Cond) ∈ lw_g := lw_gm (i := 733) (by decide +kernel) (by decide +kernel)
theorem q734 : (.methodLink "LivesAhead" (291 : Nat) ({ cls := "LivesAhead$Desk", name := "corrections", desc := "()I" } : Jvm.MethodName) : Cond) ∈ lw_g := lw_gm (i := 734) (by decide +kernel) (by decide +kernel)
theorem q735 : (.instanceMethod ({ cls := "LivesAhead$Desk", name := "corrections", desc := "()I" } : Jvm.MethodName) : Cond) ∈ lw_g := lw_gm (i := 735) (by decide +kernel) (by decide +kernel)
theorem q736 : (.selects "LivesAhead$Desk" ({ cls := "LivesAhead$Desk", name := "corrections", desc := "()I" } : Jvm.MethodName) ({ cls := "LivesAhead$Desk", name := "corrections", desc := "()I" } : Jvm.MethodName) : Cond) ∈ lw_g := lw_gm (i := 736) (by decide +kernel) (by decide +kernel)
theorem q737 : (.code ({ cls := "LivesAhead$Desk", name := "corrections", desc := "()I" } : Jvm.MethodName) prog_2_method_6_code (1 : Nat) (Option.some .int) : Cond) ∈ lw_g := lw_gm (i := 737) (by decide +kernel) (by decide +kernel)
theorem q738 : (.classLink "LivesAheadLaw" (10 : Nat) "LivesAheadModel" : Cond) ∈ lw_g := lw_gm (i := 738) (by decide +kernel) (by decide +kernel)
theorem q739 : (.instantiable "LivesAheadModel" (14 : Nat) : Cond) ∈ lw_g := lw_gm (i := 739) (by decide +kernel) (by decide +kernel)
theorem q740 : (.methodLink "LivesAheadLaw" (12 : Nat) ({ cls := "LivesAheadModel", name := "<init>", desc := "()V" } : Jvm.MethodName) : Cond) ∈ lw_g := lw_gm (i := 740) (by decide +kernel) (by decide +kernel)
theorem q741 : (.instanceMethod ({ cls := "LivesAheadModel", name := "<init>", desc := "()V" } : Jvm.MethodName) : Cond) ∈ lw_g := lw_gm (i := 741) (by decide +kernel) (by decide +kernel)
theorem q742 : (.code ({ cls := "LivesAheadModel", name := "<init>", desc := "()V" } : Jvm.MethodName) prog_9_method_1_code (2 : Nat) (Option.none : Option Jvm.ClassFile.FieldType) : Cond) ∈ lw_g := lw_gm (i := 742) (by decide +kernel) (by decide +kernel)
theorem q743 : (.methodLink "LivesAheadModel" (1 : Nat) ({ cls := "java/lang/Object", name := "<init>", desc := "()V" } : Jvm.MethodName) : Cond) ∈ lw_g := lw_gm (i := 743) (by decide +kernel) (by decide +kernel)
theorem q744 : (.fieldLink "LivesAheadModel" (7 : Nat) "LivesAheadModel" "s" "[I" : Cond) ∈ lw_g := lw_gm (i := 744) (by decide +kernel) (by decide +kernel)
theorem q745 : (.fieldLink "LivesAheadModel" (13 : Nat) "LivesAheadModel" "before" "[I" : Cond) ∈ lw_g := lw_gm (i := 745) (by decide +kernel) (by decide +kernel)
theorem q746 : (.fieldLink "LivesAheadModel" (16 : Nat) "LivesAheadModel" "kept" "[I" : Cond) ∈ lw_g := lw_gm (i := 746) (by decide +kernel) (by decide +kernel)
theorem q747 : (.fieldLink "LivesAheadModel" (19 : Nat) "LivesAheadModel" "page" "[I" : Cond) ∈ lw_g := lw_gm (i := 747) (by decide +kernel) (by decide +kernel)
theorem q748 : (.fieldLink "LivesAheadModel" (22 : Nat) "LivesAheadModel" "seen" "[Z" : Cond) ∈ lw_g := lw_gm (i := 748) (by decide +kernel) (by decide +kernel)
theorem q749 : (.fieldLink "LivesAheadModel" (135 : Nat) "LivesAheadModel" "pageMany" "I" : Cond) ∈ lw_g := lw_gm (i := 749) (by decide +kernel) (by decide +kernel)
theorem q750 : (.fieldLink "LivesAheadModel" (138 : Nat) "LivesAheadModel" "free" "I" : Cond) ∈ lw_g := lw_gm (i := 750) (by decide +kernel) (by decide +kernel)
theorem q751 : (.fieldLink "LivesAheadModel" (26 : Nat) "LivesAheadModel" "text" "[C" : Cond) ∈ lw_g := lw_gm (i := 751) (by decide +kernel) (by decide +kernel)
theorem q752 : (.fieldLink "LivesAheadModel" (77 : Nat) "LivesAheadModel" "length" "I" : Cond) ∈ lw_g := lw_gm (i := 752) (by decide +kernel) (by decide +kernel)
theorem q753 : (.fieldLink "LivesAheadModel" (33 : Nat) "LivesAheadModel" "states" "I" : Cond) ∈ lw_g := lw_gm (i := 753) (by decide +kernel) (by decide +kernel)
theorem q754 : (.fieldLink "LivesAheadModel" (153 : Nat) "LivesAheadModel" "isKept" "Z" : Cond) ∈ lw_g := lw_gm (i := 754) (by decide +kernel) (by decide +kernel)
theorem q755 : (.fieldLink "LivesAheadModel" (30 : Nat) "LivesAheadModel" "read" "[I" : Cond) ∈ lw_g := lw_gm (i := 755) (by decide +kernel) (by decide +kernel)
theorem q756 : (.fieldLink "LivesAheadModel" (80 : Nat) "LivesAheadModel" "at" "I" : Cond) ∈ lw_g := lw_gm (i := 756) (by decide +kernel) (by decide +kernel)
theorem q757 : (.fieldLink "LivesAheadModel" (95 : Nat) "LivesAheadModel" "persons" "I" : Cond) ∈ lw_g := lw_gm (i := 757) (by decide +kernel) (by decide +kernel)
theorem q758 : (.laysFinal "LivesAheadModel" "LivesAheadModel" "s" "[I" : Cond) ∈ lw_g := lw_gm (i := 758) (by decide +kernel) (by decide +kernel)
theorem q760 : (.laysFinal "LivesAheadModel" "LivesAheadModel" "before" "[I" : Cond) ∈ lw_g := lw_gm (i := 760) (by decide +kernel) (by decide +kernel)
theorem q762 : (.laysFinal "LivesAheadModel" "LivesAheadModel" "kept" "[I" : Cond) ∈ lw_g := lw_gm (i := 762) (by decide +kernel) (by decide +kernel)
theorem q764 : (.laysFinal "LivesAheadModel" "LivesAheadModel" "page" "[I" : Cond) ∈ lw_g := lw_gm (i := 764) (by decide +kernel) (by decide +kernel)
theorem q766 : (.laysFinal "LivesAheadModel" "LivesAheadModel" "seen" "[Z" : Cond) ∈ lw_g := lw_gm (i := 766) (by decide +kernel) (by decide +kernel)
theorem q768 : (.lays "LivesAheadModel" "LivesAheadModel" "pageMany" "I" : Cond) ∈ lw_g := lw_gm (i := 768) (by decide +kernel) (by decide +kernel)
theorem q770 : (.lays "LivesAheadModel" "LivesAheadModel" "free" "I" : Cond) ∈ lw_g := lw_gm (i := 770) (by decide +kernel) (by decide +kernel)
theorem q772 : (.laysFinal "LivesAheadModel" "LivesAheadModel" "text" "[C" : Cond) ∈ lw_g := lw_gm (i := 772) (by decide +kernel) (by decide +kernel)
theorem q774 : (.lays "LivesAheadModel" "LivesAheadModel" "length" "I" : Cond) ∈ lw_g := lw_gm (i := 774) (by decide +kernel) (by decide +kernel)
theorem q776 : (.lays "LivesAheadModel" "LivesAheadModel" "states" "I" : Cond) ∈ lw_g := lw_gm (i := 776) (by decide +kernel) (by decide +kernel)
theorem q778 : (.lays "LivesAheadModel" "LivesAheadModel" "isKept" "Z" : Cond) ∈ lw_g := lw_gm (i := 778) (by decide +kernel) (by decide +kernel)
theorem q780 : (.laysFinal "LivesAheadModel" "LivesAheadModel" "read" "[I" : Cond) ∈ lw_g := lw_gm (i := 780) (by decide +kernel) (by decide +kernel)
theorem q782 : (.lays "LivesAheadModel" "LivesAheadModel" "at" "I" : Cond) ∈ lw_g := lw_gm (i := 782) (by decide +kernel) (by decide +kernel)
theorem q784 : (.lays "LivesAheadModel" "LivesAheadModel" "persons" "I" : Cond) ∈ lw_g := lw_gm (i := 784) (by decide +kernel) (by decide +kernel)
theorem q787 : (.arrayClass .boolean : Cond) ∈ lw_g := lw_gm (i := 787) (by decide +kernel) (by decide +kernel)
theorem q788 : (.methodLink "LivesAheadLaw" (17 : Nat) ({ cls := "LivesAheadModel", name := "addPerson", desc := "(II)I" } : Jvm.MethodName) : Cond) ∈ lw_g := lw_gm (i := 788) (by decide +kernel) (by decide +kernel)
theorem q789 : (.instanceMethod ({ cls := "LivesAheadModel", name := "addPerson", desc := "(II)I" } : Jvm.MethodName) : Cond) ∈ lw_g := lw_gm (i := 789) (by decide +kernel) (by decide +kernel)
theorem q790 : (.selects "LivesAheadModel" ({ cls := "LivesAheadModel", name := "addPerson", desc := "(II)I" } : Jvm.MethodName) ({ cls := "LivesAheadModel", name := "addPerson", desc := "(II)I" } : Jvm.MethodName) : Cond) ∈ lw_g := lw_gm (i := 790) (by decide +kernel) (by decide +kernel)
theorem q791 : (.code ({ cls := "LivesAheadModel", name := "addPerson", desc := "(II)I" } : Jvm.MethodName) prog_9_method_18_code (3 : Nat) (Option.some .int) : Cond) ∈ lw_g := lw_gm (i := 791) (by decide +kernel) (by decide +kernel)
theorem q792 : (.methodLink "LivesAheadModel" (41 : Nat) ({ cls := "LivesAheadModel", name := "in", desc := "(III)Z" } : Jvm.MethodName) : Cond) ∈ lw_g := lw_gm (i := 792) (by decide +kernel) (by decide +kernel)
theorem q793 : (.static ({ cls := "LivesAheadModel", name := "in", desc := "(III)Z" } : Jvm.MethodName) : Cond) ∈ lw_g := lw_gm (i := 793) (by decide +kernel) (by decide +kernel)
theorem q794 : (.code ({ cls := "LivesAheadModel", name := "in", desc := "(III)Z" } : Jvm.MethodName) prog_9_method_2_code (3 : Nat) (Option.some .boolean) : Cond) ∈ lw_g := lw_gm (i := 794) (by decide +kernel) (by decide +kernel)
theorem q795 : (.methodLink "LivesAheadModel" (71 : Nat) ({ cls := "LivesAheadModel", name := "record", desc := "()V" } : Jvm.MethodName) : Cond) ∈ lw_g := lw_gm (i := 795) (by decide +kernel) (by decide +kernel)
theorem q797 : (.instanceMethod ({ cls := "LivesAheadModel", name := "record", desc := "()V" } : Jvm.MethodName) : Cond) ∈ lw_g := lw_gm (i := 797) (by decide +kernel) (by decide +kernel)
theorem q798 : (.code ({ cls := "LivesAheadModel", name := "record", desc := "()V" } : Jvm.MethodName) prog_9_method_3_code (2 : Nat) (Option.none : Option Jvm.ClassFile.FieldType) : Cond) ∈ lw_g := lw_gm (i := 798) (by decide +kernel) (by decide +kernel)
theorem q799 : (.methodLink "LivesAheadModel" (74 : Nat) ({ cls := "LivesAheadModel", name := "come", desc := "(II)I" } : Jvm.MethodName) : Cond) ∈ lw_g := lw_gm (i := 799) (by decide +kernel) (by decide +kernel)
theorem q801 : (.instanceMethod ({ cls := "LivesAheadModel", name := "come", desc := "(II)I" } : Jvm.MethodName) : Cond) ∈ lw_g := lw_gm (i := 801) (by decide +kernel) (by decide +kernel)
theorem q802 : (.code ({ cls := "LivesAheadModel", name := "come", desc := "(II)I" } : Jvm.MethodName) prog_9_method_16_code (4 : Nat) (Option.some .int) : Cond) ∈ lw_g := lw_gm (i := 802) (by decide +kernel) (by decide +kernel)
theorem q803 : (.methodLink "LivesAheadModel" (37 : Nat) ({ cls := "LivesAheadModel", name := "p", desc := "(I)I" } : Jvm.MethodName) : Cond) ∈ lw_g := lw_gm (i := 803) (by decide +kernel) (by decide +kernel)
theorem q804 : (.static ({ cls := "LivesAheadModel", name := "p", desc := "(I)I" } : Jvm.MethodName) : Cond) ∈ lw_g := lw_gm (i := 804) (by decide +kernel) (by decide +kernel)
theorem q805 : (.code ({ cls := "LivesAheadModel", name := "p", desc := "(I)I" } : Jvm.MethodName) prog_9_method_4_code (1 : Nat) (Option.some .int) : Cond) ∈ lw_g := lw_gm (i := 805) (by decide +kernel) (by decide +kernel)
theorem q806 : (.methodLink "LivesAheadLaw" (22 : Nat) ({ cls := "LivesAheadModel", name := "addPersons", desc := "()I" } : Jvm.MethodName) : Cond) ∈ lw_g := lw_gm (i := 806) (by decide +kernel) (by decide +kernel)
theorem q807 : (.instanceMethod ({ cls := "LivesAheadModel", name := "addPersons", desc := "()I" } : Jvm.MethodName) : Cond) ∈ lw_g := lw_gm (i := 807) (by decide +kernel) (by decide +kernel)
theorem q808 : (.selects "LivesAheadModel" ({ cls := "LivesAheadModel", name := "addPersons", desc := "()I" } : Jvm.MethodName) ({ cls := "LivesAheadModel", name := "addPersons", desc := "()I" } : Jvm.MethodName) : Cond) ∈ lw_g := lw_gm (i := 808) (by decide +kernel) (by decide +kernel)
theorem q809 : (.code ({ cls := "LivesAheadModel", name := "addPersons", desc := "()I" } : Jvm.MethodName) prog_9_method_26_code (5 : Nat) (Option.some .int) : Cond) ∈ lw_g := lw_gm (i := 809) (by decide +kernel) (by decide +kernel)
theorem q810 : (.methodLink "LivesAheadModel" (109 : Nat) ({ cls := "LivesAheadModel", name := "faultOf", desc := "()I" } : Jvm.MethodName) : Cond) ∈ lw_g := lw_gm (i := 810) (by decide +kernel) (by decide +kernel)
theorem q812 : (.instanceMethod ({ cls := "LivesAheadModel", name := "faultOf", desc := "()I" } : Jvm.MethodName) : Cond) ∈ lw_g := lw_gm (i := 812) (by decide +kernel) (by decide +kernel)
theorem q813 : (.code ({ cls := "LivesAheadModel", name := "faultOf", desc := "()I" } : Jvm.MethodName) prog_9_method_25_code (2 : Nat) (Option.some .int) : Cond) ∈ lw_g := lw_gm (i := 813) (by decide +kernel) (by decide +kernel)
theorem q814 : (.methodLink "LivesAheadModel" (105 : Nat) ({ cls := "LivesAheadModel", name := "readsPerson", desc := "()Z" } : Jvm.MethodName) : Cond) ∈ lw_g := lw_gm (i := 814) (by decide +kernel) (by decide +kernel)
theorem q816 : (.instanceMethod ({ cls := "LivesAheadModel", name := "readsPerson", desc := "()Z" } : Jvm.MethodName) : Cond) ∈ lw_g := lw_gm (i := 816) (by decide +kernel) (by decide +kernel)
theorem q817 : (.code ({ cls := "LivesAheadModel", name := "readsPerson", desc := "()Z" } : Jvm.MethodName) prog_9_method_24_code (3 : Nat) (Option.some .boolean) : Cond) ∈ lw_g := lw_gm (i := 817) (by decide +kernel) (by decide +kernel)
theorem q818 : (.methodLink "LivesAheadModel" (98 : Nat) ({ cls := "LivesAheadModel", name := "age", desc := "()I" } : Jvm.MethodName) : Cond) ∈ lw_g := lw_gm (i := 818) (by decide +kernel) (by decide +kernel)
theorem q820 : (.instanceMethod ({ cls := "LivesAheadModel", name := "age", desc := "()I" } : Jvm.MethodName) : Cond) ∈ lw_g := lw_gm (i := 820) (by decide +kernel) (by decide +kernel)
theorem q821 : (.code ({ cls := "LivesAheadModel", name := "age", desc := "()I" } : Jvm.MethodName) prog_9_method_22_code (2 : Nat) (Option.some .int) : Cond) ∈ lw_g := lw_gm (i := 821) (by decide +kernel) (by decide +kernel)
theorem q822 : (.methodLink "LivesAheadModel" (87 : Nat) ({ cls := "LivesAheadModel", name := "digit", desc := "(CC)I" } : Jvm.MethodName) : Cond) ∈ lw_g := lw_gm (i := 822) (by decide +kernel) (by decide +kernel)
theorem q824 : (.instanceMethod ({ cls := "LivesAheadModel", name := "digit", desc := "(CC)I" } : Jvm.MethodName) : Cond) ∈ lw_g := lw_gm (i := 824) (by decide +kernel) (by decide +kernel)
theorem q825 : (.code ({ cls := "LivesAheadModel", name := "digit", desc := "(CC)I" } : Jvm.MethodName) prog_9_method_21_code (3 : Nat) (Option.some .int) : Cond) ∈ lw_g := lw_gm (i := 825) (by decide +kernel) (by decide +kernel)
theorem q826 : (.methodLink "LivesAheadModel" (83 : Nat) ({ cls := "LivesAheadModel", name := "isSign", desc := "(ICC)Z" } : Jvm.MethodName) : Cond) ∈ lw_g := lw_gm (i := 826) (by decide +kernel) (by decide +kernel)
theorem q828 : (.instanceMethod ({ cls := "LivesAheadModel", name := "isSign", desc := "(ICC)Z" } : Jvm.MethodName) : Cond) ∈ lw_g := lw_gm (i := 828) (by decide +kernel) (by decide +kernel)
theorem q829 : (.code ({ cls := "LivesAheadModel", name := "isSign", desc := "(ICC)Z" } : Jvm.MethodName) prog_9_method_19_code (4 : Nat) (Option.some .boolean) : Cond) ∈ lw_g := lw_gm (i := 829) (by decide +kernel) (by decide +kernel)
theorem q830 : (.methodLink "LivesAheadModel" (91 : Nat) ({ cls := "LivesAheadModel", name := "accepts", desc := "(C)Z" } : Jvm.MethodName) : Cond) ∈ lw_g := lw_gm (i := 830) (by decide +kernel) (by decide +kernel)
theorem q832 : (.instanceMethod ({ cls := "LivesAheadModel", name := "accepts", desc := "(C)Z" } : Jvm.MethodName) : Cond) ∈ lw_g := lw_gm (i := 832) (by decide +kernel) (by decide +kernel)
theorem q833 : (.code ({ cls := "LivesAheadModel", name := "accepts", desc := "(C)Z" } : Jvm.MethodName) prog_9_method_20_code (3 : Nat) (Option.some .boolean) : Cond) ∈ lw_g := lw_gm (i := 833) (by decide +kernel) (by decide +kernel)
theorem q834 : (.methodLink "LivesAheadModel" (102 : Nat) ({ cls := "LivesAheadModel", name := "readsFact", desc := "(I)Z" } : Jvm.MethodName) : Cond) ∈ lw_g := lw_gm (i := 834) (by decide +kernel) (by decide +kernel)
theorem q836 : (.instanceMethod ({ cls := "LivesAheadModel", name := "readsFact", desc := "(I)Z" } : Jvm.MethodName) : Cond) ∈ lw_g := lw_gm (i := 836) (by decide +kernel) (by decide +kernel)
theorem q837 : (.code ({ cls := "LivesAheadModel", name := "readsFact", desc := "(I)Z" } : Jvm.MethodName) prog_9_method_23_code (3 : Nat) (Option.some .boolean) : Cond) ∈ lw_g := lw_gm (i := 837) (by decide +kernel) (by decide +kernel)
theorem q838 : (.methodLink "LivesAheadModel" (112 : Nat) ({ cls := "LivesAheadModel", name := "add", desc := "(III)V" } : Jvm.MethodName) : Cond) ∈ lw_g := lw_gm (i := 838) (by decide +kernel) (by decide +kernel)
theorem q840 : (.instanceMethod ({ cls := "LivesAheadModel", name := "add", desc := "(III)V" } : Jvm.MethodName) : Cond) ∈ lw_g := lw_gm (i := 840) (by decide +kernel) (by decide +kernel)
theorem q841 : (.code ({ cls := "LivesAheadModel", name := "add", desc := "(III)V" } : Jvm.MethodName) prog_9_method_17_code (5 : Nat) (Option.none : Option Jvm.ClassFile.FieldType) : Cond) ∈ lw_g := lw_gm (i := 841) (by decide +kernel) (by decide +kernel)
theorem q842 : (.methodLink "LivesAheadModel" (49 : Nat) ({ cls := "LivesAheadModel", name := "of", desc := "(II)I" } : Jvm.MethodName) : Cond) ∈ lw_g := lw_gm (i := 842) (by decide +kernel) (by decide +kernel)
theorem q844 : (.instanceMethod ({ cls := "LivesAheadModel", name := "of", desc := "(II)I" } : Jvm.MethodName) : Cond) ∈ lw_g := lw_gm (i := 844) (by decide +kernel) (by decide +kernel)
theorem q845 : (.code ({ cls := "LivesAheadModel", name := "of", desc := "(II)I" } : Jvm.MethodName) prog_9_method_6_code (3 : Nat) (Option.some .int) : Cond) ∈ lw_g := lw_gm (i := 845) (by decide +kernel) (by decide +kernel)
theorem q846 : (.methodLink "LivesAheadModel" (53 : Nat) ({ cls := "LivesAheadModel", name := "f", desc := "(II)I" } : Jvm.MethodName) : Cond) ∈ lw_g := lw_gm (i := 846) (by decide +kernel) (by decide +kernel)
theorem q847 : (.static ({ cls := "LivesAheadModel", name := "f", desc := "(II)I" } : Jvm.MethodName) : Cond) ∈ lw_g := lw_gm (i := 847) (by decide +kernel) (by decide +kernel)
theorem q848 : (.code ({ cls := "LivesAheadModel", name := "f", desc := "(II)I" } : Jvm.MethodName) prog_9_method_5_code (2 : Nat) (Option.some .int) : Cond) ∈ lw_g := lw_gm (i := 848) (by decide +kernel) (by decide +kernel)
theorem q849 : (.methodLink "LivesAheadLaw" (27 : Nat) ({ cls := "LivesAheadModel", name := "write", desc := "(III)I" } : Jvm.MethodName) : Cond) ∈ lw_g := lw_gm (i := 849) (by decide +kernel) (by decide +kernel)
theorem q850 : (.instanceMethod ({ cls := "LivesAheadModel", name := "write", desc := "(III)I" } : Jvm.MethodName) : Cond) ∈ lw_g := lw_gm (i := 850) (by decide +kernel) (by decide +kernel)
theorem q851 : (.selects "LivesAheadModel" ({ cls := "LivesAheadModel", name := "write", desc := "(III)I" } : Jvm.MethodName) ({ cls := "LivesAheadModel", name := "write", desc := "(III)I" } : Jvm.MethodName) : Cond) ∈ lw_g := lw_gm (i := 851) (by decide +kernel) (by decide +kernel)
theorem q852 : (.code ({ cls := "LivesAheadModel", name := "write", desc := "(III)I" } : Jvm.MethodName) prog_9_method_27_code (4 : Nat) (Option.some .int) : Cond) ∈ lw_g := lw_gm (i := 852) (by decide +kernel) (by decide +kernel)
theorem q853 : (.methodLink "LivesAheadModel" (45 : Nat) ({ cls := "LivesAheadModel", name := "isPerson", desc := "(I)Z" } : Jvm.MethodName) : Cond) ∈ lw_g := lw_gm (i := 853) (by decide +kernel) (by decide +kernel)
theorem q855 : (.instanceMethod ({ cls := "LivesAheadModel", name := "isPerson", desc := "(I)Z" } : Jvm.MethodName) : Cond) ∈ lw_g := lw_gm (i := 855) (by decide +kernel) (by decide +kernel)
theorem q856 : (.code ({ cls := "LivesAheadModel", name := "isPerson", desc := "(I)Z" } : Jvm.MethodName) prog_9_method_7_code (2 : Nat) (Option.some .boolean) : Cond) ∈ lw_g := lw_gm (i := 856) (by decide +kernel) (by decide +kernel)
theorem q857 : (.methodLink "LivesAheadLaw" (31 : Nat) ({ cls := "LivesAheadModel", name := "check", desc := "(II)I" } : Jvm.MethodName) : Cond) ∈ lw_g := lw_gm (i := 857) (by decide +kernel) (by decide +kernel)
theorem q858 : (.instanceMethod ({ cls := "LivesAheadModel", name := "check", desc := "(II)I" } : Jvm.MethodName) : Cond) ∈ lw_g := lw_gm (i := 858) (by decide +kernel) (by decide +kernel)
theorem q859 : (.selects "LivesAheadModel" ({ cls := "LivesAheadModel", name := "check", desc := "(II)I" } : Jvm.MethodName) ({ cls := "LivesAheadModel", name := "check", desc := "(II)I" } : Jvm.MethodName) : Cond) ∈ lw_g := lw_gm (i := 859) (by decide +kernel) (by decide +kernel)
theorem q860 : (.code ({ cls := "LivesAheadModel", name := "check", desc := "(II)I" } : Jvm.MethodName) prog_9_method_28_code (3 : Nat) (Option.some .int) : Cond) ∈ lw_g := lw_gm (i := 860) (by decide +kernel) (by decide +kernel)
theorem q861 : (.methodLink "LivesAheadModel" (116 : Nat) ({ cls := "LivesAheadModel", name := "isFact", desc := "(II)Z" } : Jvm.MethodName) : Cond) ∈ lw_g := lw_gm (i := 861) (by decide +kernel) (by decide +kernel)
theorem q863 : (.instanceMethod ({ cls := "LivesAheadModel", name := "isFact", desc := "(II)Z" } : Jvm.MethodName) : Cond) ∈ lw_g := lw_gm (i := 863) (by decide +kernel) (by decide +kernel)
theorem q864 : (.code ({ cls := "LivesAheadModel", name := "isFact", desc := "(II)Z" } : Jvm.MethodName) prog_9_method_8_code (3 : Nat) (Option.some .boolean) : Cond) ∈ lw_g := lw_gm (i := 864) (by decide +kernel) (by decide +kernel)
theorem q865 : (.methodLink "LivesAheadLaw" (35 : Nat) ({ cls := "LivesAheadModel", name := "strike", desc := "(II)I" } : Jvm.MethodName) : Cond) ∈ lw_g := lw_gm (i := 865) (by decide +kernel) (by decide +kernel)
theorem q866 : (.instanceMethod ({ cls := "LivesAheadModel", name := "strike", desc := "(II)I" } : Jvm.MethodName) : Cond) ∈ lw_g := lw_gm (i := 866) (by decide +kernel) (by decide +kernel)
theorem q867 : (.selects "LivesAheadModel" ({ cls := "LivesAheadModel", name := "strike", desc := "(II)I" } : Jvm.MethodName) ({ cls := "LivesAheadModel", name := "strike", desc := "(II)I" } : Jvm.MethodName) : Cond) ∈ lw_g := lw_gm (i := 867) (by decide +kernel) (by decide +kernel)
theorem q868 : (.code ({ cls := "LivesAheadModel", name := "strike", desc := "(II)I" } : Jvm.MethodName) prog_9_method_29_code (4 : Nat) (Option.some .int) : Cond) ∈ lw_g := lw_gm (i := 868) (by decide +kernel) (by decide +kernel)
theorem q869 : (.methodLink "LivesAheadLaw" (39 : Nat) ({ cls := "LivesAheadModel", name := "checkUrgent", desc := "()I" } : Jvm.MethodName) : Cond) ∈ lw_g := lw_gm (i := 869) (by decide +kernel) (by decide +kernel)
theorem q870 : (.instanceMethod ({ cls := "LivesAheadModel", name := "checkUrgent", desc := "()I" } : Jvm.MethodName) : Cond) ∈ lw_g := lw_gm (i := 870) (by decide +kernel) (by decide +kernel)
theorem q871 : (.selects "LivesAheadModel" ({ cls := "LivesAheadModel", name := "checkUrgent", desc := "()I" } : Jvm.MethodName) ({ cls := "LivesAheadModel", name := "checkUrgent", desc := "()I" } : Jvm.MethodName) : Cond) ∈ lw_g := lw_gm (i := 871) (by decide +kernel) (by decide +kernel)
theorem q872 : (.code ({ cls := "LivesAheadModel", name := "checkUrgent", desc := "()I" } : Jvm.MethodName) prog_9_method_32_code (3 : Nat) (Option.some .int) : Cond) ∈ lw_g := lw_gm (i := 872) (by decide +kernel) (by decide +kernel)
theorem q873 : (.methodLink "LivesAheadModel" (126 : Nat) ({ cls := "LivesAheadModel", name := "mostUrgent", desc := "()I" } : Jvm.MethodName) : Cond) ∈ lw_g := lw_gm (i := 873) (by decide +kernel) (by decide +kernel)
theorem q875 : (.instanceMethod ({ cls := "LivesAheadModel", name := "mostUrgent", desc := "()I" } : Jvm.MethodName) : Cond) ∈ lw_g := lw_gm (i := 875) (by decide +kernel) (by decide +kernel)
theorem q876 : (.code ({ cls := "LivesAheadModel", name := "mostUrgent", desc := "()I" } : Jvm.MethodName) prog_9_method_31_code (4 : Nat) (Option.some .int) : Cond) ∈ lw_g := lw_gm (i := 876) (by decide +kernel) (by decide +kernel)
theorem q877 : (.methodLink "LivesAheadModel" (120 : Nat) ({ cls := "LivesAheadModel", name := "due", desc := "(I)I" } : Jvm.MethodName) : Cond) ∈ lw_g := lw_gm (i := 877) (by decide +kernel) (by decide +kernel)
theorem q879 : (.instanceMethod ({ cls := "LivesAheadModel", name := "due", desc := "(I)I" } : Jvm.MethodName) : Cond) ∈ lw_g := lw_gm (i := 879) (by decide +kernel) (by decide +kernel)
theorem q880 : (.code ({ cls := "LivesAheadModel", name := "due", desc := "(I)I" } : Jvm.MethodName) prog_9_method_30_code (4 : Nat) (Option.some .int) : Cond) ∈ lw_g := lw_gm (i := 880) (by decide +kernel) (by decide +kernel)
theorem q881 : (.methodLink "LivesAheadModel" (62 : Nat) ({ cls := "LivesAheadModel", name := "isStaleOn", desc := "(III)Z" } : Jvm.MethodName) : Cond) ∈ lw_g := lw_gm (i := 881) (by decide +kernel) (by decide +kernel)
theorem q883 : (.instanceMethod ({ cls := "LivesAheadModel", name := "isStaleOn", desc := "(III)Z" } : Jvm.MethodName) : Cond) ∈ lw_g := lw_gm (i := 883) (by decide +kernel) (by decide +kernel)
theorem q884 : (.code ({ cls := "LivesAheadModel", name := "isStaleOn", desc := "(III)Z" } : Jvm.MethodName) prog_9_method_10_code (4 : Nat) (Option.some .boolean) : Cond) ∈ lw_g := lw_gm (i := 884) (by decide +kernel) (by decide +kernel)
theorem q885 : (.methodLink "LivesAheadModel" (58 : Nat) ({ cls := "LivesAheadModel", name := "worthOn", desc := "(III)F" } : Jvm.MethodName) : Cond) ∈ lw_g := lw_gm (i := 885) (by decide +kernel) (by decide +kernel)
theorem q887 : (.instanceMethod ({ cls := "LivesAheadModel", name := "worthOn", desc := "(III)F" } : Jvm.MethodName) : Cond) ∈ lw_g := lw_gm (i := 887) (by decide +kernel) (by decide +kernel)
theorem q888 : (.code ({ cls := "LivesAheadModel", name := "worthOn", desc := "(III)F" } : Jvm.MethodName) prog_9_method_9_code (7 : Nat) (Option.some .float) : Cond) ∈ lw_g := lw_gm (i := 888) (by decide +kernel) (by decide +kernel)
theorem q889 : (.constantFloat "LivesAheadModel" (56 : Nat) (1120403456 : UInt32) : Cond) ∈ lw_g := lw_gm (i := 889) (by decide +kernel) (by decide +kernel)
theorem q890 : (.constantFloat "LivesAheadModel" (57 : Nat) (1063675494 : UInt32) : Cond) ∈ lw_g := lw_gm (i := 890) (by decide +kernel) (by decide +kernel)
theorem q891 : (.methodLink "LivesAheadModel" (123 : Nat) ({ cls := "LivesAheadModel", name := "urgency", desc := "(I)I" } : Jvm.MethodName) : Cond) ∈ lw_g := lw_gm (i := 891) (by decide +kernel) (by decide +kernel)
theorem q893 : (.instanceMethod ({ cls := "LivesAheadModel", name := "urgency", desc := "(I)I" } : Jvm.MethodName) : Cond) ∈ lw_g := lw_gm (i := 893) (by decide +kernel) (by decide +kernel)
theorem q894 : (.code ({ cls := "LivesAheadModel", name := "urgency", desc := "(I)I" } : Jvm.MethodName) prog_9_method_15_code (2 : Nat) (Option.some .int) : Cond) ∈ lw_g := lw_gm (i := 894) (by decide +kernel) (by decide +kernel)
theorem q895 : (.methodLink "LivesAheadModel" (68 : Nat) ({ cls := "LivesAheadModel", name := "stale", desc := "(II)I" } : Jvm.MethodName) : Cond) ∈ lw_g := lw_gm (i := 895) (by decide +kernel) (by decide +kernel)
theorem q897 : (.instanceMethod ({ cls := "LivesAheadModel", name := "stale", desc := "(II)I" } : Jvm.MethodName) : Cond) ∈ lw_g := lw_gm (i := 897) (by decide +kernel) (by decide +kernel)
theorem q898 : (.code ({ cls := "LivesAheadModel", name := "stale", desc := "(II)I" } : Jvm.MethodName) prog_9_method_11_code (5 : Nat) (Option.some .int) : Cond) ∈ lw_g := lw_gm (i := 898) (by decide +kernel) (by decide +kernel)
theorem q899 : (.methodLink "LivesAheadLaw" (43 : Nat) ({ cls := "LivesAheadModel", name := "trust", desc := "(II)I" } : Jvm.MethodName) : Cond) ∈ lw_g := lw_gm (i := 899) (by decide +kernel) (by decide +kernel)
theorem q900 : (.instanceMethod ({ cls := "LivesAheadModel", name := "trust", desc := "(II)I" } : Jvm.MethodName) : Cond) ∈ lw_g := lw_gm (i := 900) (by decide +kernel) (by decide +kernel)
theorem q901 : (.selects "LivesAheadModel" ({ cls := "LivesAheadModel", name := "trust", desc := "(II)I" } : Jvm.MethodName) ({ cls := "LivesAheadModel", name := "trust", desc := "(II)I" } : Jvm.MethodName) : Cond) ∈ lw_g := lw_gm (i := 901) (by decide +kernel) (by decide +kernel)
theorem q902 : (.code ({ cls := "LivesAheadModel", name := "trust", desc := "(II)I" } : Jvm.MethodName) prog_9_method_33_code (4 : Nat) (Option.some .int) : Cond) ∈ lw_g := lw_gm (i := 902) (by decide +kernel) (by decide +kernel)
theorem q903 : (.methodLink "LivesAheadLaw" (47 : Nat) ({ cls := "LivesAheadModel", name := "set", desc := "(II)I" } : Jvm.MethodName) : Cond) ∈ lw_g := lw_gm (i := 903) (by decide +kernel) (by decide +kernel)
theorem q904 : (.instanceMethod ({ cls := "LivesAheadModel", name := "set", desc := "(II)I" } : Jvm.MethodName) : Cond) ∈ lw_g := lw_gm (i := 904) (by decide +kernel) (by decide +kernel)
theorem q905 : (.selects "LivesAheadModel" ({ cls := "LivesAheadModel", name := "set", desc := "(II)I" } : Jvm.MethodName) ({ cls := "LivesAheadModel", name := "set", desc := "(II)I" } : Jvm.MethodName) : Cond) ∈ lw_g := lw_gm (i := 905) (by decide +kernel) (by decide +kernel)
theorem q906 : (.code ({ cls := "LivesAheadModel", name := "set", desc := "(II)I" } : Jvm.MethodName) prog_9_method_35_code (4 : Nat) (Option.some .int) : Cond) ∈ lw_g := lw_gm (i := 906) (by decide +kernel) (by decide +kernel)
theorem q907 : (.methodLink "LivesAheadModel" (129 : Nat) ({ cls := "LivesAheadModel", name := "isSetting", desc := "(II)Z" } : Jvm.MethodName) : Cond) ∈ lw_g := lw_gm (i := 907) (by decide +kernel) (by decide +kernel)
theorem q908 : (.static ({ cls := "LivesAheadModel", name := "isSetting", desc := "(II)Z" } : Jvm.MethodName) : Cond) ∈ lw_g := lw_gm (i := 908) (by decide +kernel) (by decide +kernel)
theorem q909 : (.code ({ cls := "LivesAheadModel", name := "isSetting", desc := "(II)Z" } : Jvm.MethodName) prog_9_method_34_code (2 : Nat) (Option.some .boolean) : Cond) ∈ lw_g := lw_gm (i := 909) (by decide +kernel) (by decide +kernel)
theorem q910 : (.methodLink "LivesAheadLaw" (51 : Nat) ({ cls := "LivesAheadModel", name := "tellDeath", desc := "(II)I" } : Jvm.MethodName) : Cond) ∈ lw_g := lw_gm (i := 910) (by decide +kernel) (by decide +kernel)
theorem q911 : (.instanceMethod ({ cls := "LivesAheadModel", name := "tellDeath", desc := "(II)I" } : Jvm.MethodName) : Cond) ∈ lw_g := lw_gm (i := 911) (by decide +kernel) (by decide +kernel)
theorem q912 : (.selects "LivesAheadModel" ({ cls := "LivesAheadModel", name := "tellDeath", desc := "(II)I" } : Jvm.MethodName) ({ cls := "LivesAheadModel", name := "tellDeath", desc := "(II)I" } : Jvm.MethodName) : Cond) ∈ lw_g := lw_gm (i := 912) (by decide +kernel) (by decide +kernel)
theorem q913 : (.code ({ cls := "LivesAheadModel", name := "tellDeath", desc := "(II)I" } : Jvm.MethodName) prog_9_method_37_code (4 : Nat) (Option.some .int) : Cond) ∈ lw_g := lw_gm (i := 913) (by decide +kernel) (by decide +kernel)
theorem q914 : (.methodLink "LivesAheadLaw" (56 : Nat) ({ cls := "LivesAheadModel", name := "decide", desc := "(IZ)I" } : Jvm.MethodName) : Cond) ∈ lw_g := lw_gm (i := 914) (by decide +kernel) (by decide +kernel)
theorem q915 : (.instanceMethod ({ cls := "LivesAheadModel", name := "decide", desc := "(IZ)I" } : Jvm.MethodName) : Cond) ∈ lw_g := lw_gm (i := 915) (by decide +kernel) (by decide +kernel)
theorem q916 : (.selects "LivesAheadModel" ({ cls := "LivesAheadModel", name := "decide", desc := "(IZ)I" } : Jvm.MethodName) ({ cls := "LivesAheadModel", name := "decide", desc := "(IZ)I" } : Jvm.MethodName) : Cond) ∈ lw_g := lw_gm (i := 916) (by decide +kernel) (by decide +kernel)
theorem q917 : (.code ({ cls := "LivesAheadModel", name := "decide", desc := "(IZ)I" } : Jvm.MethodName) prog_9_method_38_code (4 : Nat) (Option.some .int) : Cond) ∈ lw_g := lw_gm (i := 917) (by decide +kernel) (by decide +kernel)
theorem q918 : (.methodLink "LivesAheadModel" (132 : Nat) ({ cls := "LivesAheadModel", name := "inState", desc := "(I)I" } : Jvm.MethodName) : Cond) ∈ lw_g := lw_gm (i := 918) (by decide +kernel) (by decide +kernel)
theorem q920 : (.instanceMethod ({ cls := "LivesAheadModel", name := "inState", desc := "(I)I" } : Jvm.MethodName) : Cond) ∈ lw_g := lw_gm (i := 920) (by decide +kernel) (by decide +kernel)
theorem q921 : (.code ({ cls := "LivesAheadModel", name := "inState", desc := "(I)I" } : Jvm.MethodName) prog_9_method_36_code (4 : Nat) (Option.some .int) : Cond) ∈ lw_g := lw_gm (i := 921) (by decide +kernel) (by decide +kernel)
theorem q922 : (.methodLink "LivesAheadLaw" (60 : Nat) ({ cls := "LivesAheadModel", name := "print", desc := "()I" } : Jvm.MethodName) : Cond) ∈ lw_g := lw_gm (i := 922) (by decide +kernel) (by decide +kernel)
theorem q923 : (.instanceMethod ({ cls := "LivesAheadModel", name := "print", desc := "()I" } : Jvm.MethodName) : Cond) ∈ lw_g := lw_gm (i := 923) (by decide +kernel) (by decide +kernel)
theorem q924 : (.selects "LivesAheadModel" ({ cls := "LivesAheadModel", name := "print", desc := "()I" } : Jvm.MethodName) ({ cls := "LivesAheadModel", name := "print", desc := "()I" } : Jvm.MethodName) : Cond) ∈ lw_g := lw_gm (i := 924) (by decide +kernel) (by decide +kernel)
theorem q925 : (.code ({ cls := "LivesAheadModel", name := "print", desc := "()I" } : Jvm.MethodName) prog_9_method_41_code (3 : Nat) (Option.some .int) : Cond) ∈ lw_g := lw_gm (i := 925) (by decide +kernel) (by decide +kernel)
theorem q926 : (.methodLink "LivesAheadModel" (150 : Nat) ({ cls := "LivesAheadModel", name := "layPage", desc := "()V" } : Jvm.MethodName) : Cond) ∈ lw_g := lw_gm (i := 926) (by decide +kernel) (by decide +kernel)
theorem q928 : (.instanceMethod ({ cls := "LivesAheadModel", name := "layPage", desc := "()V" } : Jvm.MethodName) : Cond) ∈ lw_g := lw_gm (i := 928) (by decide +kernel) (by decide +kernel)
theorem q929 : (.code ({ cls := "LivesAheadModel", name := "layPage", desc := "()V" } : Jvm.MethodName) prog_9_method_40_code (4 : Nat) (Option.none : Option Jvm.ClassFile.FieldType) : Cond) ∈ lw_g := lw_gm (i := 929) (by decide +kernel) (by decide +kernel)
theorem q930 : (.methodLink "LivesAheadModel" (141 : Nat) ({ cls := "LivesAheadModel", name := "isReady", desc := "(I)Z" } : Jvm.MethodName) : Cond) ∈ lw_g := lw_gm (i := 930) (by decide +kernel) (by decide +kernel)
theorem q932 : (.instanceMethod ({ cls := "LivesAheadModel", name := "isReady", desc := "(I)Z" } : Jvm.MethodName) : Cond) ∈ lw_g := lw_gm (i := 932) (by decide +kernel) (by decide +kernel)
theorem q933 : (.code ({ cls := "LivesAheadModel", name := "isReady", desc := "(I)Z" } : Jvm.MethodName) prog_9_method_14_code (2 : Nat) (Option.some .boolean) : Cond) ∈ lw_g := lw_gm (i := 933) (by decide +kernel) (by decide +kernel)
theorem q934 : (.methodLink "LivesAheadModel" (65 : Nat) ({ cls := "LivesAheadModel", name := "sources", desc := "(I)I" } : Jvm.MethodName) : Cond) ∈ lw_g := lw_gm (i := 934) (by decide +kernel) (by decide +kernel)
theorem q936 : (.instanceMethod ({ cls := "LivesAheadModel", name := "sources", desc := "(I)I" } : Jvm.MethodName) : Cond) ∈ lw_g := lw_gm (i := 936) (by decide +kernel) (by decide +kernel)
theorem q937 : (.code ({ cls := "LivesAheadModel", name := "sources", desc := "(I)I" } : Jvm.MethodName) prog_9_method_13_code (5 : Nat) (Option.some .int) : Cond) ∈ lw_g := lw_gm (i := 937) (by decide +kernel) (by decide +kernel)
theorem q938 : (.methodLink "LivesAheadModel" (144 : Nat) ({ cls := "LivesAheadModel", name := "isAhead", desc := "(II)Z" } : Jvm.MethodName) : Cond) ∈ lw_g := lw_gm (i := 938) (by decide +kernel) (by decide +kernel)
theorem q940 : (.instanceMethod ({ cls := "LivesAheadModel", name := "isAhead", desc := "(II)Z" } : Jvm.MethodName) : Cond) ∈ lw_g := lw_gm (i := 940) (by decide +kernel) (by decide +kernel)
theorem q941 : (.code ({ cls := "LivesAheadModel", name := "isAhead", desc := "(II)Z" } : Jvm.MethodName) prog_9_method_39_code (4 : Nat) (Option.some .boolean) : Cond) ∈ lw_g := lw_gm (i := 941) (by decide +kernel) (by decide +kernel)
theorem q942 : (.methodLink "LivesAheadModel" (147 : Nat) ({ cls := "LivesAheadModel", name := "lines", desc := "(I)I" } : Jvm.MethodName) : Cond) ∈ lw_g := lw_gm (i := 942) (by decide +kernel) (by decide +kernel)
theorem q944 : (.instanceMethod ({ cls := "LivesAheadModel", name := "lines", desc := "(I)I" } : Jvm.MethodName) : Cond) ∈ lw_g := lw_gm (i := 944) (by decide +kernel) (by decide +kernel)
theorem q945 : (.code ({ cls := "LivesAheadModel", name := "lines", desc := "(I)I" } : Jvm.MethodName) prog_9_method_12_code (4 : Nat) (Option.some .int) : Cond) ∈ lw_g := lw_gm (i := 945) (by decide +kernel) (by decide +kernel)
theorem q946 : (.methodLink "LivesAheadLaw" (64 : Nat) ({ cls := "LivesAheadModel", name := "correct", desc := "(III)I" } : Jvm.MethodName) : Cond) ∈ lw_g := lw_gm (i := 946) (by decide +kernel) (by decide +kernel)
theorem q947 : (.instanceMethod ({ cls := "LivesAheadModel", name := "correct", desc := "(III)I" } : Jvm.MethodName) : Cond) ∈ lw_g := lw_gm (i := 947) (by decide +kernel) (by decide +kernel)
theorem q948 : (.selects "LivesAheadModel" ({ cls := "LivesAheadModel", name := "correct", desc := "(III)I" } : Jvm.MethodName) ({ cls := "LivesAheadModel", name := "correct", desc := "(III)I" } : Jvm.MethodName) : Cond) ∈ lw_g := lw_gm (i := 948) (by decide +kernel) (by decide +kernel)
theorem q949 : (.code ({ cls := "LivesAheadModel", name := "correct", desc := "(III)I" } : Jvm.MethodName) prog_9_method_42_code (4 : Nat) (Option.some .int) : Cond) ∈ lw_g := lw_gm (i := 949) (by decide +kernel) (by decide +kernel)
theorem q950 : (.methodLink "LivesAheadLaw" (69 : Nat) ({ cls := "LivesAheadModel", name := "type", desc := "(C)I" } : Jvm.MethodName) : Cond) ∈ lw_g := lw_gm (i := 950) (by decide +kernel) (by decide +kernel)
theorem q951 : (.instanceMethod ({ cls := "LivesAheadModel", name := "type", desc := "(C)I" } : Jvm.MethodName) : Cond) ∈ lw_g := lw_gm (i := 951) (by decide +kernel) (by decide +kernel)
theorem q952 : (.selects "LivesAheadModel" ({ cls := "LivesAheadModel", name := "type", desc := "(C)I" } : Jvm.MethodName) ({ cls := "LivesAheadModel", name := "type", desc := "(C)I" } : Jvm.MethodName) : Cond) ∈ lw_g := lw_gm (i := 952) (by decide +kernel) (by decide +kernel)
theorem q953 : (.code ({ cls := "LivesAheadModel", name := "type", desc := "(C)I" } : Jvm.MethodName) prog_9_method_43_code (2 : Nat) (Option.some .int) : Cond) ∈ lw_g := lw_gm (i := 953) (by decide +kernel) (by decide +kernel)
theorem q954 : (.methodLink "LivesAheadLaw" (73 : Nat) ({ cls := "LivesAheadModel", name := "clearText", desc := "()I" } : Jvm.MethodName) : Cond) ∈ lw_g := lw_gm (i := 954) (by decide +kernel) (by decide +kernel)
theorem q955 : (.instanceMethod ({ cls := "LivesAheadModel", name := "clearText", desc := "()I" } : Jvm.MethodName) : Cond) ∈ lw_g := lw_gm (i := 955) (by decide +kernel) (by decide +kernel)
theorem q956 : (.selects "LivesAheadModel" ({ cls := "LivesAheadModel", name := "clearText", desc := "()I" } : Jvm.MethodName) ({ cls := "LivesAheadModel", name := "clearText", desc := "()I" } : Jvm.MethodName) : Cond) ∈ lw_g := lw_gm (i := 956) (by decide +kernel) (by decide +kernel)
theorem q957 : (.code ({ cls := "LivesAheadModel", name := "clearText", desc := "()I" } : Jvm.MethodName) prog_9_method_44_code (2 : Nat) (Option.some .int) : Cond) ∈ lw_g := lw_gm (i := 957) (by decide +kernel) (by decide +kernel)
theorem q958 : (.methodLink "LivesAheadLaw" (77 : Nat) ({ cls := "LivesAheadModel", name := "undo", desc := "()I" } : Jvm.MethodName) : Cond) ∈ lw_g := lw_gm (i := 958) (by decide +kernel) (by decide +kernel)
theorem q959 : (.instanceMethod ({ cls := "LivesAheadModel", name := "undo", desc := "()I" } : Jvm.MethodName) : Cond) ∈ lw_g := lw_gm (i := 959) (by decide +kernel) (by decide +kernel)
theorem q960 : (.selects "LivesAheadModel" ({ cls := "LivesAheadModel", name := "undo", desc := "()I" } : Jvm.MethodName) ({ cls := "LivesAheadModel", name := "undo", desc := "()I" } : Jvm.MethodName) : Cond) ∈ lw_g := lw_gm (i := 960) (by decide +kernel) (by decide +kernel)
theorem q961 : (.code ({ cls := "LivesAheadModel", name := "undo", desc := "()I" } : Jvm.MethodName) prog_9_method_45_code (2 : Nat) (Option.some .int) : Cond) ∈ lw_g := lw_gm (i := 961) (by decide +kernel) (by decide +kernel)
theorem q962 : (.methodLink "LivesAheadLaw" (81 : Nat) ({ cls := "LivesAheadModel", name := "keep", desc := "()I" } : Jvm.MethodName) : Cond) ∈ lw_g := lw_gm (i := 962) (by decide +kernel) (by decide +kernel)
theorem q963 : (.instanceMethod ({ cls := "LivesAheadModel", name := "keep", desc := "()I" } : Jvm.MethodName) : Cond) ∈ lw_g := lw_gm (i := 963) (by decide +kernel) (by decide +kernel)
theorem q964 : (.selects "LivesAheadModel" ({ cls := "LivesAheadModel", name := "keep", desc := "()I" } : Jvm.MethodName) ({ cls := "LivesAheadModel", name := "keep", desc := "()I" } : Jvm.MethodName) : Cond) ∈ lw_g := lw_gm (i := 964) (by decide +kernel) (by decide +kernel)
theorem q965 : (.code ({ cls := "LivesAheadModel", name := "keep", desc := "()I" } : Jvm.MethodName) prog_9_method_46_code (2 : Nat) (Option.some .int) : Cond) ∈ lw_g := lw_gm (i := 965) (by decide +kernel) (by decide +kernel)
theorem q966 : (.methodLink "LivesAheadLaw" (85 : Nat) ({ cls := "LivesAheadModel", name := "restore", desc := "()I" } : Jvm.MethodName) : Cond) ∈ lw_g := lw_gm (i := 966) (by decide +kernel) (by decide +kernel)
theorem q967 : (.instanceMethod ({ cls := "LivesAheadModel", name := "restore", desc := "()I" } : Jvm.MethodName) : Cond) ∈ lw_g := lw_gm (i := 967) (by decide +kernel) (by decide +kernel)
theorem q968 : (.selects "LivesAheadModel" ({ cls := "LivesAheadModel", name := "restore", desc := "()I" } : Jvm.MethodName) ({ cls := "LivesAheadModel", name := "restore", desc := "()I" } : Jvm.MethodName) : Cond) ∈ lw_g := lw_gm (i := 968) (by decide +kernel) (by decide +kernel)
theorem q969 : (.code ({ cls := "LivesAheadModel", name := "restore", desc := "()I" } : Jvm.MethodName) prog_9_method_47_code (2 : Nat) (Option.some .int) : Cond) ∈ lw_g := lw_gm (i := 969) (by decide +kernel) (by decide +kernel)
theorem q970 : (.methodLink "LivesAheadLaw" (89 : Nat) ({ cls := "LivesAheadModel", name := "person", desc := "(II)I" } : Jvm.MethodName) : Cond) ∈ lw_g := lw_gm (i := 970) (by decide +kernel) (by decide +kernel)
theorem q971 : (.instanceMethod ({ cls := "LivesAheadModel", name := "person", desc := "(II)I" } : Jvm.MethodName) : Cond) ∈ lw_g := lw_gm (i := 971) (by decide +kernel) (by decide +kernel)
theorem q972 : (.selects "LivesAheadModel" ({ cls := "LivesAheadModel", name := "person", desc := "(II)I" } : Jvm.MethodName) ({ cls := "LivesAheadModel", name := "person", desc := "(II)I" } : Jvm.MethodName) : Cond) ∈ lw_g := lw_gm (i := 972) (by decide +kernel) (by decide +kernel)
theorem q973 : (.code ({ cls := "LivesAheadModel", name := "person", desc := "(II)I" } : Jvm.MethodName) prog_9_method_48_code (3 : Nat) (Option.some .int) : Cond) ∈ lw_g := lw_gm (i := 973) (by decide +kernel) (by decide +kernel)
theorem q974 : (.methodLink "LivesAheadLaw" (93 : Nat) ({ cls := "LivesAheadModel", name := "fact", desc := "(III)I" } : Jvm.MethodName) : Cond) ∈ lw_g := lw_gm (i := 974) (by decide +kernel) (by decide +kernel)
theorem q975 : (.instanceMethod ({ cls := "LivesAheadModel", name := "fact", desc := "(III)I" } : Jvm.MethodName) : Cond) ∈ lw_g := lw_gm (i := 975) (by decide +kernel) (by decide +kernel)
theorem q976 : (.selects "LivesAheadModel" ({ cls := "LivesAheadModel", name := "fact", desc := "(III)I" } : Jvm.MethodName) ({ cls := "LivesAheadModel", name := "fact", desc := "(III)I" } : Jvm.MethodName) : Cond) ∈ lw_g := lw_gm (i := 976) (by decide +kernel) (by decide +kernel)
theorem q977 : (.code ({ cls := "LivesAheadModel", name := "fact", desc := "(III)I" } : Jvm.MethodName) prog_9_method_49_code (4 : Nat) (Option.some .int) : Cond) ∈ lw_g := lw_gm (i := 977) (by decide +kernel) (by decide +kernel)
theorem q978 : (.methodLink "LivesAheadModel" (157 : Nat) ({ cls := "java/lang/Float", name := "floatToIntBits", desc := "(F)I" } : Jvm.MethodName) : Cond) ∈ lw_g := lw_gm (i := 978) (by decide +kernel) (by decide +kernel)
theorem q979 : (.static ({ cls := "java/lang/Float", name := "floatToIntBits", desc := "(F)I" } : Jvm.MethodName) : Cond) ∈ lw_g := lw_gm (i := 979) (by decide +kernel) (by decide +kernel)
theorem q980 : (.code ({ cls := "java/lang/Float", name := "floatToIntBits", desc := "(F)I" } : Jvm.MethodName) prog_10_method_24_code (1 : Nat) (Option.some .int) : Cond) ∈ lw_g := lw_gm (i := 980) (by decide +kernel) (by decide +kernel)
theorem q981 : (.methodLink "java/lang/Float" (59 : Nat) ({ cls := "java/lang/Float", name := "isNaN", desc := "(F)Z" } : Jvm.MethodName) : Cond) ∈ lw_g := lw_gm (i := 981) (by decide +kernel) (by decide +kernel)
theorem q982 : (.static ({ cls := "java/lang/Float", name := "isNaN", desc := "(F)Z" } : Jvm.MethodName) : Cond) ∈ lw_g := lw_gm (i := 982) (by decide +kernel) (by decide +kernel)
theorem q983 : (.code ({ cls := "java/lang/Float", name := "isNaN", desc := "(F)Z" } : Jvm.MethodName) prog_10_method_6_code (1 : Nat) (Option.some .boolean) : Cond) ∈ lw_g := lw_gm (i := 983) (by decide +kernel) (by decide +kernel)
theorem q984 : (.methodLink "java/lang/Float" (74 : Nat) ({ cls := "java/lang/Float", name := "floatToRawIntBits", desc := "(F)I" } : Jvm.MethodName) : Cond) ∈ lw_g := lw_gm (i := 984) (by decide +kernel) (by decide +kernel)
theorem q985 : (.static ({ cls := "java/lang/Float", name := "floatToRawIntBits", desc := "(F)I" } : Jvm.MethodName) : Cond) ∈ lw_g := lw_gm (i := 985) (by decide +kernel) (by decide +kernel)
theorem q986 : (.native ({ cls := "java/lang/Float", name := "floatToRawIntBits", desc := "(F)I" } : Jvm.MethodName) : Cond) ∈ lw_g := lw_gm (i := 986) (by decide +kernel) (by decide +kernel)
theorem q987 : (.constant "java/lang/Float" (77 : Nat) (2143289344 : Int32) : Cond) ∈ lw_g := lw_gm (i := 987) (by decide +kernel) (by decide +kernel)
theorem q988 : (.methodLink "LivesAheadLaw" (98 : Nat) ({ cls := "LivesAheadModel", name := "worth", desc := "(I)F" } : Jvm.MethodName) : Cond) ∈ lw_g := lw_gm (i := 988) (by decide +kernel) (by decide +kernel)
theorem q989 : (.instanceMethod ({ cls := "LivesAheadModel", name := "worth", desc := "(I)F" } : Jvm.MethodName) : Cond) ∈ lw_g := lw_gm (i := 989) (by decide +kernel) (by decide +kernel)
theorem q990 : (.selects "LivesAheadModel" ({ cls := "LivesAheadModel", name := "worth", desc := "(I)F" } : Jvm.MethodName) ({ cls := "LivesAheadModel", name := "worth", desc := "(I)F" } : Jvm.MethodName) : Cond) ∈ lw_g := lw_gm (i := 990) (by decide +kernel) (by decide +kernel)
theorem q991 : (.code ({ cls := "LivesAheadModel", name := "worth", desc := "(I)F" } : Jvm.MethodName) prog_9_method_50_code (4 : Nat) (Option.some .float) : Cond) ∈ lw_g := lw_gm (i := 991) (by decide +kernel) (by decide +kernel)
theorem q992 : (.constantFloat "LivesAheadModel" (163 : Nat) (3212836864 : UInt32) : Cond) ∈ lw_g := lw_gm (i := 992) (by decide +kernel) (by decide +kernel)
theorem q993 : (.methodLink "LivesAheadLaw" (103 : Nat) ({ cls := "LivesAheadModel", name := "urgent", desc := "(I)I" } : Jvm.MethodName) : Cond) ∈ lw_g := lw_gm (i := 993) (by decide +kernel) (by decide +kernel)
theorem q994 : (.instanceMethod ({ cls := "LivesAheadModel", name := "urgent", desc := "(I)I" } : Jvm.MethodName) : Cond) ∈ lw_g := lw_gm (i := 994) (by decide +kernel) (by decide +kernel)
theorem q995 : (.selects "LivesAheadModel" ({ cls := "LivesAheadModel", name := "urgent", desc := "(I)I" } : Jvm.MethodName) ({ cls := "LivesAheadModel", name := "urgent", desc := "(I)I" } : Jvm.MethodName) : Cond) ∈ lw_g := lw_gm (i := 995) (by decide +kernel) (by decide +kernel)
theorem q996 : (.code ({ cls := "LivesAheadModel", name := "urgent", desc := "(I)I" } : Jvm.MethodName) prog_9_method_51_code (7 : Nat) (Option.some .int) : Cond) ∈ lw_g := lw_gm (i := 996) (by decide +kernel) (by decide +kernel)
theorem q997 : (.methodLink "LivesAheadLaw" (107 : Nat) ({ cls := "LivesAheadModel", name := "page", desc := "(I)I" } : Jvm.MethodName) : Cond) ∈ lw_g := lw_gm (i := 997) (by decide +kernel) (by decide +kernel)
theorem q998 : (.instanceMethod ({ cls := "LivesAheadModel", name := "page", desc := "(I)I" } : Jvm.MethodName) : Cond) ∈ lw_g := lw_gm (i := 998) (by decide +kernel) (by decide +kernel)
theorem q999 : (.selects "LivesAheadModel" ({ cls := "LivesAheadModel", name := "page", desc := "(I)I" } : Jvm.MethodName) ({ cls := "LivesAheadModel", name := "page", desc := "(I)I" } : Jvm.MethodName) : Cond) ∈ lw_g := lw_gm (i := 999) (by decide +kernel) (by decide +kernel)
theorem q1000 : (.code ({ cls := "LivesAheadModel", name := "page", desc := "(I)I" } : Jvm.MethodName) prog_9_method_52_code (2 : Nat) (Option.some .int) : Cond) ∈ lw_g := lw_gm (i := 1000) (by decide +kernel) (by decide +kernel)
theorem q1001 : (.methodLink "LivesAheadLaw" (111 : Nat) ({ cls := "LivesAheadModel", name := "source", desc := "(II)I" } : Jvm.MethodName) : Cond) ∈ lw_g := lw_gm (i := 1001) (by decide +kernel) (by decide +kernel)
theorem q1002 : (.instanceMethod ({ cls := "LivesAheadModel", name := "source", desc := "(II)I" } : Jvm.MethodName) : Cond) ∈ lw_g := lw_gm (i := 1002) (by decide +kernel) (by decide +kernel)
theorem q1003 : (.selects "LivesAheadModel" ({ cls := "LivesAheadModel", name := "source", desc := "(II)I" } : Jvm.MethodName) ({ cls := "LivesAheadModel", name := "source", desc := "(II)I" } : Jvm.MethodName) : Cond) ∈ lw_g := lw_gm (i := 1003) (by decide +kernel) (by decide +kernel)
theorem q1004 : (.code ({ cls := "LivesAheadModel", name := "source", desc := "(II)I" } : Jvm.MethodName) prog_9_method_53_code (7 : Nat) (Option.some .int) : Cond) ∈ lw_g := lw_gm (i := 1004) (by decide +kernel) (by decide +kernel)
theorem q1005 : (.methodLink "LivesAheadLaw" (115 : Nat) ({ cls := "LivesAheadModel", name := "staleIn", desc := "(I)I" } : Jvm.MethodName) : Cond) ∈ lw_g := lw_gm (i := 1005) (by decide +kernel) (by decide +kernel)
theorem q1006 : (.instanceMethod ({ cls := "LivesAheadModel", name := "staleIn", desc := "(I)I" } : Jvm.MethodName) : Cond) ∈ lw_g := lw_gm (i := 1006) (by decide +kernel) (by decide +kernel)
theorem q1007 : (.selects "LivesAheadModel" ({ cls := "LivesAheadModel", name := "staleIn", desc := "(I)I" } : Jvm.MethodName) ({ cls := "LivesAheadModel", name := "staleIn", desc := "(I)I" } : Jvm.MethodName) : Cond) ∈ lw_g := lw_gm (i := 1007) (by decide +kernel) (by decide +kernel)
theorem q1008 : (.code ({ cls := "LivesAheadModel", name := "staleIn", desc := "(I)I" } : Jvm.MethodName) prog_9_method_55_code (2 : Nat) (Option.some .int) : Cond) ∈ lw_g := lw_gm (i := 1008) (by decide +kernel) (by decide +kernel)
theorem q1009 : (.methodLink "LivesAheadModel" (164 : Nat) ({ cls := "LivesAheadModel", name := "staleOn", desc := "(I)I" } : Jvm.MethodName) : Cond) ∈ lw_g := lw_gm (i := 1009) (by decide +kernel) (by decide +kernel)
theorem q1011 : (.instanceMethod ({ cls := "LivesAheadModel", name := "staleOn", desc := "(I)I" } : Jvm.MethodName) : Cond) ∈ lw_g := lw_gm (i := 1011) (by decide +kernel) (by decide +kernel)
theorem q1012 : (.code ({ cls := "LivesAheadModel", name := "staleOn", desc := "(I)I" } : Jvm.MethodName) prog_9_method_54_code (4 : Nat) (Option.some .int) : Cond) ∈ lw_g := lw_gm (i := 1012) (by decide +kernel) (by decide +kernel)
theorem q1013 : (.methodLink "LivesAheadLaw" (119 : Nat) ({ cls := "LivesAheadModel", name := "count", desc := "(I)I" } : Jvm.MethodName) : Cond) ∈ lw_g := lw_gm (i := 1013) (by decide +kernel) (by decide +kernel)
theorem q1014 : (.instanceMethod ({ cls := "LivesAheadModel", name := "count", desc := "(I)I" } : Jvm.MethodName) : Cond) ∈ lw_g := lw_gm (i := 1014) (by decide +kernel) (by decide +kernel)
theorem q1015 : (.selects "LivesAheadModel" ({ cls := "LivesAheadModel", name := "count", desc := "(I)I" } : Jvm.MethodName) ({ cls := "LivesAheadModel", name := "count", desc := "(I)I" } : Jvm.MethodName) : Cond) ∈ lw_g := lw_gm (i := 1015) (by decide +kernel) (by decide +kernel)
theorem q1016 : (.code ({ cls := "LivesAheadModel", name := "count", desc := "(I)I" } : Jvm.MethodName) prog_9_method_58_code (2 : Nat) (Option.some .int) : Cond) ∈ lw_g := lw_gm (i := 1016) (by decide +kernel) (by decide +kernel)
theorem q1017 : (.methodLink "LivesAheadModel" (167 : Nat) ({ cls := "LivesAheadModel", name := "facts", desc := "()I" } : Jvm.MethodName) : Cond) ∈ lw_g := lw_gm (i := 1017) (by decide +kernel) (by decide +kernel)
theorem q1019 : (.instanceMethod ({ cls := "LivesAheadModel", name := "facts", desc := "()I" } : Jvm.MethodName) : Cond) ∈ lw_g := lw_gm (i := 1019) (by decide +kernel) (by decide +kernel)
theorem q1020 : (.code ({ cls := "LivesAheadModel", name := "facts", desc := "()I" } : Jvm.MethodName) prog_9_method_56_code (3 : Nat) (Option.some .int) : Cond) ∈ lw_g := lw_gm (i := 1020) (by decide +kernel) (by decide +kernel)
theorem q1021 : (.methodLink "LivesAheadModel" (170 : Nat) ({ cls := "LivesAheadModel", name := "freeLines", desc := "()I" } : Jvm.MethodName) : Cond) ∈ lw_g := lw_gm (i := 1021) (by decide +kernel) (by decide +kernel)
theorem q1023 : (.instanceMethod ({ cls := "LivesAheadModel", name := "freeLines", desc := "()I" } : Jvm.MethodName) : Cond) ∈ lw_g := lw_gm (i := 1023) (by decide +kernel) (by decide +kernel)
theorem q1024 : (.code ({ cls := "LivesAheadModel", name := "freeLines", desc := "()I" } : Jvm.MethodName) prog_9_method_57_code (1 : Nat) (Option.some .int) : Cond) ∈ lw_g := lw_gm (i := 1024) (by decide +kernel) (by decide +kernel)
theorem q0 : (.selects "LivesAhead$History" ⟨"LivesAhead$History", "stateAt", "(I)LLivesAhead$Desk;"⟩ ⟨"LivesAhead$History", "stateAt", "(I)LLivesAhead$Desk;"⟩ : Cond) ∈ lw_g := lw_gm (i := 0) (by decide +kernel) (by decide +kernel)
theorem q1 : (.selects "LivesAhead$PersonsText" ⟨"LivesAhead$PersonsText", "readPerson", "(LLivesAhead$Life;I)Z"⟩ ⟨"LivesAhead$PersonsText", "readPerson", "(LLivesAhead$Life;I)Z"⟩ : Cond) ∈ lw_g := lw_gm (i := 1) (by decide +kernel) (by decide +kernel)
theorem q2 : (.selects "LivesAhead$PersonsText" ⟨"LivesAhead$PersonsText", "takeAge", "()I"⟩ ⟨"LivesAhead$PersonsText", "takeAge", "()I"⟩ : Cond) ∈ lw_g := lw_gm (i := 2) (by decide +kernel) (by decide +kernel)
theorem q3 : (.selects "LivesAhead$PersonsText" ⟨"LivesAhead$PersonsText", "takeDigit", "(II)I"⟩ ⟨"LivesAhead$PersonsText", "takeDigit", "(II)I"⟩ : Cond) ∈ lw_g := lw_gm (i := 3) (by decide +kernel) (by decide +kernel)
theorem q4 : (.selects "LivesAhead$PersonsText" ⟨"LivesAhead$PersonsText", "takes", "(C)Z"⟩ ⟨"LivesAhead$PersonsText", "takes", "(C)Z"⟩ : Cond) ∈ lw_g := lw_gm (i := 4) (by decide +kernel) (by decide +kernel)
theorem q5 : (.selects "LivesAhead$PersonsText" ⟨"LivesAhead$PersonsText", "readFact", "(LLivesAhead$Life;I)Z"⟩ ⟨"LivesAhead$PersonsText", "readFact", "(LLivesAhead$Life;I)Z"⟩ : Cond) ∈ lw_g := lw_gm (i := 5) (by decide +kernel) (by decide +kernel)
theorem q6 : (.selects "LivesAhead$Page" ⟨"LivesAhead$Page", "queueDead", "(LLivesAhead$Desk;)V"⟩ ⟨"LivesAhead$Page", "queueDead", "(LLivesAhead$Desk;)V"⟩ : Cond) ∈ lw_g := lw_gm (i := 6) (by decide +kernel) (by decide +kernel)
theorem q7 : (.selects "LivesAheadModel" ⟨"LivesAheadModel", "record", "()V"⟩ ⟨"LivesAheadModel", "record", "()V"⟩ : Cond) ∈ lw_g := lw_gm (i := 7) (by decide +kernel) (by decide +kernel)
theorem q8 : (.selects "LivesAheadModel" ⟨"LivesAheadModel", "come", "(II)I"⟩ ⟨"LivesAheadModel", "come", "(II)I"⟩ : Cond) ∈ lw_g := lw_gm (i := 8) (by decide +kernel) (by decide +kernel)
theorem q9 : (.selects "LivesAheadModel" ⟨"LivesAheadModel", "faultOf", "()I"⟩ ⟨"LivesAheadModel", "faultOf", "()I"⟩ : Cond) ∈ lw_g := lw_gm (i := 9) (by decide +kernel) (by decide +kernel)
theorem q10 : (.selects "LivesAheadModel" ⟨"LivesAheadModel", "readsPerson", "()Z"⟩ ⟨"LivesAheadModel", "readsPerson", "()Z"⟩ : Cond) ∈ lw_g := lw_gm (i := 10) (by decide +kernel) (by decide +kernel)
theorem q11 : (.selects "LivesAheadModel" ⟨"LivesAheadModel", "age", "()I"⟩ ⟨"LivesAheadModel", "age", "()I"⟩ : Cond) ∈ lw_g := lw_gm (i := 11) (by decide +kernel) (by decide +kernel)
theorem q12 : (.selects "LivesAheadModel" ⟨"LivesAheadModel", "digit", "(CC)I"⟩ ⟨"LivesAheadModel", "digit", "(CC)I"⟩ : Cond) ∈ lw_g := lw_gm (i := 12) (by decide +kernel) (by decide +kernel)
theorem q13 : (.selects "LivesAheadModel" ⟨"LivesAheadModel", "isSign", "(ICC)Z"⟩ ⟨"LivesAheadModel", "isSign", "(ICC)Z"⟩ : Cond) ∈ lw_g := lw_gm (i := 13) (by decide +kernel) (by decide +kernel)
theorem q14 : (.selects "LivesAheadModel" ⟨"LivesAheadModel", "accepts", "(C)Z"⟩ ⟨"LivesAheadModel", "accepts", "(C)Z"⟩ : Cond) ∈ lw_g := lw_gm (i := 14) (by decide +kernel) (by decide +kernel)
theorem q15 : (.selects "LivesAheadModel" ⟨"LivesAheadModel", "readsFact", "(I)Z"⟩ ⟨"LivesAheadModel", "readsFact", "(I)Z"⟩ : Cond) ∈ lw_g := lw_gm (i := 15) (by decide +kernel) (by decide +kernel)
theorem q16 : (.selects "LivesAheadModel" ⟨"LivesAheadModel", "add", "(III)V"⟩ ⟨"LivesAheadModel", "add", "(III)V"⟩ : Cond) ∈ lw_g := lw_gm (i := 16) (by decide +kernel) (by decide +kernel)
theorem q17 : (.selects "LivesAheadModel" ⟨"LivesAheadModel", "of", "(II)I"⟩ ⟨"LivesAheadModel", "of", "(II)I"⟩ : Cond) ∈ lw_g := lw_gm (i := 17) (by decide +kernel) (by decide +kernel)
theorem q18 : (.selects "LivesAheadModel" ⟨"LivesAheadModel", "isPerson", "(I)Z"⟩ ⟨"LivesAheadModel", "isPerson", "(I)Z"⟩ : Cond) ∈ lw_g := lw_gm (i := 18) (by decide +kernel) (by decide +kernel)
theorem q19 : (.selects "LivesAheadModel" ⟨"LivesAheadModel", "isFact", "(II)Z"⟩ ⟨"LivesAheadModel", "isFact", "(II)Z"⟩ : Cond) ∈ lw_g := lw_gm (i := 19) (by decide +kernel) (by decide +kernel)
theorem q20 : (.selects "LivesAheadModel" ⟨"LivesAheadModel", "mostUrgent", "()I"⟩ ⟨"LivesAheadModel", "mostUrgent", "()I"⟩ : Cond) ∈ lw_g := lw_gm (i := 20) (by decide +kernel) (by decide +kernel)
theorem q21 : (.selects "LivesAheadModel" ⟨"LivesAheadModel", "due", "(I)I"⟩ ⟨"LivesAheadModel", "due", "(I)I"⟩ : Cond) ∈ lw_g := lw_gm (i := 21) (by decide +kernel) (by decide +kernel)
theorem q22 : (.selects "LivesAheadModel" ⟨"LivesAheadModel", "isStaleOn", "(III)Z"⟩ ⟨"LivesAheadModel", "isStaleOn", "(III)Z"⟩ : Cond) ∈ lw_g := lw_gm (i := 22) (by decide +kernel) (by decide +kernel)
theorem q23 : (.selects "LivesAheadModel" ⟨"LivesAheadModel", "worthOn", "(III)F"⟩ ⟨"LivesAheadModel", "worthOn", "(III)F"⟩ : Cond) ∈ lw_g := lw_gm (i := 23) (by decide +kernel) (by decide +kernel)
theorem q24 : (.selects "LivesAheadModel" ⟨"LivesAheadModel", "urgency", "(I)I"⟩ ⟨"LivesAheadModel", "urgency", "(I)I"⟩ : Cond) ∈ lw_g := lw_gm (i := 24) (by decide +kernel) (by decide +kernel)
theorem q25 : (.selects "LivesAheadModel" ⟨"LivesAheadModel", "stale", "(II)I"⟩ ⟨"LivesAheadModel", "stale", "(II)I"⟩ : Cond) ∈ lw_g := lw_gm (i := 25) (by decide +kernel) (by decide +kernel)
theorem q26 : (.selects "LivesAheadModel" ⟨"LivesAheadModel", "inState", "(I)I"⟩ ⟨"LivesAheadModel", "inState", "(I)I"⟩ : Cond) ∈ lw_g := lw_gm (i := 26) (by decide +kernel) (by decide +kernel)
theorem q27 : (.selects "LivesAheadModel" ⟨"LivesAheadModel", "layPage", "()V"⟩ ⟨"LivesAheadModel", "layPage", "()V"⟩ : Cond) ∈ lw_g := lw_gm (i := 27) (by decide +kernel) (by decide +kernel)
theorem q28 : (.selects "LivesAheadModel" ⟨"LivesAheadModel", "isReady", "(I)Z"⟩ ⟨"LivesAheadModel", "isReady", "(I)Z"⟩ : Cond) ∈ lw_g := lw_gm (i := 28) (by decide +kernel) (by decide +kernel)
theorem q29 : (.selects "LivesAheadModel" ⟨"LivesAheadModel", "sources", "(I)I"⟩ ⟨"LivesAheadModel", "sources", "(I)I"⟩ : Cond) ∈ lw_g := lw_gm (i := 29) (by decide +kernel) (by decide +kernel)
theorem q30 : (.selects "LivesAheadModel" ⟨"LivesAheadModel", "isAhead", "(II)Z"⟩ ⟨"LivesAheadModel", "isAhead", "(II)Z"⟩ : Cond) ∈ lw_g := lw_gm (i := 30) (by decide +kernel) (by decide +kernel)
theorem q31 : (.selects "LivesAheadModel" ⟨"LivesAheadModel", "lines", "(I)I"⟩ ⟨"LivesAheadModel", "lines", "(I)I"⟩ : Cond) ∈ lw_g := lw_gm (i := 31) (by decide +kernel) (by decide +kernel)
theorem q32 : (.selects "LivesAheadModel" ⟨"LivesAheadModel", "staleOn", "(I)I"⟩ ⟨"LivesAheadModel", "staleOn", "(I)I"⟩ : Cond) ∈ lw_g := lw_gm (i := 32) (by decide +kernel) (by decide +kernel)
theorem q33 : (.selects "LivesAheadModel" ⟨"LivesAheadModel", "facts", "()I"⟩ ⟨"LivesAheadModel", "facts", "()I"⟩ : Cond) ∈ lw_g := lw_gm (i := 33) (by decide +kernel) (by decide +kernel)
theorem q34 : (.selects "LivesAheadModel" ⟨"LivesAheadModel", "freeLines", "()I"⟩ ⟨"LivesAheadModel", "freeLines", "()I"⟩ : Cond) ∈ lw_g := lw_gm (i := 34) (by decide +kernel) (by decide +kernel)
end
section
/-! the machine, seen through a numbered world: cell k of ours lies at the address b + k; Y: from here the end is reached, whatever the heap, as long as it shows this world -/
abbrev gG : Type := va_G × (Nat → ClassId)
abbrev gX : Type := (Program × Launch × Env × Room × State) × (MethodId × Array Value × List Frame × Method × Code) × (State → Prop)
def iI (a : Int) : Int32 := Int32.ofInt a
def ad (b : Nat) (k : Int) : Nat := b + k.toNat
abbrev gs (x : gX) : State := x.1.2.2.2.2
abbrev gc (x : gX) : Code := x.2.1.2.2.2.2
def gW (x : gX) (H : Heap) (locs : List Loc) (cl sl : Nat) (g : JFrame) : Prop := W x.1.1 x.1.2.1 x.1.2.2.1 x.1.2.2.2.1 (gs x) x.2.1.1 x.2.1.2.1 x.2.1.2.2.1 x.2.1.2.2.2.1 (gc x) H locs cl sl x.2.2 g
def tysG (G : gG) : List (ClassId × FieldType) := [(G.2 0, .int), (G.2 1, .boolean), (G.2 2, .char), (G.2 3, .object RX2), (G.2 4, .object RX0)]
def nestW : List Cond := [.methodLinkNest RX0 24 yX2_init RX6, .methodLinkNest RX4 21 yX2_init RX6, .methodLinkNest RX6 35 yX5_init RX6, .methodLinkNest RX6 42 yX3_init RX6, .methodLinkNest RX3 11 yX5_init RX6, .methodLinkNest RX4 68 yX6_isWithin RX6, .methodLinkNest RX0 74 yX6_isSource RX6, .methodLinkNest RX0 70 yX6_isSetting RX6]
def Kx (G : gG) (U : State) : Prop := va_K G.1 vwCl (tysG G) U ∧ va_AO RX2 U ∧ va_AO RX0 U ∧ ∀ w ∈ nestW, va_Nw w U
def Rp (G : gG) (b : Nat) (n : Int) (w : Int → va_E) (H : Heap) : Prop := 0 ≤ n ∧ H.size = ad b n ∧ ∀ k, 0 ≤ k → k < n → va_at G.1 vwCl (ad b k, w k) H
def Y (x : gX) (G : gG) (b : Nat) (cl sl : Nat) (n : Int) (w : Int → va_E) (pc : Nat) (lv : List (Nat × Value)) (st : List Value) : Prop :=
  ∀ (H : Heap) (locs : List Loc) (ls : Array Slot), Rp G b n w H → va_S (fun q => b ≤ q) (gs x).heap H locs → lv_has ls (gc x).maxLocals lv → gW x H locs cl sl (F0 x.2.1.1 pc ls st)
/-- what stands in a body: the machine, the code's bytes, its locals, its class, the words, the tables, its room -/
def Bx (x : gX) (G : gG) (b : Nat) (own : String) (cc : ByteArray) (nL : Nat) (ret : Option FieldType) (rm : Room) (nm : String) : Prop :=
  x.1.1.tables.exec = Jvm.exec ∧ (gc x).code = cc ∧ (gc x).maxLocals = nL ∧ (gs x).vm.findClass own = some x.2.1.1.cls ∧ (∀ w ∈ lw_g, w.before x.2.1.2.1 (gs x) = true) ∧ Kx G (gs x) ∧ b ≤ (gs x).heap.size ∧ x.2.1.2.2.2.1.locks = false ∧ x.2.1.2.2.2.1.sig.returnType = ret ∧ x.1.2.2.2.1 = rm ∧ x.2.1.2.2.2.1.name = nm
def Px (G : gG) (b : Nat) (av : List Value) (n : Int) (w : Int → va_E) (K : State → Prop) : Array Value → State → Prop := fun v U => v = av.toArray ∧ Rp G b n w U.heap ∧ Kx G U ∧ K U
abbrev gP : Type := Option Value → Int → (Int → va_E) → Prop
def Qx (G : gG) (b : Nat) (Po : gP) : Array Value → State → Outcome → State → Prop := fun _ st oc t => ∃ (r : Option Value) (n : Int) (w : Int → va_E), oc = .returned r ∧ Po r n w ∧ Rp G b n w t.heap ∧ va_F (fun q => b ≤ q) st t
/-- the end that a body goes to -/
def Ex (x : gX) (G : gG) (b : Nat) (Po : gP) (mc ms : Nat) : Prop := x.2.2 = MQ x.2.1.2.2.1 (Qx G b Po) x.2.1.2.1 (gs x) mc ms (fun q => b ≤ q)
/-- a method's contract -/
def cw (y : MethodName) (cc : ByteArray) (nL : Nat) (ret : Option FieldType) : List Cond := .code y cc nL ret :: lw_g
def CtK (l : Launch) (G : gG) (b : Nat) (K : State → Prop) (y : MethodName) (cc : ByteArray) (nL : Nat) (ret : Option FieldType) (rm : Room) (av : List Value) (n : Int) (w : Int → va_E) (Po : gP) : Prop :=
  Met l y (cw y cc nL ret) rm (Px G b av n w K) (Qx G b Po) rm.cells rm.slots (fun q => b ≤ q)
abbrev Ct (l : Launch) (G : gG) (b : Nat) (y : MethodName) (cc : ByteArray) (nL : Nat) (ret : Option FieldType) (rm : Room) (av : List Value) (n : Int) (w : Int → va_E) (Po : gP) : Prop := CtK l G b (fun _ => True) y cc nL ret rm av n w Po
theorem Kx.moved {G : gG} {u U : State} (hvm : u.vm.Alike U.vm) (hn : ∀ w ∈ nestW, va_Nw w U) (h : Kx G u) : Kx G U := ⟨va_K.moved hvm h.1, va_AO.moved hvm h.2.1, va_AO.moved hvm h.2.2.1, hn⟩
theorem gd_all {y : MethodName} {cc : ByteArray} {nL : Nat} {ret : Option FieldType} (h : (Cond.code y cc nL ret : Cond) ∈ lw_g) : GoodIn lw_g (cw y cc nL ret) := by
  intro w hw
  have hm : w ∈ lw_g := by
    rcases List.mem_cons.mp hw with e | e
    · rw [e]; exact h
    · exact e
  exact ⟨hm, good_of_word (List.mem_filter.mp hm).2⟩
theorem iI_0 : iI 0 = 0 := rfl
theorem iI_add {u v : Int} : iI u + iI v = iI (u + v) := (Int32.ofInt_add u v).symm
theorem iI_sub {u v : Int} : iI u - iI v = iI (u - v) := (Int32.ofInt_sub u v).symm
theorem iI_mul {u v : Int} : iI u * iI v = iI (u * v) := (Int32.ofInt_mul u v).symm
theorem iI_toInt {u : Int} (h : -2147483648 ≤ u ∧ u ≤ 2147483647) : (iI u).toInt = u := Int32.toInt_ofInt_of_le (by omega) (by omega)
theorem iI_of (x : Int32) : x = iI x.toInt := (Int32.ofInt_toInt x).symm
theorem iI_ofb (x : Int32) : -2147483648 ≤ x.toInt ∧ x.toInt ≤ 2147483647 := by
  have h1 := Int32.le_toInt x
  have h2 := Int32.toInt_lt x
  constructor
  · simpa using h1
  · have : x.toInt < 2147483648 := by simpa using h2
    omega
theorem iI_eq {u v : Int} (hu : -2147483648 ≤ u ∧ u ≤ 2147483647) (hv : -2147483648 ≤ v ∧ v ≤ 2147483647) : iI u = iI v ↔ u = v := ⟨fun h => by rw [← iI_toInt hu, ← iI_toInt hv, h], fun h => by rw [h]⟩
theorem iI_lt {u v : Int} (hu : -2147483648 ≤ u ∧ u ≤ 2147483647) (hv : -2147483648 ≤ v ∧ v ≤ 2147483647) : iI u < iI v ↔ u < v := by rw [Int32.lt_iff_toInt_lt, iI_toInt hu, iI_toInt hv]
theorem iI_le {u v : Int} (hu : -2147483648 ≤ u ∧ u ≤ 2147483647) (hv : -2147483648 ≤ v ∧ v ≤ 2147483647) : iI u ≤ iI v ↔ u ≤ v := by rw [Int32.le_iff_toInt_le, iI_toInt hu, iI_toInt hv]
theorem iI_div {u v : Int} (hu : 0 ≤ u ∧ u ≤ 2147483647) (hv : 0 < v ∧ v ≤ 2147483647) : iI u / iI v = iI (u / v) := by
  apply Int32.toInt_inj.mp
  have h0 : 0 ≤ u / v := Int.ediv_nonneg hu.1 (by omega)
  have h1 : u / v ≤ u := Int.ediv_le_self v hu.1
  rw [Int32.toInt_div, iI_toInt (by omega), iI_toInt (by omega), iI_toInt (by omega), Int.tdiv_eq_ediv_of_nonneg hu.1]
  exact Int.bmod_eq_of_le (by omega) (by omega)
theorem iI_rem {u v : Int} (hu : 0 ≤ u ∧ u ≤ 2147483647) (hv : 0 < v ∧ v ≤ 2147483647) : iI u - iI u / iI v * iI v = iI (u % v) := by
  rw [iI_div hu hv, iI_mul, iI_sub]
  congr 1
  have := Int.emod_add_mul_ediv u v
  rw [Int.mul_comm] at this
  omega
theorem iI_cl {u : Int} (h : 0 ≤ u ∧ u ≤ 2147483647) : (iI u).toNatClampNeg = u.toNat := by
  show (iI u).toInt.toNat = u.toNat
  rw [iI_toInt (by omega)]
theorem iI_in {u : Int} {n : Nat} (h : 0 ≤ u ∧ u < n) (hn : n < 2147483648) : vp_in (iI u) n := by
  rw [vp_in_iff, iI_toInt (by omega)]
  exact h
theorem iI_nI (n : Nat) : nI n = iI (n : Int) := by
  show Int32.ofNat n = Int32.ofInt (n : Int)
  rfl
def cmpI : Option Ordering → CmpOp → Int
  | none, .l => -1
  | none, .g => 1
  | some .lt, _ => -1
  | some .eq, _ => 0
  | some .gt, _ => 1
theorem cmpI_v (o : Option Ordering) (op : CmpOp) : Op.cmpValue o op = iI (cmpI o op) := by
  cases o with
  | none => cases op <;> rfl
  | some z => cases z <;> rfl
theorem cmpI_b (o : Option Ordering) (op : CmpOp) : -1 ≤ cmpI o op ∧ cmpI o op ≤ 1 := by
  cases o with
  | none => cases op <;> simp [cmpI]
  | some z => cases z <;> simp [cmpI]
theorem y_iconst {x : gX} {G : gG} {b cl sl nL : Nat} {own nm : String} {cc : ByteArray} {ret : Option FieldType} {rm : Room} {n : Int} {w : Int → va_E} {pc : Nat} {lv : List (Nat × Value)} {st : List Value} (hB : Bx x G b own cc nL ret rm nm) {k v : Int} (d : decode cc pc = .ok (.iconst k, 1)) (hv : k = v) (kk : Y x G b cl sl n w (pc + 1) lv (.int (iI v) :: st)) : Y x G b cl sl n w (pc) lv (st) := by
  subst hv
  obtain ⟨hx, hb, hml, hown, hts, hK, hbs, hlk, hrt, hR, hnm⟩ := hB
  intro H locs ls hRp hS hL
  exact lv_iconst hx hb d rfl (kk H locs ls hRp hS hL)
theorem y_bipush {x : gX} {G : gG} {b cl sl nL : Nat} {own nm : String} {cc : ByteArray} {ret : Option FieldType} {rm : Room} {n : Int} {w : Int → va_E} {pc : Nat} {lv : List (Nat × Value)} {st : List Value} (hB : Bx x G b own cc nL ret rm nm) {k v : Int} (d : decode cc pc = .ok (.bipush k, 2)) (hv : (Int8.ofInt k).toInt32 = iI v) (kk : Y x G b cl sl n w (pc + 2) lv (.int (iI v) :: st)) : Y x G b cl sl n w (pc) lv (st) := by
  obtain ⟨hx, hb, hml, hown, hts, hK, hbs, hlk, hrt, hR, hnm⟩ := hB
  intro H locs ls hRp hS hL
  exact lv_bipush hx hb d hv (kk H locs ls hRp hS hL)
theorem y_sipush {x : gX} {G : gG} {b cl sl nL : Nat} {own nm : String} {cc : ByteArray} {ret : Option FieldType} {rm : Room} {n : Int} {w : Int → va_E} {pc : Nat} {lv : List (Nat × Value)} {st : List Value} (hB : Bx x G b own cc nL ret rm nm) {k v : Int} (d : decode cc pc = .ok (.sipush k, 3)) (hv : (Int16.ofInt k).toInt32 = iI v) (kk : Y x G b cl sl n w (pc + 3) lv (.int (iI v) :: st)) : Y x G b cl sl n w (pc) lv (st) := by
  obtain ⟨hx, hb, hml, hown, hts, hK, hbs, hlk, hrt, hR, hnm⟩ := hB
  intro H locs ls hRp hS hL
  exact lv_sipush hx hb d hv (kk H locs ls hRp hS hL)
theorem y_iload_n {x : gX} {G : gG} {b cl sl nL : Nat} {own nm : String} {cc : ByteArray} {ret : Option FieldType} {rm : Room} {n : Int} {w : Int → va_E} {pc : Nat} {lv : List (Nat × Value)} {st : List Value} (hB : Bx x G b own cc nL ret rm nm) {k : Fin 4} {i : Nat} (j : Nat) {v : Int32} (d : decode cc pc = .ok (.iload_n k, 1)) (hi : (k : Nat) = i) (hl : lv[j]? = some (i, .int v)) (kk : Y x G b cl sl n w (pc + 1) lv (.int v :: st)) : Y x G b cl sl n w (pc) lv (st) := by
  obtain ⟨hx, hb, hml, hown, hts, hK, hbs, hlk, hrt, hR, hnm⟩ := hB
  intro H locs ls hRp hS hL
  exact lv_iload_n hx hb d hi (lv_at hL j hl) (kk H locs ls hRp hS hL)
theorem y_iload {x : gX} {G : gG} {b cl sl nL : Nat} {own nm : String} {cc : ByteArray} {ret : Option FieldType} {rm : Room} {n : Int} {w : Int → va_E} {pc : Nat} {lv : List (Nat × Value)} {st : List Value} (hB : Bx x G b own cc nL ret rm nm) {i : Nat} (j : Nat) {v : Int32} (d : decode cc pc = .ok (.iload i, 2)) (hl : lv[j]? = some (i, .int v)) (kk : Y x G b cl sl n w (pc + 2) lv (.int v :: st)) : Y x G b cl sl n w (pc) lv (st) := by
  obtain ⟨hx, hb, hml, hown, hts, hK, hbs, hlk, hrt, hR, hnm⟩ := hB
  intro H locs ls hRp hS hL
  exact lv_iload hx hb d (lv_at hL j hl) (kk H locs ls hRp hS hL)
theorem y_aload_n {x : gX} {G : gG} {b cl sl nL : Nat} {own nm : String} {cc : ByteArray} {ret : Option FieldType} {rm : Room} {n : Int} {w : Int → va_E} {pc : Nat} {lv : List (Nat × Value)} {st : List Value} (hB : Bx x G b own cc nL ret rm nm) {k : Fin 4} {i : Nat} (j : Nat) {v : Nat} (d : decode cc pc = .ok (.aload_n k, 1)) (hi : (k : Nat) = i) (hl : lv[j]? = some (i, .ref v)) (kk : Y x G b cl sl n w (pc + 1) lv (.ref v :: st)) : Y x G b cl sl n w (pc) lv (st) := by
  obtain ⟨hx, hb, hml, hown, hts, hK, hbs, hlk, hrt, hR, hnm⟩ := hB
  intro H locs ls hRp hS hL
  exact lv_aload_n hx hb d hi (lv_at hL j hl) (kk H locs ls hRp hS hL)
theorem y_aload {x : gX} {G : gG} {b cl sl nL : Nat} {own nm : String} {cc : ByteArray} {ret : Option FieldType} {rm : Room} {n : Int} {w : Int → va_E} {pc : Nat} {lv : List (Nat × Value)} {st : List Value} (hB : Bx x G b own cc nL ret rm nm) {i : Nat} (j : Nat) {v : Nat} (d : decode cc pc = .ok (.aload i, 2)) (hl : lv[j]? = some (i, .ref v)) (kk : Y x G b cl sl n w (pc + 2) lv (.ref v :: st)) : Y x G b cl sl n w (pc) lv (st) := by
  obtain ⟨hx, hb, hml, hown, hts, hK, hbs, hlk, hrt, hR, hnm⟩ := hB
  intro H locs ls hRp hS hL
  exact lv_aload hx hb d (lv_at hL j hl) (kk H locs ls hRp hS hL)
theorem y_aload_nN {x : gX} {G : gG} {b cl sl nL : Nat} {own nm : String} {cc : ByteArray} {ret : Option FieldType} {rm : Room} {n : Int} {w : Int → va_E} {pc : Nat} {lv : List (Nat × Value)} {st : List Value} (hB : Bx x G b own cc nL ret rm nm) {k : Fin 4} {i : Nat} (j : Nat) (d : decode cc pc = .ok (.aload_n k, 1)) (hi : (k : Nat) = i) (hl : lv[j]? = some (i, .null)) (kk : Y x G b cl sl n w (pc + 1) lv (.null :: st)) : Y x G b cl sl n w (pc) lv (st) := by
  obtain ⟨hx, hb, hml, hown, hts, hK, hbs, hlk, hrt, hR, hnm⟩ := hB
  intro H locs ls hRp hS hL
  exact lv_aload_nN hx hb d hi (lv_at hL j hl) (kk H locs ls hRp hS hL)
theorem y_aloadN {x : gX} {G : gG} {b cl sl nL : Nat} {own nm : String} {cc : ByteArray} {ret : Option FieldType} {rm : Room} {n : Int} {w : Int → va_E} {pc : Nat} {lv : List (Nat × Value)} {st : List Value} (hB : Bx x G b own cc nL ret rm nm) {i : Nat} (j : Nat) (d : decode cc pc = .ok (.aload i, 2)) (hl : lv[j]? = some (i, .null)) (kk : Y x G b cl sl n w (pc + 2) lv (.null :: st)) : Y x G b cl sl n w (pc) lv (st) := by
  obtain ⟨hx, hb, hml, hown, hts, hK, hbs, hlk, hrt, hR, hnm⟩ := hB
  intro H locs ls hRp hS hL
  exact lv_aloadN hx hb d (lv_at hL j hl) (kk H locs ls hRp hS hL)
theorem y_fload_n {x : gX} {G : gG} {b cl sl nL : Nat} {own nm : String} {cc : ByteArray} {ret : Option FieldType} {rm : Room} {n : Int} {w : Int → va_E} {pc : Nat} {lv : List (Nat × Value)} {st : List Value} (hB : Bx x G b own cc nL ret rm nm) {k : Fin 4} {i : Nat} (j : Nat) {v : UInt32} (d : decode cc pc = .ok (.fload_n k, 1)) (hi : (k : Nat) = i) (hl : lv[j]? = some (i, .float v)) (kk : Y x G b cl sl n w (pc + 1) lv (.float v :: st)) : Y x G b cl sl n w (pc) lv (st) := by
  obtain ⟨hx, hb, hml, hown, hts, hK, hbs, hlk, hrt, hR, hnm⟩ := hB
  intro H locs ls hRp hS hL
  exact lv_fload_n hx hb d hi (lv_at hL j hl) (kk H locs ls hRp hS hL)
theorem y_fload {x : gX} {G : gG} {b cl sl nL : Nat} {own nm : String} {cc : ByteArray} {ret : Option FieldType} {rm : Room} {n : Int} {w : Int → va_E} {pc : Nat} {lv : List (Nat × Value)} {st : List Value} (hB : Bx x G b own cc nL ret rm nm) {i : Nat} (j : Nat) {v : UInt32} (d : decode cc pc = .ok (.fload i, 2)) (hl : lv[j]? = some (i, .float v)) (kk : Y x G b cl sl n w (pc + 2) lv (.float v :: st)) : Y x G b cl sl n w (pc) lv (st) := by
  obtain ⟨hx, hb, hml, hown, hts, hK, hbs, hlk, hrt, hR, hnm⟩ := hB
  intro H locs ls hRp hS hL
  exact lv_fload hx hb d (lv_at hL j hl) (kk H locs ls hRp hS hL)
theorem y_dload {x : gX} {G : gG} {b cl sl nL : Nat} {own nm : String} {cc : ByteArray} {ret : Option FieldType} {rm : Room} {n : Int} {w : Int → va_E} {pc : Nat} {lv : List (Nat × Value)} {st : List Value} (hB : Bx x G b own cc nL ret rm nm) {i : Nat} (j : Nat) {v : UInt64} (d : decode cc pc = .ok (.dload i, 2)) (hl : lv[j]? = some (i, .double v)) (kk : Y x G b cl sl n w (pc + 2) lv (.double v :: st)) : Y x G b cl sl n w (pc) lv (st) := by
  obtain ⟨hx, hb, hml, hown, hts, hK, hbs, hlk, hrt, hR, hnm⟩ := hB
  intro H locs ls hRp hS hL
  exact lv_dload hx hb d (lv_at hL j hl) (kk H locs ls hRp hS hL)
theorem y_istore_n {x : gX} {G : gG} {b cl sl nL : Nat} {own nm : String} {cc : ByteArray} {ret : Option FieldType} {rm : Room} {n : Int} {w : Int → va_E} {pc : Nat} {lv : List (Nat × Value)} {st : List Value} (hB : Bx x G b own cc nL ret rm nm) {k : Fin 4} {i : Nat} {v : Int32} {lv' : List (Nat × Value)} (d : decode cc pc = .ok (.istore_n k, 1)) (hi : (k : Nat) = i) (hn : i < nL) (hl : (i, Value.int v) :: lv.filter (fun q => !(q.1 == i) && !(q.1 + 1 == i && q.2.category == 2)) = lv') (kk : Y x G b cl sl n w (pc + 1) lv' (st)) : Y x G b cl sl n w (pc) lv (.int v :: st) := by
  obtain ⟨hx, hb, hml, hown, hts, hK, hbs, hlk, hrt, hR, hnm⟩ := hB
  intro H locs ls hRp hS hL
  exact lv_istore_n hx hb d hi hL (by rw [hml]; exact hn) hl (fun ls hL => kk H locs ls hRp hS hL)
theorem y_istore {x : gX} {G : gG} {b cl sl nL : Nat} {own nm : String} {cc : ByteArray} {ret : Option FieldType} {rm : Room} {n : Int} {w : Int → va_E} {pc : Nat} {lv : List (Nat × Value)} {st : List Value} (hB : Bx x G b own cc nL ret rm nm) {i : Nat} {v : Int32} {lv' : List (Nat × Value)} (d : decode cc pc = .ok (.istore i, 2)) (hn : i < nL) (hl : (i, Value.int v) :: lv.filter (fun q => !(q.1 == i) && !(q.1 + 1 == i && q.2.category == 2)) = lv') (kk : Y x G b cl sl n w (pc + 2) lv' (st)) : Y x G b cl sl n w (pc) lv (.int v :: st) := by
  obtain ⟨hx, hb, hml, hown, hts, hK, hbs, hlk, hrt, hR, hnm⟩ := hB
  intro H locs ls hRp hS hL
  exact lv_istore hx hb d hL (by rw [hml]; exact hn) hl (fun ls hL => kk H locs ls hRp hS hL)
theorem y_astore_n {x : gX} {G : gG} {b cl sl nL : Nat} {own nm : String} {cc : ByteArray} {ret : Option FieldType} {rm : Room} {n : Int} {w : Int → va_E} {pc : Nat} {lv : List (Nat × Value)} {st : List Value} (hB : Bx x G b own cc nL ret rm nm) {k : Fin 4} {i : Nat} {v : Nat} {lv' : List (Nat × Value)} (d : decode cc pc = .ok (.astore_n k, 1)) (hi : (k : Nat) = i) (hn : i < nL) (hl : (i, Value.ref v) :: lv.filter (fun q => !(q.1 == i) && !(q.1 + 1 == i && q.2.category == 2)) = lv') (kk : Y x G b cl sl n w (pc + 1) lv' (st)) : Y x G b cl sl n w (pc) lv (.ref v :: st) := by
  obtain ⟨hx, hb, hml, hown, hts, hK, hbs, hlk, hrt, hR, hnm⟩ := hB
  intro H locs ls hRp hS hL
  exact lv_astore_n hx hb d hi hL (by rw [hml]; exact hn) hl (fun ls hL => kk H locs ls hRp hS hL)
theorem y_astore {x : gX} {G : gG} {b cl sl nL : Nat} {own nm : String} {cc : ByteArray} {ret : Option FieldType} {rm : Room} {n : Int} {w : Int → va_E} {pc : Nat} {lv : List (Nat × Value)} {st : List Value} (hB : Bx x G b own cc nL ret rm nm) {i : Nat} {v : Nat} {lv' : List (Nat × Value)} (d : decode cc pc = .ok (.astore i, 2)) (hn : i < nL) (hl : (i, Value.ref v) :: lv.filter (fun q => !(q.1 == i) && !(q.1 + 1 == i && q.2.category == 2)) = lv') (kk : Y x G b cl sl n w (pc + 2) lv' (st)) : Y x G b cl sl n w (pc) lv (.ref v :: st) := by
  obtain ⟨hx, hb, hml, hown, hts, hK, hbs, hlk, hrt, hR, hnm⟩ := hB
  intro H locs ls hRp hS hL
  exact lv_astore hx hb d hL (by rw [hml]; exact hn) hl (fun ls hL => kk H locs ls hRp hS hL)
theorem y_fstore_n {x : gX} {G : gG} {b cl sl nL : Nat} {own nm : String} {cc : ByteArray} {ret : Option FieldType} {rm : Room} {n : Int} {w : Int → va_E} {pc : Nat} {lv : List (Nat × Value)} {st : List Value} (hB : Bx x G b own cc nL ret rm nm) {k : Fin 4} {i : Nat} {v : UInt32} {lv' : List (Nat × Value)} (d : decode cc pc = .ok (.fstore_n k, 1)) (hi : (k : Nat) = i) (hn : i < nL) (hl : (i, Value.float v) :: lv.filter (fun q => !(q.1 == i) && !(q.1 + 1 == i && q.2.category == 2)) = lv') (kk : Y x G b cl sl n w (pc + 1) lv' (st)) : Y x G b cl sl n w (pc) lv (.float v :: st) := by
  obtain ⟨hx, hb, hml, hown, hts, hK, hbs, hlk, hrt, hR, hnm⟩ := hB
  intro H locs ls hRp hS hL
  exact lv_fstore_n hx hb d hi hL (by rw [hml]; exact hn) hl (fun ls hL => kk H locs ls hRp hS hL)
theorem y_fstore {x : gX} {G : gG} {b cl sl nL : Nat} {own nm : String} {cc : ByteArray} {ret : Option FieldType} {rm : Room} {n : Int} {w : Int → va_E} {pc : Nat} {lv : List (Nat × Value)} {st : List Value} (hB : Bx x G b own cc nL ret rm nm) {i : Nat} {v : UInt32} {lv' : List (Nat × Value)} (d : decode cc pc = .ok (.fstore i, 2)) (hn : i < nL) (hl : (i, Value.float v) :: lv.filter (fun q => !(q.1 == i) && !(q.1 + 1 == i && q.2.category == 2)) = lv') (kk : Y x G b cl sl n w (pc + 2) lv' (st)) : Y x G b cl sl n w (pc) lv (.float v :: st) := by
  obtain ⟨hx, hb, hml, hown, hts, hK, hbs, hlk, hrt, hR, hnm⟩ := hB
  intro H locs ls hRp hS hL
  exact lv_fstore hx hb d hL (by rw [hml]; exact hn) hl (fun ls hL => kk H locs ls hRp hS hL)
theorem y_astore_nN {x : gX} {G : gG} {b cl sl nL : Nat} {own nm : String} {cc : ByteArray} {ret : Option FieldType} {rm : Room} {n : Int} {w : Int → va_E} {pc : Nat} {lv : List (Nat × Value)} {st : List Value} (hB : Bx x G b own cc nL ret rm nm) {k : Fin 4} {i : Nat} {lv' : List (Nat × Value)} (d : decode cc pc = .ok (.astore_n k, 1)) (hi : (k : Nat) = i) (hn : i < nL) (hl : (i, Value.null) :: lv.filter (fun q => !(q.1 == i) && !(q.1 + 1 == i && q.2.category == 2)) = lv') (kk : Y x G b cl sl n w (pc + 1) lv' (st)) : Y x G b cl sl n w (pc) lv (.null :: st) := by
  obtain ⟨hx, hb, hml, hown, hts, hK, hbs, hlk, hrt, hR, hnm⟩ := hB
  intro H locs ls hRp hS hL
  exact lv_astore_nN hx hb d hi hL (by rw [hml]; exact hn) hl (fun ls hL => kk H locs ls hRp hS hL)
theorem y_iinc {x : gX} {G : gG} {b cl sl nL : Nat} {own nm : String} {cc : ByteArray} {ret : Option FieldType} {rm : Room} {n : Int} {w : Int → va_E} {pc : Nat} {lv : List (Nat × Value)} {st : List Value} (hB : Bx x G b own cc nL ret rm nm) {i : Nat} (j : Nat) {k a v : Int} {lv' : List (Nat × Value)} (d : decode cc pc = .ok (.iinc i k, 3)) (hk : lv[j]? = some (i, .int (iI a))) (hv : a + k = v) (hn : i < nL) (hl : (i, Value.int (iI v)) :: lv.filter (fun q => !(q.1 == i) && !(q.1 + 1 == i && q.2.category == 2)) = lv') (kk : Y x G b cl sl n w (pc + 3) lv' (st)) : Y x G b cl sl n w (pc) lv (st) := by
  subst hv
  obtain ⟨hx, hb, hml, hown, hts, hK, hbs, hlk, hrt, hR, hnm⟩ := hB
  intro H locs ls hRp hS hL
  exact lv_iinc hx hb d hL hk (by rw [show Int32.ofInt k = iI k from rfl, iI_add]) (by rw [hml]; exact hn) hl (fun ls hL => kk H locs ls hRp hS hL)
theorem y_iadd {x : gX} {G : gG} {b cl sl nL : Nat} {own nm : String} {cc : ByteArray} {ret : Option FieldType} {rm : Room} {n : Int} {w : Int → va_E} {pc : Nat} {lv : List (Nat × Value)} {st : List Value} (hB : Bx x G b own cc nL ret rm nm) {u v : Int} (d : decode cc pc = .ok (.iadd, 1)) (kk : Y x G b cl sl n w (pc + 1) lv (.int (iI (u + v)) :: st)) : Y x G b cl sl n w (pc) lv (.int (iI v) :: .int (iI u) :: st) := by
  obtain ⟨hx, hb, hml, hown, hts, hK, hbs, hlk, hrt, hR, hnm⟩ := hB
  intro H locs ls hRp hS hL
  refine lv_iadd hx hb d ?_
  rw [iI_add]
  exact kk H locs ls hRp hS hL
theorem y_isub {x : gX} {G : gG} {b cl sl nL : Nat} {own nm : String} {cc : ByteArray} {ret : Option FieldType} {rm : Room} {n : Int} {w : Int → va_E} {pc : Nat} {lv : List (Nat × Value)} {st : List Value} (hB : Bx x G b own cc nL ret rm nm) {u v : Int} (d : decode cc pc = .ok (.isub, 1)) (kk : Y x G b cl sl n w (pc + 1) lv (.int (iI (u - v)) :: st)) : Y x G b cl sl n w (pc) lv (.int (iI v) :: .int (iI u) :: st) := by
  obtain ⟨hx, hb, hml, hown, hts, hK, hbs, hlk, hrt, hR, hnm⟩ := hB
  intro H locs ls hRp hS hL
  refine lv_isub hx hb d ?_
  rw [iI_sub]
  exact kk H locs ls hRp hS hL
theorem y_imul {x : gX} {G : gG} {b cl sl nL : Nat} {own nm : String} {cc : ByteArray} {ret : Option FieldType} {rm : Room} {n : Int} {w : Int → va_E} {pc : Nat} {lv : List (Nat × Value)} {st : List Value} (hB : Bx x G b own cc nL ret rm nm) {u v : Int} (d : decode cc pc = .ok (.imul, 1)) (kk : Y x G b cl sl n w (pc + 1) lv (.int (iI (u * v)) :: st)) : Y x G b cl sl n w (pc) lv (.int (iI v) :: .int (iI u) :: st) := by
  obtain ⟨hx, hb, hml, hown, hts, hK, hbs, hlk, hrt, hR, hnm⟩ := hB
  intro H locs ls hRp hS hL
  refine lv_imul hx hb d ?_
  rw [iI_mul]
  exact kk H locs ls hRp hS hL
theorem y_idiv {x : gX} {G : gG} {b cl sl nL : Nat} {own nm : String} {cc : ByteArray} {ret : Option FieldType} {rm : Room} {n : Int} {w : Int → va_E} {pc : Nat} {lv : List (Nat × Value)} {st : List Value} (hB : Bx x G b own cc nL ret rm nm) {u v : Int} (d : decode cc pc = .ok (.idiv, 1)) (hu : 0 ≤ u ∧ u ≤ 2147483647) (hv : 0 < v ∧ v ≤ 2147483647) (kk : Y x G b cl sl n w (pc + 1) lv (.int (iI (u / v)) :: st)) : Y x G b cl sl n w (pc) lv (.int (iI v) :: .int (iI u) :: st) := by
  obtain ⟨hx, hb, hml, hown, hts, hK, hbs, hlk, hrt, hR, hnm⟩ := hB
  intro H locs ls hRp hS hL
  refine lv_idiv hx hb d (fun h => ?_) ?_
  · have := (iI_eq (by omega) (by omega)).mp (h.trans iI_0.symm)
    omega
  · rw [iI_div hu hv]
    exact kk H locs ls hRp hS hL
theorem y_irem {x : gX} {G : gG} {b cl sl nL : Nat} {own nm : String} {cc : ByteArray} {ret : Option FieldType} {rm : Room} {n : Int} {w : Int → va_E} {pc : Nat} {lv : List (Nat × Value)} {st : List Value} (hB : Bx x G b own cc nL ret rm nm) {u v : Int} (d : decode cc pc = .ok (.irem, 1)) (hu : 0 ≤ u ∧ u ≤ 2147483647) (hv : 0 < v ∧ v ≤ 2147483647) (kk : Y x G b cl sl n w (pc + 1) lv (.int (iI (u % v)) :: st)) : Y x G b cl sl n w (pc) lv (.int (iI v) :: .int (iI u) :: st) := by
  obtain ⟨hx, hb, hml, hown, hts, hK, hbs, hlk, hrt, hR, hnm⟩ := hB
  intro H locs ls hRp hS hL
  refine lv_irem hx hb d (fun h => ?_) ?_
  · have := (iI_eq (by omega) (by omega)).mp (h.trans iI_0.symm)
    omega
  · rw [iI_rem hu hv]
    exact kk H locs ls hRp hS hL
theorem y_dup {x : gX} {G : gG} {b cl sl nL : Nat} {own nm : String} {cc : ByteArray} {ret : Option FieldType} {rm : Room} {n : Int} {w : Int → va_E} {pc : Nat} {lv : List (Nat × Value)} {st : List Value} (hB : Bx x G b own cc nL ret rm nm) {v : Value} (d : decode cc pc = .ok (.dup, 1)) (hv : v.category = 1) (kk : Y x G b cl sl n w (pc + 1) lv (v :: v :: st)) : Y x G b cl sl n w (pc) lv (v :: st) := by
  obtain ⟨hx, hb, hml, hown, hts, hK, hbs, hlk, hrt, hR, hnm⟩ := hB
  intro H locs ls hRp hS hL
  exact lv_dup hx hb d hv (kk H locs ls hRp hS hL)
theorem y_dup2 {x : gX} {G : gG} {b cl sl nL : Nat} {own nm : String} {cc : ByteArray} {ret : Option FieldType} {rm : Room} {n : Int} {w : Int → va_E} {pc : Nat} {lv : List (Nat × Value)} {st : List Value} (hB : Bx x G b own cc nL ret rm nm) {u v : Value} (d : decode cc pc = .ok (.dup2, 1)) (hv : v.category = 1) (hu : u.category = 1) (kk : Y x G b cl sl n w (pc + 1) lv (v :: u :: v :: u :: st)) : Y x G b cl sl n w (pc) lv (v :: u :: st) := by
  obtain ⟨hx, hb, hml, hown, hts, hK, hbs, hlk, hrt, hR, hnm⟩ := hB
  intro H locs ls hRp hS hL
  exact lv_dup2_11 hx hb d hv hu (kk H locs ls hRp hS hL)
theorem y_pop {x : gX} {G : gG} {b cl sl nL : Nat} {own nm : String} {cc : ByteArray} {ret : Option FieldType} {rm : Room} {n : Int} {w : Int → va_E} {pc : Nat} {lv : List (Nat × Value)} {st : List Value} (hB : Bx x G b own cc nL ret rm nm) {v : Value} (d : decode cc pc = .ok (.pop, 1)) (hv : v.category = 1) (kk : Y x G b cl sl n w (pc + 1) lv (st)) : Y x G b cl sl n w (pc) lv (v :: st) := by
  obtain ⟨hx, hb, hml, hown, hts, hK, hbs, hlk, hrt, hR, hnm⟩ := hB
  intro H locs ls hRp hS hL
  exact lv_pop hx hb d hv (kk H locs ls hRp hS hL)
theorem y_goto {x : gX} {G : gG} {b cl sl nL : Nat} {own nm : String} {cc : ByteArray} {ret : Option FieldType} {rm : Room} {n : Int} {w : Int → va_E} {pc : Nat} {lv : List (Nat × Value)} {st : List Value} (hB : Bx x G b own cc nL ret rm nm) (tgt : Nat) {off : Int} (d : decode cc pc = .ok (.goto off, 3)) (ht : (pc : Int) + off = (tgt : Int)) (kk : Y x G b cl sl n w (tgt) lv (st)) : Y x G b cl sl n w (pc) lv (st) := by
  obtain ⟨hx, hb, hml, hown, hts, hK, hbs, hlk, hrt, hR, hnm⟩ := hB
  intro H locs ls hRp hS hL
  exact lv_goto hx hb d ht (kk H locs ls hRp hS hL)
theorem y_null {x : gX} {G : gG} {b cl sl nL : Nat} {own nm : String} {cc : ByteArray} {ret : Option FieldType} {rm : Room} {n : Int} {w : Int → va_E} {pc : Nat} {lv : List (Nat × Value)} {st : List Value} (hB : Bx x G b own cc nL ret rm nm) (d : decode cc pc = .ok (.aconst_null, 1)) (kk : Y x G b cl sl n w (pc + 1) lv (.null :: st)) : Y x G b cl sl n w (pc) lv (st) := by
  obtain ⟨hx, hb, hml, hown, hts, hK, hbs, hlk, hrt, hR, hnm⟩ := hB
  intro H locs ls hRp hS hL
  exact lv_null hx hb d (kk H locs ls hRp hS hL)
theorem y_ifnull {x : gX} {G : gG} {b cl sl nL : Nat} {own nm : String} {cc : ByteArray} {ret : Option FieldType} {rm : Room} {n : Int} {w : Int → va_E} {pc : Nat} {lv : List (Nat × Value)} {st : List Value} (hB : Bx x G b own cc nL ret rm nm) {v : Nat} {off : Int} (d : decode cc pc = .ok (.ifnull off, 3)) (kk : Y x G b cl sl n w (pc + 3) lv (st)) : Y x G b cl sl n w (pc) lv (.ref v :: st) := by
  obtain ⟨hx, hb, hml, hown, hts, hK, hbs, hlk, hrt, hR, hnm⟩ := hB
  intro H locs ls hRp hS hL
  exact lv_ifnull hx hb d (kk H locs ls hRp hS hL)
theorem y_ifnonnull {x : gX} {G : gG} {b cl sl nL : Nat} {own nm : String} {cc : ByteArray} {ret : Option FieldType} {rm : Room} {n : Int} {w : Int → va_E} {pc : Nat} {lv : List (Nat × Value)} {st : List Value} (hB : Bx x G b own cc nL ret rm nm) (tgt : Nat) {v : Nat} {off : Int} (d : decode cc pc = .ok (.ifnonnull off, 3)) (ht : (pc : Int) + off = (tgt : Int)) (kk : Y x G b cl sl n w (tgt) lv (st)) : Y x G b cl sl n w (pc) lv (.ref v :: st) := by
  obtain ⟨hx, hb, hml, hown, hts, hK, hbs, hlk, hrt, hR, hnm⟩ := hB
  intro H locs ls hRp hS hL
  exact lv_ifnonnull hx hb d ht (kk H locs ls hRp hS hL)
theorem y_ifnullN {x : gX} {G : gG} {b cl sl nL : Nat} {own nm : String} {cc : ByteArray} {ret : Option FieldType} {rm : Room} {n : Int} {w : Int → va_E} {pc : Nat} {lv : List (Nat × Value)} {st : List Value} (hB : Bx x G b own cc nL ret rm nm) (tgt : Nat) {off : Int} (d : decode cc pc = .ok (.ifnull off, 3)) (ht : (pc : Int) + off = (tgt : Int)) (kk : Y x G b cl sl n w (tgt) lv (st)) : Y x G b cl sl n w (pc) lv (.null :: st) := by
  obtain ⟨hx, hb, hml, hown, hts, hK, hbs, hlk, hrt, hR, hnm⟩ := hB
  intro H locs ls hRp hS hL
  exact lv_ifnullN hx hb d ht (kk H locs ls hRp hS hL)
theorem y_ifnonnullN {x : gX} {G : gG} {b cl sl nL : Nat} {own nm : String} {cc : ByteArray} {ret : Option FieldType} {rm : Room} {n : Int} {w : Int → va_E} {pc : Nat} {lv : List (Nat × Value)} {st : List Value} (hB : Bx x G b own cc nL ret rm nm) {off : Int} (d : decode cc pc = .ok (.ifnonnull off, 3)) (kk : Y x G b cl sl n w (pc + 3) lv (st)) : Y x G b cl sl n w (pc) lv (.null :: st) := by
  obtain ⟨hx, hb, hml, hown, hts, hK, hbs, hlk, hrt, hR, hnm⟩ := hB
  intro H locs ls hRp hS hL
  exact lv_ifnonnullN hx hb d (kk H locs ls hRp hS hL)
theorem y_icmp_eq {x : gX} {G : gG} {b cl sl nL : Nat} {own nm : String} {cc : ByteArray} {ret : Option FieldType} {rm : Room} {n : Int} {w : Int → va_E} {pc : Nat} {lv : List (Nat × Value)} {st : List Value} (hB : Bx x G b own cc nL ret rm nm) (tgt : Nat) {u v off : Int} (d : decode cc pc = .ok (.if_icmp .eq off, 3)) (ht : (pc : Int) + off = (tgt : Int)) (hu : -2147483648 ≤ u ∧ u ≤ 2147483647) (hv : -2147483648 ≤ v ∧ v ≤ 2147483647) (kt : u = v → Y x G b cl sl n w (tgt) lv (st)) (kf : ¬ (u = v) → Y x G b cl sl n w (pc + 3) lv (st)) : Y x G b cl sl n w (pc) lv (.int (iI v) :: .int (iI u) :: st) := by
  obtain ⟨hx, hb, hml, hown, hts, hK, hbs, hlk, hrt, hR, hnm⟩ := hB
  intro H locs ls hRp hS hL
  exact lv_icmp_eq hx hb d ht (fun h => kt ((iI_eq hu hv).mp h) H locs ls hRp hS hL) (fun h => kf (fun e => h ((iI_eq hu hv).mpr e)) H locs ls hRp hS hL)
theorem y_if_eq {x : gX} {G : gG} {b cl sl nL : Nat} {own nm : String} {cc : ByteArray} {ret : Option FieldType} {rm : Room} {n : Int} {w : Int → va_E} {pc : Nat} {lv : List (Nat × Value)} {st : List Value} (hB : Bx x G b own cc nL ret rm nm) (tgt : Nat) {u off : Int} (d : decode cc pc = .ok (.ifCond .eq off, 3)) (ht : (pc : Int) + off = (tgt : Int)) (hu : -2147483648 ≤ u ∧ u ≤ 2147483647) (kt : u = 0 → Y x G b cl sl n w (tgt) lv (st)) (kf : ¬ (u = 0) → Y x G b cl sl n w (pc + 3) lv (st)) : Y x G b cl sl n w (pc) lv (.int (iI u) :: st) := by
  obtain ⟨hx, hb, hml, hown, hts, hK, hbs, hlk, hrt, hR, hnm⟩ := hB
  intro H locs ls hRp hS hL
  exact lv_if_eq hx hb d ht (fun h => kt ((iI_eq hu (by omega : (-2147483648:Int) ≤ 0 ∧ (0:Int) ≤ 2147483647)).mp (by rw [iI_0]; exact h)) H locs ls hRp hS hL) (fun h => kf (fun e => h (by have h9 := (iI_eq hu (by omega : (-2147483648:Int) ≤ 0 ∧ (0:Int) ≤ 2147483647)).mpr e; rw [iI_0] at h9; exact h9)) H locs ls hRp hS hL)
theorem y_icmp_ne {x : gX} {G : gG} {b cl sl nL : Nat} {own nm : String} {cc : ByteArray} {ret : Option FieldType} {rm : Room} {n : Int} {w : Int → va_E} {pc : Nat} {lv : List (Nat × Value)} {st : List Value} (hB : Bx x G b own cc nL ret rm nm) (tgt : Nat) {u v off : Int} (d : decode cc pc = .ok (.if_icmp .ne off, 3)) (ht : (pc : Int) + off = (tgt : Int)) (hu : -2147483648 ≤ u ∧ u ≤ 2147483647) (hv : -2147483648 ≤ v ∧ v ≤ 2147483647) (kt : ¬ u = v → Y x G b cl sl n w (tgt) lv (st)) (kf : u = v → Y x G b cl sl n w (pc + 3) lv (st)) : Y x G b cl sl n w (pc) lv (.int (iI v) :: .int (iI u) :: st) := by
  obtain ⟨hx, hb, hml, hown, hts, hK, hbs, hlk, hrt, hR, hnm⟩ := hB
  intro H locs ls hRp hS hL
  exact lv_icmp_ne hx hb d ht (fun h => kt (fun e => h (congrArg iI e)) H locs ls hRp hS hL) (fun h => kf ((iI_eq hu hv).mp h) H locs ls hRp hS hL)
theorem y_if_ne {x : gX} {G : gG} {b cl sl nL : Nat} {own nm : String} {cc : ByteArray} {ret : Option FieldType} {rm : Room} {n : Int} {w : Int → va_E} {pc : Nat} {lv : List (Nat × Value)} {st : List Value} (hB : Bx x G b own cc nL ret rm nm) (tgt : Nat) {u off : Int} (d : decode cc pc = .ok (.ifCond .ne off, 3)) (ht : (pc : Int) + off = (tgt : Int)) (hu : -2147483648 ≤ u ∧ u ≤ 2147483647) (kt : ¬ u = 0 → Y x G b cl sl n w (tgt) lv (st)) (kf : u = 0 → Y x G b cl sl n w (pc + 3) lv (st)) : Y x G b cl sl n w (pc) lv (.int (iI u) :: st) := by
  obtain ⟨hx, hb, hml, hown, hts, hK, hbs, hlk, hrt, hR, hnm⟩ := hB
  intro H locs ls hRp hS hL
  exact lv_if_ne hx hb d ht (fun h => kt (fun e => h (by rw [e, iI_0])) H locs ls hRp hS hL) (fun h => kf ((iI_eq hu (by omega : (-2147483648:Int) ≤ 0 ∧ (0:Int) ≤ 2147483647)).mp (by rw [iI_0]; exact h)) H locs ls hRp hS hL)
theorem y_icmp_lt {x : gX} {G : gG} {b cl sl nL : Nat} {own nm : String} {cc : ByteArray} {ret : Option FieldType} {rm : Room} {n : Int} {w : Int → va_E} {pc : Nat} {lv : List (Nat × Value)} {st : List Value} (hB : Bx x G b own cc nL ret rm nm) (tgt : Nat) {u v off : Int} (d : decode cc pc = .ok (.if_icmp .lt off, 3)) (ht : (pc : Int) + off = (tgt : Int)) (hu : -2147483648 ≤ u ∧ u ≤ 2147483647) (hv : -2147483648 ≤ v ∧ v ≤ 2147483647) (kt : u < v → Y x G b cl sl n w (tgt) lv (st)) (kf : ¬ (u < v) → Y x G b cl sl n w (pc + 3) lv (st)) : Y x G b cl sl n w (pc) lv (.int (iI v) :: .int (iI u) :: st) := by
  obtain ⟨hx, hb, hml, hown, hts, hK, hbs, hlk, hrt, hR, hnm⟩ := hB
  intro H locs ls hRp hS hL
  exact lv_icmp_lt hx hb d ht (fun h => kt ((iI_lt hu hv).mp h) H locs ls hRp hS hL) (fun h => kf (fun e => h ((iI_lt hu hv).mpr e)) H locs ls hRp hS hL)
theorem y_if_lt {x : gX} {G : gG} {b cl sl nL : Nat} {own nm : String} {cc : ByteArray} {ret : Option FieldType} {rm : Room} {n : Int} {w : Int → va_E} {pc : Nat} {lv : List (Nat × Value)} {st : List Value} (hB : Bx x G b own cc nL ret rm nm) (tgt : Nat) {u off : Int} (d : decode cc pc = .ok (.ifCond .lt off, 3)) (ht : (pc : Int) + off = (tgt : Int)) (hu : -2147483648 ≤ u ∧ u ≤ 2147483647) (kt : u < 0 → Y x G b cl sl n w (tgt) lv (st)) (kf : ¬ (u < 0) → Y x G b cl sl n w (pc + 3) lv (st)) : Y x G b cl sl n w (pc) lv (.int (iI u) :: st) := by
  obtain ⟨hx, hb, hml, hown, hts, hK, hbs, hlk, hrt, hR, hnm⟩ := hB
  intro H locs ls hRp hS hL
  exact lv_if_lt hx hb d ht (fun h => kt ((iI_lt hu (by omega : (-2147483648:Int) ≤ 0 ∧ (0:Int) ≤ 2147483647)).mp (by rw [iI_0]; exact h)) H locs ls hRp hS hL) (fun h => kf (fun e => h (by have h9 := (iI_lt hu (by omega : (-2147483648:Int) ≤ 0 ∧ (0:Int) ≤ 2147483647)).mpr e; rw [iI_0] at h9; exact h9)) H locs ls hRp hS hL)
theorem y_icmp_ge {x : gX} {G : gG} {b cl sl nL : Nat} {own nm : String} {cc : ByteArray} {ret : Option FieldType} {rm : Room} {n : Int} {w : Int → va_E} {pc : Nat} {lv : List (Nat × Value)} {st : List Value} (hB : Bx x G b own cc nL ret rm nm) (tgt : Nat) {u v off : Int} (d : decode cc pc = .ok (.if_icmp .ge off, 3)) (ht : (pc : Int) + off = (tgt : Int)) (hu : -2147483648 ≤ u ∧ u ≤ 2147483647) (hv : -2147483648 ≤ v ∧ v ≤ 2147483647) (kt : v ≤ u → Y x G b cl sl n w (tgt) lv (st)) (kf : ¬ (v ≤ u) → Y x G b cl sl n w (pc + 3) lv (st)) : Y x G b cl sl n w (pc) lv (.int (iI v) :: .int (iI u) :: st) := by
  obtain ⟨hx, hb, hml, hown, hts, hK, hbs, hlk, hrt, hR, hnm⟩ := hB
  intro H locs ls hRp hS hL
  exact lv_icmp_ge hx hb d ht (fun h => kt ((iI_le hv hu).mp h) H locs ls hRp hS hL) (fun h => kf (fun e => h ((iI_le hv hu).mpr e)) H locs ls hRp hS hL)
theorem y_if_ge {x : gX} {G : gG} {b cl sl nL : Nat} {own nm : String} {cc : ByteArray} {ret : Option FieldType} {rm : Room} {n : Int} {w : Int → va_E} {pc : Nat} {lv : List (Nat × Value)} {st : List Value} (hB : Bx x G b own cc nL ret rm nm) (tgt : Nat) {u off : Int} (d : decode cc pc = .ok (.ifCond .ge off, 3)) (ht : (pc : Int) + off = (tgt : Int)) (hu : -2147483648 ≤ u ∧ u ≤ 2147483647) (kt : 0 ≤ u → Y x G b cl sl n w (tgt) lv (st)) (kf : ¬ (0 ≤ u) → Y x G b cl sl n w (pc + 3) lv (st)) : Y x G b cl sl n w (pc) lv (.int (iI u) :: st) := by
  obtain ⟨hx, hb, hml, hown, hts, hK, hbs, hlk, hrt, hR, hnm⟩ := hB
  intro H locs ls hRp hS hL
  exact lv_if_ge hx hb d ht (fun h => kt ((iI_le (by omega : (-2147483648:Int) ≤ 0 ∧ (0:Int) ≤ 2147483647) hu).mp (by rw [iI_0]; exact h)) H locs ls hRp hS hL) (fun h => kf (fun e => h (by have h9 := (iI_le (by omega : (-2147483648:Int) ≤ 0 ∧ (0:Int) ≤ 2147483647) hu).mpr e; rw [iI_0] at h9; exact h9)) H locs ls hRp hS hL)
theorem y_icmp_gt {x : gX} {G : gG} {b cl sl nL : Nat} {own nm : String} {cc : ByteArray} {ret : Option FieldType} {rm : Room} {n : Int} {w : Int → va_E} {pc : Nat} {lv : List (Nat × Value)} {st : List Value} (hB : Bx x G b own cc nL ret rm nm) (tgt : Nat) {u v off : Int} (d : decode cc pc = .ok (.if_icmp .gt off, 3)) (ht : (pc : Int) + off = (tgt : Int)) (hu : -2147483648 ≤ u ∧ u ≤ 2147483647) (hv : -2147483648 ≤ v ∧ v ≤ 2147483647) (kt : v < u → Y x G b cl sl n w (tgt) lv (st)) (kf : ¬ (v < u) → Y x G b cl sl n w (pc + 3) lv (st)) : Y x G b cl sl n w (pc) lv (.int (iI v) :: .int (iI u) :: st) := by
  obtain ⟨hx, hb, hml, hown, hts, hK, hbs, hlk, hrt, hR, hnm⟩ := hB
  intro H locs ls hRp hS hL
  exact lv_icmp_gt hx hb d ht (fun h => kt ((iI_lt hv hu).mp h) H locs ls hRp hS hL) (fun h => kf (fun e => h ((iI_lt hv hu).mpr e)) H locs ls hRp hS hL)
theorem y_if_gt {x : gX} {G : gG} {b cl sl nL : Nat} {own nm : String} {cc : ByteArray} {ret : Option FieldType} {rm : Room} {n : Int} {w : Int → va_E} {pc : Nat} {lv : List (Nat × Value)} {st : List Value} (hB : Bx x G b own cc nL ret rm nm) (tgt : Nat) {u off : Int} (d : decode cc pc = .ok (.ifCond .gt off, 3)) (ht : (pc : Int) + off = (tgt : Int)) (hu : -2147483648 ≤ u ∧ u ≤ 2147483647) (kt : 0 < u → Y x G b cl sl n w (tgt) lv (st)) (kf : ¬ (0 < u) → Y x G b cl sl n w (pc + 3) lv (st)) : Y x G b cl sl n w (pc) lv (.int (iI u) :: st) := by
  obtain ⟨hx, hb, hml, hown, hts, hK, hbs, hlk, hrt, hR, hnm⟩ := hB
  intro H locs ls hRp hS hL
  exact lv_if_gt hx hb d ht (fun h => kt ((iI_lt (by omega : (-2147483648:Int) ≤ 0 ∧ (0:Int) ≤ 2147483647) hu).mp (by rw [iI_0]; exact h)) H locs ls hRp hS hL) (fun h => kf (fun e => h (by have h9 := (iI_lt (by omega : (-2147483648:Int) ≤ 0 ∧ (0:Int) ≤ 2147483647) hu).mpr e; rw [iI_0] at h9; exact h9)) H locs ls hRp hS hL)
theorem y_icmp_le {x : gX} {G : gG} {b cl sl nL : Nat} {own nm : String} {cc : ByteArray} {ret : Option FieldType} {rm : Room} {n : Int} {w : Int → va_E} {pc : Nat} {lv : List (Nat × Value)} {st : List Value} (hB : Bx x G b own cc nL ret rm nm) (tgt : Nat) {u v off : Int} (d : decode cc pc = .ok (.if_icmp .le off, 3)) (ht : (pc : Int) + off = (tgt : Int)) (hu : -2147483648 ≤ u ∧ u ≤ 2147483647) (hv : -2147483648 ≤ v ∧ v ≤ 2147483647) (kt : u ≤ v → Y x G b cl sl n w (tgt) lv (st)) (kf : ¬ (u ≤ v) → Y x G b cl sl n w (pc + 3) lv (st)) : Y x G b cl sl n w (pc) lv (.int (iI v) :: .int (iI u) :: st) := by
  obtain ⟨hx, hb, hml, hown, hts, hK, hbs, hlk, hrt, hR, hnm⟩ := hB
  intro H locs ls hRp hS hL
  exact lv_icmp_le hx hb d ht (fun h => kt ((iI_le hu hv).mp h) H locs ls hRp hS hL) (fun h => kf (fun e => h ((iI_le hu hv).mpr e)) H locs ls hRp hS hL)
theorem y_if_le {x : gX} {G : gG} {b cl sl nL : Nat} {own nm : String} {cc : ByteArray} {ret : Option FieldType} {rm : Room} {n : Int} {w : Int → va_E} {pc : Nat} {lv : List (Nat × Value)} {st : List Value} (hB : Bx x G b own cc nL ret rm nm) (tgt : Nat) {u off : Int} (d : decode cc pc = .ok (.ifCond .le off, 3)) (ht : (pc : Int) + off = (tgt : Int)) (hu : -2147483648 ≤ u ∧ u ≤ 2147483647) (kt : u ≤ 0 → Y x G b cl sl n w (tgt) lv (st)) (kf : ¬ (u ≤ 0) → Y x G b cl sl n w (pc + 3) lv (st)) : Y x G b cl sl n w (pc) lv (.int (iI u) :: st) := by
  obtain ⟨hx, hb, hml, hown, hts, hK, hbs, hlk, hrt, hR, hnm⟩ := hB
  intro H locs ls hRp hS hL
  exact lv_if_le hx hb d ht (fun h => kt ((iI_le hu (by omega : (-2147483648:Int) ≤ 0 ∧ (0:Int) ≤ 2147483647)).mp (by rw [iI_0]; exact h)) H locs ls hRp hS hL) (fun h => kf (fun e => h (by have h9 := (iI_le hu (by omega : (-2147483648:Int) ≤ 0 ∧ (0:Int) ≤ 2147483647)).mpr e; rw [iI_0] at h9; exact h9)) H locs ls hRp hS hL)
theorem y_ldcf {x : gX} {G : gG} {b cl sl nL : Nat} {own nm : String} {cc : ByteArray} {ret : Option FieldType} {rm : Room} {n : Int} {w : Int → va_E} {pc : Nat} {lv : List (Nat × Value)} {st : List Value} (hB : Bx x G b own cc nL ret rm nm) {index : Nat} {v : UInt32} (hq : (.constantFloat own index v : Cond) ∈ lw_g) (d : decode cc pc = .ok (.ldc index, 2)) (kk : Y x G b cl sl n w (pc + 2) lv (.float v :: st)) : Y x G b cl sl n w (pc) lv (st) := by
  obtain ⟨hx, hb, hml, hown, hts, hK, hbs, hlk, hrt, hR, hnm⟩ := hB
  intro H locs ls hRp hS hL
  exact lv_ldcf hx hb hown (hts _ hq) d (kk H locs ls hRp hS hL)
theorem y_fconst0 {x : gX} {G : gG} {b cl sl nL : Nat} {own nm : String} {cc : ByteArray} {ret : Option FieldType} {rm : Room} {n : Int} {w : Int → va_E} {pc : Nat} {lv : List (Nat × Value)} {st : List Value} (hB : Bx x G b own cc nL ret rm nm) (d : decode cc pc = .ok (.fconst 0, 1)) (kk : Y x G b cl sl n w (pc + 1) lv (.float FP.fconst0 :: st)) : Y x G b cl sl n w (pc) lv (st) := by
  obtain ⟨hx, hb, hml, hown, hts, hK, hbs, hlk, hrt, hR, hnm⟩ := hB
  intro H locs ls hRp hS hL
  exact lv_fconst0 hx hb d (kk H locs ls hRp hS hL)
theorem y_fconst1 {x : gX} {G : gG} {b cl sl nL : Nat} {own nm : String} {cc : ByteArray} {ret : Option FieldType} {rm : Room} {n : Int} {w : Int → va_E} {pc : Nat} {lv : List (Nat × Value)} {st : List Value} (hB : Bx x G b own cc nL ret rm nm) (d : decode cc pc = .ok (.fconst 1, 1)) (kk : Y x G b cl sl n w (pc + 1) lv (.float FP.fconst1 :: st)) : Y x G b cl sl n w (pc) lv (st) := by
  obtain ⟨hx, hb, hml, hown, hts, hK, hbs, hlk, hrt, hR, hnm⟩ := hB
  intro H locs ls hRp hS hL
  exact lv_fconst1 hx hb d (kk H locs ls hRp hS hL)
theorem y_fconst2 {x : gX} {G : gG} {b cl sl nL : Nat} {own nm : String} {cc : ByteArray} {ret : Option FieldType} {rm : Room} {n : Int} {w : Int → va_E} {pc : Nat} {lv : List (Nat × Value)} {st : List Value} (hB : Bx x G b own cc nL ret rm nm) (d : decode cc pc = .ok (.fconst 2, 1)) (kk : Y x G b cl sl n w (pc + 1) lv (.float FP.fconst2 :: st)) : Y x G b cl sl n w (pc) lv (st) := by
  obtain ⟨hx, hb, hml, hown, hts, hK, hbs, hlk, hrt, hR, hnm⟩ := hB
  intro H locs ls hRp hS hL
  exact lv_fconst2 hx hb d (kk H locs ls hRp hS hL)
theorem y_fadd {x : gX} {G : gG} {b cl sl nL : Nat} {own nm : String} {cc : ByteArray} {ret : Option FieldType} {rm : Room} {n : Int} {w : Int → va_E} {pc : Nat} {lv : List (Nat × Value)} {st : List Value} (hB : Bx x G b own cc nL ret rm nm) {u v : UInt32} (d : decode cc pc = .ok (.fadd, 1)) (hne : vf_n32 (FP.fadd u v)) (kk : Y x G b cl sl n w (pc + 1) lv (.float (FP.fadd u v) :: st)) : Y x G b cl sl n w (pc) lv (.float v :: .float u :: st) := by
  obtain ⟨hx, hb, hml, hown, hts, hK, hbs, hlk, hrt, hR, hnm⟩ := hB
  intro H locs ls hRp hS hL
  exact lv_fadd hx hb d hne (kk H locs ls hRp hS hL)
theorem y_fsub {x : gX} {G : gG} {b cl sl nL : Nat} {own nm : String} {cc : ByteArray} {ret : Option FieldType} {rm : Room} {n : Int} {w : Int → va_E} {pc : Nat} {lv : List (Nat × Value)} {st : List Value} (hB : Bx x G b own cc nL ret rm nm) {u v : UInt32} (d : decode cc pc = .ok (.fsub, 1)) (hne : vf_n32 (FP.fsub u v)) (kk : Y x G b cl sl n w (pc + 1) lv (.float (FP.fsub u v) :: st)) : Y x G b cl sl n w (pc) lv (.float v :: .float u :: st) := by
  obtain ⟨hx, hb, hml, hown, hts, hK, hbs, hlk, hrt, hR, hnm⟩ := hB
  intro H locs ls hRp hS hL
  exact lv_fsub hx hb d hne (kk H locs ls hRp hS hL)
theorem y_fmul {x : gX} {G : gG} {b cl sl nL : Nat} {own nm : String} {cc : ByteArray} {ret : Option FieldType} {rm : Room} {n : Int} {w : Int → va_E} {pc : Nat} {lv : List (Nat × Value)} {st : List Value} (hB : Bx x G b own cc nL ret rm nm) {u v : UInt32} (d : decode cc pc = .ok (.fmul, 1)) (hne : vf_n32 (FP.fmul u v)) (kk : Y x G b cl sl n w (pc + 1) lv (.float (FP.fmul u v) :: st)) : Y x G b cl sl n w (pc) lv (.float v :: .float u :: st) := by
  obtain ⟨hx, hb, hml, hown, hts, hK, hbs, hlk, hrt, hR, hnm⟩ := hB
  intro H locs ls hRp hS hL
  exact lv_fmul hx hb d hne (kk H locs ls hRp hS hL)
theorem y_fdiv {x : gX} {G : gG} {b cl sl nL : Nat} {own nm : String} {cc : ByteArray} {ret : Option FieldType} {rm : Room} {n : Int} {w : Int → va_E} {pc : Nat} {lv : List (Nat × Value)} {st : List Value} (hB : Bx x G b own cc nL ret rm nm) {u v : UInt32} (d : decode cc pc = .ok (.fdiv, 1)) (hne : vf_n32 (FP.fdiv u v)) (kk : Y x G b cl sl n w (pc + 1) lv (.float (FP.fdiv u v) :: st)) : Y x G b cl sl n w (pc) lv (.float v :: .float u :: st) := by
  obtain ⟨hx, hb, hml, hown, hts, hK, hbs, hlk, hrt, hR, hnm⟩ := hB
  intro H locs ls hRp hS hL
  exact lv_fdiv hx hb d hne (kk H locs ls hRp hS hL)
theorem y_i2f {x : gX} {G : gG} {b cl sl nL : Nat} {own nm : String} {cc : ByteArray} {ret : Option FieldType} {rm : Room} {n : Int} {w : Int → va_E} {pc : Nat} {lv : List (Nat × Value)} {st : List Value} (hB : Bx x G b own cc nL ret rm nm) {u : Int32} (d : decode cc pc = .ok (.i2f, 1)) (kk : Y x G b cl sl n w (pc + 1) lv (.float (FP.i2f u) :: st)) : Y x G b cl sl n w (pc) lv (.int u :: st) := by
  obtain ⟨hx, hb, hml, hown, hts, hK, hbs, hlk, hrt, hR, hnm⟩ := hB
  intro H locs ls hRp hS hL
  exact lv_i2f hx hb d (kk H locs ls hRp hS hL)
theorem y_f2i {x : gX} {G : gG} {b cl sl nL : Nat} {own nm : String} {cc : ByteArray} {ret : Option FieldType} {rm : Room} {n : Int} {w : Int → va_E} {pc : Nat} {lv : List (Nat × Value)} {st : List Value} (hB : Bx x G b own cc nL ret rm nm) {u : UInt32} (d : decode cc pc = .ok (.f2i, 1)) (kk : Y x G b cl sl n w (pc + 1) lv (.int (FP.f2i u) :: st)) : Y x G b cl sl n w (pc) lv (.float u :: st) := by
  obtain ⟨hx, hb, hml, hown, hts, hK, hbs, hlk, hrt, hR, hnm⟩ := hB
  intro H locs ls hRp hS hL
  exact lv_f2i hx hb d (kk H locs ls hRp hS hL)
theorem y_fcmp {x : gX} {G : gG} {b cl sl nL : Nat} {own nm : String} {cc : ByteArray} {ret : Option FieldType} {rm : Room} {n : Int} {w : Int → va_E} {pc : Nat} {lv : List (Nat × Value)} {st : List Value} (hB : Bx x G b own cc nL ret rm nm) {op : CmpOp} {u v : UInt32} (d : decode cc pc = .ok (.fcmp op, 1)) (kk : Y x G b cl sl n w (pc + 1) lv (.int (iI (cmpI (FP.fcmp u v) op)) :: st)) : Y x G b cl sl n w pc lv (.float v :: .float u :: st) := by
  obtain ⟨hx, hb, hml, hown, hts, hK, hbs, hlk, hrt, hR, hnm⟩ := hB
  intro H locs ls hRp hS hL
  refine lv_fcmp hx hb d ?_
  rw [cmpI_v]
  exact kk H locs ls hRp hS hL
theorem y_widen {x : gX} {G : gG} {b cl sl cl' sl' : Nat} {n : Int} {w : Int → va_E} {pc : Nat} {lv : List (Nat × Value)} {st : List Value} (h1 : cl ≤ cl') (h2 : sl ≤ sl') (kk : Y x G b cl' sl' n w pc lv st) : Y x G b cl sl n w pc lv st := fun H locs ls hRp hS hL => W.widen h1 h2 (kk H locs ls hRp hS hL)
theorem y_sub {x : gX} {G : gG} {b cl sl : Nat} {n : Int} {w : Int → va_E} {pc : Nat} {lv lv' : List (Nat × Value)} {st : List Value} (ks : List Nat) (h : lv_pick lv ks = lv') (kk : Y x G b cl sl n w pc lv' st) : Y x G b cl sl n w pc lv st := fun H locs ls hRp hS hL => kk H locs ls hRp hS (lv_sub hL ks h)
/-- the ends -/
theorem y_iret {x : gX} {G : gG} {b cl sl nL : Nat} {own nm : String} {cc : ByteArray} {ty : FieldType} {rm : Room} {n : Int} {w : Int → va_E} {pc : Nat} {lv : List (Nat × Value)} (hB : Bx x G b own cc nL (some ty) rm nm) {Po : gP} {v : Int} (hE : Ex x G b Po cl sl) (d : decode cc pc = .ok (.ireturn, 1)) (hn : narrow ty (.int (iI v)) = .int (iI v)) (hP : Po (some (.int (iI v))) n w) : Y x G b cl sl n w pc lv [.int (iI v)] := by
  obtain ⟨hx, hb, hml, hown, hts, hK, hbs, hlk, hrt, hR, hnm⟩ := hB
  intro H locs ls hRp hS hL
  unfold gW
  rw [hE]
  exact W.zret hx hb hrt hn (fun t ht hW => ⟨_, n, w, rfl, hP, by rw [ht]; exact hRp, hS.F ht⟩) (fun q hq => hS.2.2 q hq) d hlk
theorem y_fret {x : gX} {G : gG} {b cl sl nL : Nat} {own nm : String} {cc : ByteArray} {rm : Room} {n : Int} {w : Int → va_E} {pc : Nat} {lv : List (Nat × Value)} (hB : Bx x G b own cc nL (some .float) rm nm) {Po : gP} {v : UInt32} (hE : Ex x G b Po cl sl) (d : decode cc pc = .ok (.freturn, 1)) (hP : Po (some (.float v)) n w) : Y x G b cl sl n w pc lv [.float v] := by
  obtain ⟨hx, hb, hml, hown, hts, hK, hbs, hlk, hrt, hR, hnm⟩ := hB
  intro H locs ls hRp hS hL
  unfold gW
  rw [hE]
  exact W.fret hx hb hrt (fun t ht hW => ⟨_, n, w, rfl, hP, by rw [ht]; exact hRp, hS.F ht⟩) (fun q hq => hS.2.2 q hq) d hlk
theorem y_vret {x : gX} {G : gG} {b cl sl nL : Nat} {own nm : String} {cc : ByteArray} {rm : Room} {n : Int} {w : Int → va_E} {pc : Nat} {lv : List (Nat × Value)} (hB : Bx x G b own cc nL none rm nm) {Po : gP} (hE : Ex x G b Po cl sl) (d : decode cc pc = .ok (.return_, 1)) (hP : Po none n w) : Y x G b cl sl n w pc lv [] := by
  obtain ⟨hx, hb, hml, hown, hts, hK, hbs, hlk, hrt, hR, hnm⟩ := hB
  intro H locs ls hRp hS hL
  unfold gW
  rw [hE]
  exact W.vret hx hb hrt (fun t ht hW => ⟨_, n, w, rfl, hP, by rw [ht]; exact hRp, hS.F ht⟩) (fun q hq => hS.2.2 q hq) d hlk
theorem y_aret {x : gX} {G : gG} {b cl sl nL : Nat} {own nm C : String} {cc : ByteArray} {rm : Room} {n : Int} {w : Int → va_E} {pc : Nat} {lv : List (Nat × Value)} (hB : Bx x G b own cc nL (some (.object C)) rm nm) {Po : gP} {v : Value} (hE : Ex x G b Po cl sl) (d : decode cc pc = .ok (.areturn, 1)) (hv : v = .null ∨ ∃ a, v = .ref a) (hP : Po (some v) n w) : Y x G b cl sl n w pc lv [v] := by
  obtain ⟨hx, hb, hml, hown, hts, hK, hbs, hlk, hrt, hR, hnm⟩ := hB
  intro H locs ls hRp hS hL
  unfold gW
  rw [hE]
  exact W.aret hx hb hrt (Or.inl ⟨_, rfl⟩) hv (fun t ht hW => ⟨_, n, w, rfl, hP, by rw [ht]; exact hRp, hS.F ht⟩) (fun q hq => hS.2.2 q hq) d hlk
theorem Kx.call {G : gG} {U : State} {g : JFrame} {mk : MethodId} {a : Array Value} (h : Kx G U) : Kx G (U.calling g mk a) := Kx.moved (u := U) (U := U.calling g mk a) (Vm.Alike.refl U.vm) (fun w hw => va_Nw.same (by revert w; decide +kernel) (u := U) rfl (h.2.2.2 w hw)) h
theorem Kx.warm {G : gG} {s U : State} (hW : s.WarmedH U.vm) (h : Kx G s) : Kx G U := Kx.moved hW.alike (fun w hw => by
  have h9 := h.2.2.2 w hw
  simp only [nestW, List.mem_cons, List.not_mem_nil, or_false] at hw
  rcases hw with rfl | rfl | rfl | rfl | rfl | rfl | rfl | rfl <;> exact va_Nw.warmM hW h9) h
theorem Px.blind {G : gG} {b : Nat} {av : List Value} {n : Int} {w : Int → va_E} {K : State → Prop} (hK : ∀ (U : State) (g : JFrame) (mk : MethodId) (a : Array Value), K U → K (U.calling g mk a)) : FrameBlind (Px G b av n w K) := fun a U g mk h => ⟨h.1, h.2.1, h.2.2.1.call, hK U g mk a h.2.2.2⟩
/-- a contract out of its body -/
theorem CtK_of {l : Launch} {G : gG} {b : Nat} {K : State → Prop} {y : MethodName} {cc : ByteArray} {nL : Nat} {ret : Option FieldType} {rm : Room} {av : List Value} {n : Int} {w : Int → va_E} {Po : gP} (hy : plainName y.cls = true) (ha : (lg_sl av).length ≤ nL) (hw : (Cond.code y cc nL ret : Cond) ∈ lw_g)
    (body : ∀ x : gX, x.1.2.1 = l → Bx x G b y.cls cc nL ret rm y.name → Ex x G b Po rm.cells rm.slots → K (gs x) → Y x G b 0 0 n w 0 (lv_args 0 av) []) : CtK l G b K y cc nL ret rm av n w Po := by
  refine Met.ofW (cc := cc) (maxL := nL) (ret := ret) hy rfl ?_
  intro p e s m args below meth c s₁ B hml hv
  obtain ⟨rfl, hRp, hK, hKs⟩ := hv
  have hts0 := atoms_spec (ws := cw y cc nL ret) B.pre
  have hl := lv_entry av (n := nL) ha
  rw [lg_entry_eq]
  have hsz : ad b n = s.heap.size := hRp.2.1.symm
  refine body ((p, l, e, (headSpec (cw y cc nL ret) rm).room, s), (m, av.toArray, below, meth, c), MQ below (Qx G b Po) av.toArray s rm.cells rm.slots (fun q => b ≤ q)) rfl ⟨B.exec, B.bytes, hml, findClass_of_methodNamed B.named, fun w h => hts0 w (List.mem_cons_of_mem _ h), hK, by show b ≤ s.heap.size; rw [← hsz]; exact Nat.le_add_right _ _, B.notSynchronized, B.returns, rfl, (name_of_methodNamed B.named B.method).1⟩ rfl hKs s.heap [] _ hRp va_S.rf ?_
  show lv_has _ c.maxLocals _
  rw [hml]
  exact hl
end
section
/-! the heap's rows over a numbered world -/
def upW (w : Int → va_E) (k : Int) (e : va_E) : Int → va_E := fun j => if j = k then e else w j
theorem upW_self (w : Int → va_E) (k : Int) (e : va_E) : upW w k e k = e := by simp [upW]
theorem upW_ne (w : Int → va_E) {k j : Int} (e : va_E) (h : j ≠ k) : upW w k e j = w j := by simp [upW, h]
theorem ad_ge (b : Nat) (k : Int) : b ≤ ad b k := Nat.le_add_right _ _
theorem ad_inj {b : Nat} {k j : Int} (hk : 0 ≤ k) (hj : 0 ≤ j) (h : ad b k = ad b j) : k = j := by
  unfold ad at h
  omega
theorem Rp.set {G : gG} {b : Nat} {n : Int} {w : Int → va_E} {H H1 : Heap} {k : Int} {e : va_E} (h : Rp G b n w H) (hk : 0 ≤ k ∧ k < n) (he : va_at G.1 vwCl (ad b k, e) H1) (z : H1.size = H.size) (oq : ∀ q : Nat, q ≠ ad b k → H1[q]? = H[q]?) : Rp G b n (upW w k e) H1 := by
  refine ⟨h.1, by rw [z]; exact h.2.1, fun j h0 h1 => ?_⟩
  by_cases hj : j = k
  · subst hj
    rw [upW_self]
    exact he
  · rw [upW_ne _ _ hj]
    exact (h.2.2 j h0 h1).kept (oq _ (fun z => hj (ad_inj h0 hk.1 z)))
theorem Rp.push {G : gG} {b : Nat} {n : Int} {w : Int → va_E} {H H1 : Heap} {e : va_E} (h : Rp G b n w H) (he : va_at G.1 vwCl (ad b n, e) H1) (z : H1.size = H.size + 1) (oq : ∀ q : Nat, q < H.size → H1[q]? = H[q]?) : Rp G b (n + 1) (upW w n e) H1 := by
  have h0 := h.1
  refine ⟨by omega, by rw [z, h.2.1]; unfold ad; omega, fun j h0 h1 => ?_⟩
  by_cases hj : j = n
  · subst hj
    rw [upW_self]
    exact he
  · rw [upW_ne _ _ hj]
    have h2 := h.2.2 j h0 (by omega)
    exact h2.kept (oq _ h2.lt)
theorem Rp.recv {G : gG} {b : Nat} {n : Int} {w : Int → va_E} {H : Heap} {s : State} {k : Int} {ci : Nat} {fs : List Value} {q : vw_C} (h : Rp G b n w H) (hK : Kx G s) (hk : 0 ≤ k ∧ k < n) (he : w k = .inr (ci, fs)) (hc : vwCl[ci]? = some q) : ∃ cell : Cell, H[ad b k]? = some cell ∧ cell.vm.isStatics = false ∧ s.vm.findClass q.1 = some cell.cls := by
  obtain ⟨q', h1, cell, g1, g2, g3, -⟩ := (show va_at G.1 vwCl (ad b k, .inr (ci, fs)) H by rw [← he]; exact h.2.2 k hk.1 hk.2)
  exact ⟨cell, g1, by rw [g3]; rfl, by rw [g2]; exact (hK.1.1 ci q hc).2.1⟩
section
variable {x : gX} {G : gG} {b cl sl nL : Nat} {own nm : String} {cc : ByteArray} {ret : Option FieldType} {rm : Room} {n : Int} {w : Int → va_E} {pc : Nat} {lv : List (Nat × Value)} {st : List Value}
theorem y_get (hB : Bx x G b own cc nL ret rm nm) {C : String} {T : u_T} {N ci index : Nat} {k : Int} {fs : List Value} {v : Value} (hin : ∀ w ∈ u_ws C T N, w ∈ lw_g) (hk : 0 ≤ k ∧ k < n) (he : w k = .inr (ci, fs)) (hc : vwCl[ci]? = some (C, T, N)) (j : Nat) (hj : j < N) (hq : (.fieldLink own index (T j).1 (T j).2.1 (T j).2.2.1 : Cond) ∈ lw_g) (hv : fs[j]? = some v) (d : decode cc pc = .ok (.getfield index, 3))
    (kk : Y x G b cl sl n w (pc + 3) lv (v :: st)) : Y x G b cl sl n w pc lv (.ref (ad b k) :: st) := by
  obtain ⟨hx, hb, hml, hown, hts, hK, hbs, hlk, hrt, hR, hnm⟩ := hB
  intro H locs ls hRp hS hL
  exact va_get (ws := [(ad b k, .inr (ci, fs))]) hx hb hts hin hown hK.1 (fun i q hi => by
    have hi0 : i = 0 := by
      have := (List.getElem?_eq_some_iff.mp hi).1
      simp at this
      exact this
    subst hi0
    cases hi
    rw [← he]
    exact hRp.2.2 k hk.1 hk.2) 0 rfl hc j hj (hts _ hq) (fun _ h => h) hv d (kk H locs ls hRp hS hL)
theorem y_put (hB : Bx x G b own cc nL ret rm nm) {C : String} {T : u_T} {N ci index : Nat} {k : Int} {fs : List Value} {v : Value} (ty0 : Nat → FieldType) (hty : ∀ k, k < N → parseFieldDescriptor (T k).2.2.1 = some (ty0 k)) (hnm2 : ∀ a, a < N → ∀ b, b < N → a ≠ b → (T a).2.1 ≠ (T b).2.1) (hin : ∀ w ∈ u_ws C T N, w ∈ lw_g) (hk : 0 ≤ k ∧ k < n) (he : w k = .inr (ci, fs)) (hc : vwCl[ci]? = some (C, T, N)) (j : Nat) (hj : j < N) (hq : (.fieldLink own index (T j).1 (T j).2.1 (T j).2.2.1 : Cond) ∈ lw_g) (hfin : (T j).2.2.2 = false) (hn : narrow (ty0 j) v = v) (hfit : fits (ty0 j) v = true) (hl : j < fs.length) (d : decode cc pc = .ok (.putfield index, 3))
    (kk : Y x G b cl sl n (upW w k (.inr (ci, fs.set j v))) (pc + 3) lv st) : Y x G b cl sl n w pc lv (v :: .ref (ad b k) :: st) := by
  obtain ⟨hx, hb, hml, hown, hts, hK, hbs, hlk, hrt, hR, hnm⟩ := hB
  intro H locs ls hRp hS0 hL
  have hap := va_apart (own := own) hts hin ty0 hty hnm2 hK.1 hc
  obtain ⟨r, h1, cell, q1, q2, q3, q4⟩ := (show va_at G.1 vwCl (ad b k, .inr (ci, fs)) H by rw [← he]; exact hRp.2.2 k hk.1 hk.2)
  have hr : r = (C, T, N) := Option.some.inj (h1.symm.trans hc)
  subst hr
  obtain ⟨hS, hfc, kC, hkC, hkind⟩ := hK.1.1 ci _ hc
  obtain ⟨cf, kf, fi, f, hi, hsl⟩ := hS j hj
  have hlay := hts _ (hin _ (u_in_lay hj))
  unfold u_lay at hlay
  rw [if_neg (by rw [hfin]; decide)] at hlay
  have hst := (u_facts hfc hkC (u_lays hts hin hj) hi).1
  have h6 := u_store hfc hkC hkind hlay hi (hty j hj) hn hfit
  refine W.putK hx hb (f := f) ⟨hown, hts _ hq, ⟨_, _, _, hi⟩, hst⟩ (by rw [q2]; exact h6) q1 q3 (by rw [hsl]; exact k2_hasslot (q4 j hj)) rfl rfl d fun H' e1 e2 e3 => ?_
  rw [hsl] at e1 ⊢
  exact kk H' _ ls (hRp.set hk ⟨_, hc, t_OB.to (V := updV (vp_V fs) j v) ⟨_, e1, q2, q3, t_set q4 hap hj v⟩ (fun i _ => vp_updV_set hl v i)⟩ e2 e3) (hS0.put e2 e3 (ad_ge b k)) hL
theorem y_putF (hB : Bx x G b own cc nL ret rm "<init>") {T : u_T} {N ci index : Nat} {k : Int} {fs : List Value} {v : Value} (ty0 : Nat → FieldType) (hty : ∀ k, k < N → parseFieldDescriptor (T k).2.2.1 = some (ty0 k)) (hnm2 : ∀ a, a < N → ∀ b, b < N → a ≠ b → (T a).2.1 ≠ (T b).2.1) (hin : ∀ w ∈ u_ws own T N, w ∈ lw_g) (hk : 0 ≤ k ∧ k < n) (he : w k = .inr (ci, fs)) (hc : vwCl[ci]? = some (own, T, N)) (j : Nat) (hj : j < N) (hq : (.fieldLink own index (T j).1 (T j).2.1 (T j).2.2.1 : Cond) ∈ lw_g) (hfin : (T j).2.2.2 = true) (hdecl : (T j).1 = own) (hn : narrow (ty0 j) v = v) (hfit : fits (ty0 j) v = true) (hl : j < fs.length) (d : decode cc pc = .ok (.putfield index, 3))
    (kk : Y x G b cl sl n (upW w k (.inr (ci, fs.set j v))) (pc + 3) lv st) : Y x G b cl sl n w pc lv (v :: .ref (ad b k) :: st) := by
  obtain ⟨hx, hb, hml, hown, hts, hK, hbs, hlk, hrt, hR, hnm⟩ := hB
  intro H locs ls hRp hS0 hL
  have hap := va_apart (own := own) hts hin ty0 hty hnm2 hK.1 hc
  obtain ⟨r, h1, cell, q1, q2, q3, q4⟩ := (show va_at G.1 vwCl (ad b k, .inr (ci, fs)) H by rw [← he]; exact hRp.2.2 k hk.1 hk.2)
  have hr : r = (own, T, N) := Option.some.inj (h1.symm.trans hc)
  subst hr
  obtain ⟨hS, hfc, kC, hkC, hkind⟩ := hK.1.1 ci _ hc
  obtain ⟨cf, kf, fi, f, hi, hsl⟩ := hS j hj
  have hlay := hts _ (hin _ (u_in_lay hj))
  unfold u_lay at hlay
  rw [if_pos hfin] at hlay
  have hst := (u_facts hfc hkC (u_lays hts hin hj) hi).1
  have hcf : x.2.1.1.cls = cf := by
    obtain ⟨_, _, c', _, _, _, -, -, hf', -, -, -, hown2, -⟩ := Cond.laysFinal_spec hlay
    have e1 : c' = cf := by have := hi.symm.trans hf'; simp at this; exact this.1.symm
    rw [hdecl] at hown2
    rw [← e1]; exact Option.some.inj (hown.symm.trans hown2)
  have h6 := u_fits hfc hkC hkind (Or.inr hlay) hi (hty j hj) hn hfit
  refine W.putFinK hx hb hown (hts _ hq) hi hst hcf hnm (by rw [q2]; exact h6) q1 q3 (by rw [hsl]; exact k2_hasslot (q4 j hj)) rfl rfl d fun H' e1 e2 e3 => ?_
  rw [hsl] at e1 ⊢
  exact kk H' _ ls (hRp.set hk ⟨_, hc, t_OB.to (V := updV (vp_V fs) j v) ⟨_, e1, q2, q3, t_set q4 hap hj v⟩ (fun i _ => vp_updV_set hl v i)⟩ e2 e3) (hS0.put e2 e3 (ad_ge b k)) hL
/-- reads of arrays of ints, booleans, chars -/
theorem y_ald (ty : Nat) (hB : Bx x G b own cc nL ret rm nm) {k i : Int} {N : Nat} {f : Nat → Int32} (hk : 0 ≤ k ∧ k < n) (he : w k = .inl (G.2 ty, N, .inl f)) (hty : ty = 0 ∨ ty = 1 ∨ ty = 2) (hi : 0 ≤ i ∧ i < N) (hN : N < 2147483648) (d : decode cc pc = .ok ((match ty with | 0 => .iaload | 1 => .baload | _ => .caload), 1))
    (kk : Y x G b cl sl n w (pc + 1) lv (.int (f i.toNat) :: st)) : Y x G b cl sl n w pc lv (.int (iI i) :: .ref (ad b k) :: st) := by
  obtain ⟨hx, hb, hml, hown, hts, hK, hbs, hlk, hrt, hR, hnm⟩ := hB
  intro H locs ls hRp hS hL
  have hc : H[ad b k]? = some (vp_cell (G.2 ty) (N, .inl f)) := (show va_at G.1 vwCl (ad b k, .inl (G.2 ty, N, .inl f)) H by rw [← he]; exact hRp.2.2 k hk.1 hk.2)
  have hin := iI_in hi hN
  have hcl : (iI i).toNatClampNeg = i.toNat := iI_cl (by omega)
  have hlt : i.toNat < N := by omega
  rcases hty with rfl | rfl | rfl
  · exact W.iald (v := .int (f i.toNat)) hx hb hc ((hK.1.2 0 _ rfl).1 N (fun j => .int (f j))) (fun q => by cases q) (by show ¬ (iI i < 0 ∨ (arrV _ _ _).slots.size ≤ _); rw [arrV_size]; exact hin) (by show (arrV _ _ _).slots[_]? = _; rw [hcl, arrV_read _ _ hlt]) rfl rfl d (kk H locs ls hRp hS hL)
  · exact W.zald (v := .int (f i.toNat)) hx hb hc ((hK.1.2 1 _ rfl).1 N (fun j => .int (f j))) (fun q => by cases q) (by show ¬ (iI i < 0 ∨ (arrV _ _ _).slots.size ≤ _); rw [arrV_size]; exact hin) (by show (arrV _ _ _).slots[_]? = _; rw [hcl, arrV_read _ _ hlt]) rfl rfl d (kk H locs ls hRp hS hL)
  · exact W.cald (v := .int (f i.toNat)) hx hb hc ((hK.1.2 2 _ rfl).1 N (fun j => .int (f j))) (fun q => by cases q) (by show ¬ (iI i < 0 ∨ (arrV _ _ _).slots.size ≤ _); rw [arrV_size]; exact hin) (by show (arrV _ _ _).slots[_]? = _; rw [hcl, arrV_read _ _ hlt]) rfl rfl d (kk H locs ls hRp hS hL)
theorem y_aald (ty : Nat) (hB : Bx x G b own cc nL ret rm nm) {k i : Int} {N : Nat} {f : Nat → Option Nat} (hk : 0 ≤ k ∧ k < n) (he : w k = .inl (G.2 ty, N, .inr (.inr (.inr (.inr f))))) (hty : ty = 3 ∨ ty = 4) (hi : 0 ≤ i ∧ i < N) (hN : N < 2147483648) (d : decode cc pc = .ok (.aaload, 1))
    (kk : Y x G b cl sl n w (pc + 1) lv (va_rf (f i.toNat) :: st)) : Y x G b cl sl n w pc lv (.int (iI i) :: .ref (ad b k) :: st) := by
  obtain ⟨hx, hb, hml, hown, hts, hK, hbs, hlk, hrt, hR, hnm⟩ := hB
  intro H locs ls hRp hS hL
  have hc : va_at G.1 vwCl (ad b k, .inl (G.2 ty, N, .inr (.inr (.inr (.inr f))))) H := (by rw [← he]; exact hRp.2.2 k hk.1 hk.2)
  have hin := iI_in hi hN
  have hcl : (iI i).toNatClampNeg = i.toNat := iI_cl (by omega)
  have hP : va_P G.1 vwCl [(ad b k, .inl (G.2 ty, N, .inr (.inr (.inr (.inr f)))))] H := (fun i q hi => by
    have hi0 : i = 0 := by
      have := (List.getElem?_eq_some_iff.mp hi).1
      simp at this
      exact this
    subst hi0
    cases hi
    exact hc)
  rcases hty with rfl | rfl
  · exact va_aldq hx hb hK.1 hP 0 3 rfl rfl hin d (by rw [hcl]; exact kk H locs ls hRp hS hL)
  · exact va_aldq hx hb hK.1 hP 0 4 rfl rfl hin d (by rw [hcl]; exact kk H locs ls hRp hS hL)
theorem y_iast (hB : Bx x G b own cc nL ret rm nm) {k i v : Int} {N : Nat} {f : Nat → Int32} (hk : 0 ≤ k ∧ k < n) (he : w k = .inl (G.2 0, N, .inl f)) (hi : 0 ≤ i ∧ i < N) (hN : N < 2147483648) (d : decode cc pc = .ok (.iastore, 1))
    (kk : Y x G b cl sl n (upW w k (.inl (G.2 0, N, .inl (upd f i.toNat (iI v))))) (pc + 1) lv st) : Y x G b cl sl n w pc lv (.int (iI v) :: .int (iI i) :: .ref (ad b k) :: st) := by
  obtain ⟨hx, hb, hml, hown, hts, hK, hbs, hlk, hrt, hR, hnm⟩ := hB
  intro H locs ls hRp hS hL
  have hc : H[ad b k]? = some (vp_cell (G.2 0) (N, .inl f)) := (show va_at G.1 vwCl (ad b k, .inl (G.2 0, N, .inl f)) H by rw [← he]; exact hRp.2.2 k hk.1 hk.2)
  have hin := iI_in hi hN
  have hcl : (iI i).toNatClampNeg = i.toNat := iI_cl (by omega)
  refine W.iast hx hb hc ((hK.1.2 0 _ rfl).1 N (fun j => .int (f j))) (fun q => by cases q) (by show ¬ (iI i < 0 ∨ (arrV _ _ _).slots.size ≤ _); rw [arrV_size]; exact hin) rfl rfl d fun H1 e z oq => ?_
  refine kk H1 _ ls (hRp.set hk ?_ z oq) (hS.put z oq (ad_ge b k)) hL
  show H1[ad b k]? = some (vp_cell _ _)
  rw [e]
  rw [vp_cell_i, vp_cell_i, arrV_store]
  congr 2
  funext q
  rw [hcl]
  by_cases hq : q = i.toNat
  · subst hq
    simp [updV, upd]
  · simp [updV, upd, hq]
theorem y_zast (hB : Bx x G b own cc nL ret rm nm) {k i v : Int} {N : Nat} {f : Nat → Int32} (hk : 0 ≤ k ∧ k < n) (he : w k = .inl (G.2 1, N, .inl f)) (hi : 0 ≤ i ∧ i < N) (hN : N < 2147483648) (hv : v = 0 ∨ v = 1) (d : decode cc pc = .ok (.bastore, 1))
    (kk : Y x G b cl sl n (upW w k (.inl (G.2 1, N, .inl (upd f i.toNat (iI v))))) (pc + 1) lv st) : Y x G b cl sl n w pc lv (.int (iI v) :: .int (iI i) :: .ref (ad b k) :: st) := by
  obtain ⟨hx, hb, hml, hown, hts, hK, hbs, hlk, hrt, hR, hnm⟩ := hB
  intro H locs ls hRp hS hL
  have hc : H[ad b k]? = some (vp_cell (G.2 1) (N, .inl f)) := (show va_at G.1 vwCl (ad b k, .inl (G.2 1, N, .inl f)) H by rw [← he]; exact hRp.2.2 k hk.1 hk.2)
  have hin := iI_in hi hN
  have hcl : (iI i).toNatClampNeg = i.toNat := iI_cl (by omega)
  have hnar : narrow .boolean (.int (iI v)) = .int (iI v) := by rcases hv with rfl | rfl <;> rfl
  refine W.zast hx hb hc ((hK.1.2 1 _ rfl).1 N (fun j => .int (f j))) (fun q => by cases q) (by show ¬ (iI i < 0 ∨ (arrV _ _ _).slots.size ≤ _); rw [arrV_size]; exact hin) rfl rfl d fun H1 e z oq => ?_
  refine kk H1 _ ls (hRp.set hk ?_ z oq) (hS.put z oq (ad_ge b k)) hL
  show H1[ad b k]? = some (vp_cell _ _)
  rw [e]
  rw [vp_cell_i, vp_cell_i, arrV_store]
  congr 2
  funext q
  rw [hcl]
  by_cases hq : q = i.toNat
  · subst hq
    simp [updV, upd, hnar]
  · simp [updV, upd, hq]
theorem y_cast (hB : Bx x G b own cc nL ret rm nm) {k i v : Int} {N : Nat} {f : Nat → Int32} (hk : 0 ≤ k ∧ k < n) (he : w k = .inl (G.2 2, N, .inl f)) (hi : 0 ≤ i ∧ i < N) (hN : N < 2147483648) (hv : 0 ≤ v ∧ v < 65536) (d : decode cc pc = .ok (.castore, 1))
    (kk : Y x G b cl sl n (upW w k (.inl (G.2 2, N, .inl (upd f i.toNat (iI v))))) (pc + 1) lv st) : Y x G b cl sl n w pc lv (.int (iI v) :: .int (iI i) :: .ref (ad b k) :: st) := by
  obtain ⟨hx, hb, hml, hown, hts, hK, hbs, hlk, hrt, hR, hnm⟩ := hB
  intro H locs ls hRp hS hL
  have hc : H[ad b k]? = some (vp_cell (G.2 2) (N, .inl f)) := (show va_at G.1 vwCl (ad b k, .inl (G.2 2, N, .inl f)) H by rw [← he]; exact hRp.2.2 k hk.1 hk.2)
  have hin := iI_in hi hN
  have hcl : (iI i).toNatClampNeg = i.toNat := iI_cl (by omega)
  have hnar : narrow .char (.int (iI v)) = .int (iI v) := by
    have h9 := (pk_charN (q := v.toNat) (by omega)).1
    rw [iI_nI, show ((v.toNat : Nat) : Int) = v by omega] at h9
    exact h9
  refine W.cast hx hb hc ((hK.1.2 2 _ rfl).1 N (fun j => .int (f j))) (fun q => by cases q) (by show ¬ (iI i < 0 ∨ (arrV _ _ _).slots.size ≤ _); rw [arrV_size]; exact hin) rfl rfl d fun H1 e z oq => ?_
  refine kk H1 _ ls (hRp.set hk ?_ z oq) (hS.put z oq (ad_ge b k)) hL
  show H1[ad b k]? = some (vp_cell _ _)
  rw [e]
  rw [vp_cell_i, vp_cell_i, arrV_store]
  congr 2
  funext q
  rw [hcl]
  by_cases hq : q = i.toNat
  · subst hq
    simp [updV, upd, hnar]
  · simp [updV, upd, hq]
theorem y_aast (ty : Nat) (hB : Bx x G b own cc nL ret rm nm) {k i v : Int} {N ci : Nat} {f : Nat → Option Nat} {vs : List Value} (hk : 0 ≤ k ∧ k < n) (he : w k = .inl (G.2 ty, N, .inr (.inr (.inr (.inr f))))) (hv : 0 ≤ v ∧ v < n) (hv2 : w v = .inr (ci, vs)) (hty : (ty = 3 ∧ ci = 2) ∨ (ty = 4 ∧ ci = 0)) (hi : 0 ≤ i ∧ i < N) (hN : N < 2147483648) (d : decode cc pc = .ok (.aastore, 1))
    (kk : Y x G b cl sl n (upW w k (.inl (G.2 ty, N, .inr (.inr (.inr (.inr (va_up f i.toNat (some (ad b v))))))))) (pc + 1) lv st) : Y x G b cl sl n w pc lv (.ref (ad b v) :: .int (iI i) :: .ref (ad b k) :: st) := by
  obtain ⟨hx, hb, hml, hown, hts, hK, hbs, hlk, hrt, hR, hnm⟩ := hB
  intro H locs ls hRp hS hL
  have hc : H[ad b k]? = some (vp_cell (G.2 ty) (N, .inr (.inr (.inr (.inr f))))) := (show va_at G.1 vwCl (ad b k, .inl (G.2 ty, N, .inr (.inr (.inr (.inr f))))) H by rw [← he]; exact hRp.2.2 k hk.1 hk.2)
  have hin := iI_in hi hN
  have hcl : (iI i).toNatClampNeg = i.toNat := iI_cl (by omega)
  have hlt : (iI i).toNatClampNeg < N := by rw [hcl]; omega
  have h0 : ¬ iI i < 0 := fun q => hin (Or.inl q)
  obtain ⟨r', hr', cellV, g1, g2, g3, -⟩ := (show va_at G.1 vwCl (ad b v, .inr (ci, vs)) H by rw [← hv2]; exact hRp.2.2 v hv.1 hv.2)
  have key : ∀ (t0 : Nat), (tysG G)[t0]? = some (G.2 ty, .object r'.1) → gW x H locs cl sl (F0 x.2.1.1 pc ls (.ref (ad b v) :: .int (iI i) :: .ref (ad b k) :: st)) := by
    intro t0 ht
    have hcls := (hK.1.1 ci r' hr').2
    obtain ⟨kA, comp, k1, k2, k3, -⟩ := (hK.1.2 t0 _ ht).2
    have hcomp : comp = G.1.1 ci := Option.some.inj (k3.symm.trans hcls.1)
    subst hcomp
    obtain ⟨kC, hkC, -⟩ := hcls.2
    refine W.aast hx hb hc (fun q h => by cases h) (fun h => by cases h) k1 k2 rfl hkC ⟨h0, by show _ < (arrV _ _ _).slots.size; rw [arrV_size]; exact hlt⟩ g1 (fun q h => by rw [g3] at h; cases h) (by rw [g2]; exact hkC) (by rw [g2]; exact va_assign hcls) rfl rfl d fun H1 e z oq => ?_
    refine kk H1 _ ls (hRp.set hk ?_ z oq) (hS.put z oq (ad_ge b k)) hL
    show H1[ad b k]? = some (vp_cell _ _)
    rw [e]
    rw [vp_cell_q, vp_cell_q, arrV_store]
    congr 2
    funext q
    rw [hcl]
    by_cases hq : q = i.toNat
    · subst hq
      simp [updV, va_up, va_rf]
    · simp [updV, va_up, hq]
  rcases hty with ⟨rfl, rfl⟩ | ⟨rfl, rfl⟩
  · cases hr'
    exact key 3 rfl
  · cases hr'
    exact key 4 rfl
/-- System.arraycopy between int arrays -/
theorem y_copyi (hB : Bx x G b own cc nL ret rm nm) {index : Nat} {k0 k1 sp dp m : Int} {n0 n1 : Nat} {f g : Nat → Int32} (hk0 : 0 ≤ k0 ∧ k0 < n) (hk1 : 0 ≤ k1 ∧ k1 < n) (he0 : w k0 = .inl (G.2 0, n0, .inl f)) (he1 : w k1 = .inl (G.2 0, n1, .inl g)) (h1 : 0 ≤ sp ∧ 0 ≤ dp ∧ 0 ≤ m) (h4 : sp + m ≤ n0) (h5 : dp + m ≤ n1) (h0 : n0 < 2147483648) (h9 : n1 < 2147483648)
    (q1 : (.methodLink own index arraycopyName : Cond) ∈ lw_g) (q2 : (.native arraycopyName : Cond) ∈ lw_g) (q3 : (.static arraycopyName : Cond) ∈ lw_g) (q4 : (.initialized "java/lang/System" : Cond) ∈ lw_g) (hfr : 1 ≤ rm.frames) (hlo : (st.map fun v => v.category).sum + (nativeFrameWords "java/lang/System" "arraycopy" 5 + 11) ≤ rm.locals) (d : decode cc pc = .ok (.invokestatic index, 3))
    (kk : Y x G b cl sl n (upW w k1 (.inl (G.2 0, n1, .inl (va_cpy f g sp.toNat dp.toNat m.toNat)))) (pc + 3) lv st) : Y x G b cl sl n w pc lv (.int (iI m) :: .int (iI dp) :: .ref (ad b k1) :: .int (iI sp) :: .ref (ad b k0) :: st) := by
  obtain ⟨hx, hb, hml, hown, hts, hK, hbs, hlk, hrt, hR, hnm⟩ := hB
  subst hR
  intro H locs ls hRp hS hL T hT X
  have hc0 : H[ad b k0]? = some (vp_cell (G.2 0) (n0, .inl f)) := (show va_at G.1 vwCl (ad b k0, .inl (G.2 0, n0, .inl f)) H by rw [← he0]; exact hRp.2.2 k0 hk0.1 hk0.2)
  have hc1 : H[ad b k1]? = some (vp_cell (G.2 0) (n1, .inl g)) := (show va_at G.1 vwCl (ad b k1, .inl (G.2 0, n1, .inl g)) H by rw [← he1]; exact hRp.2.2 k1 hk1.1 hk1.2)
  obtain ⟨-, k0', hk0', cm0, hkk0⟩ := (hK.1.2 0 _ rfl).1 n0 (fun j => .int (f j))
  obtain ⟨-, k1', hk1', cm1, hkk1⟩ := (hK.1.2 0 _ rfl).1 n1 (fun j => .int (g j))
  have cs := iI_cl (u := sp) (by omega)
  have cd := iI_cl (u := dp) (by omega)
  have cm := iI_cl (u := m) (by omega)
  have hneg : ∀ u : Int, 0 ≤ u → u ≤ 2147483647 → ¬ iI u < 0 := fun u h2 h3 h => by
    have := (iI_lt (u := u) (v := 0) (by omega) (by omega)).mp (by rw [iI_0]; exact h)
    omega
  obtain ⟨vm', X', step⟩ := X.arraycopy hx hown (hts _ q1) (hts _ q2) (hts _ q3) (hts _ q4) (src := ad b k0) (dst := ad b k1) (cs := vp_cell (G.2 0) (n0, .inl f)) (cd := vp_cell (G.2 0) (n1, .inl g)) (srcPos := iI sp) (destPos := iI dp) (n := iI m) (by rw [hT]; exact hc0) (by rw [hT]; exact hc1)
    (fun _ h => by cases h) (fun _ h => by cases h) (fun h => by cases h) (fun h => by cases h) hk0' hk1' hkk0 hkk1 (by simp [refKind]) (hneg _ h1.1 (by omega)) (hneg _ h1.2.1 (by omega)) (hneg _ h1.2.2 (by omega))
    (by rw [iI_toInt (by omega), iI_toInt (by omega)]; show ¬ _ > ((arrV (G.2 0) n0 (fun j => .int (f j))).slots.size : Int); rw [arrV_size]; omega)
    (by rw [iI_toInt (by omega), iI_toInt (by omega)]; show ¬ _ > ((arrV (G.2 0) n1 (fun j => .int (g j))).slots.size : Int); rw [arrV_size]; omega)
    (fun vm₁ _ i hi => by
      have e : (vp_cell (G.2 0) (n0, .inl f)).slots.getD ((iI sp).toNatClampNeg + i) .null = .int (f ((iI sp).toNatClampNeg + i)) := by
        show (arrV (G.2 0) n0 (fun j => .int (f j))).slots.getD _ _ = _
        rw [Array.getD_eq_getD_getElem?, arrV_read _ _ (by rw [cm] at hi; rw [cs]; omega)]
        rfl
      refine ⟨?_, ?_⟩
      · rw [e]
        rfl
      · rw [e]
        exact trivial)
    (g := F0 x.2.1.1 pc ls (.int (iI m) :: .int (iI dp) :: .ref (ad b k1) :: .int (iI sp) :: .ref (ad b k0) :: st)) rfl (by rw [hL.1]) (rest := st) rfl (by rw [hb]; exact d) hfr (by show 2 * 0 + _ + _ ≤ _; omega)
  have e1 : copied (vp_cell (G.2 0) (n0, .inl f)) (vp_cell (G.2 0) (n1, .inl g)) (iI sp) (iI dp) (iI m) = vp_cell (G.2 0) (n1, .inl (va_cpy f g (iI sp).toNatClampNeg (iI dp).toNatClampNeg (iI m).toNatClampNeg)) := va_copied (fun z => .int z) (G.2 0) (G.2 0) f g (by rw [cs, cm]; omega)
  rw [e1, cs, cd, cm] at X'
  rw [e1, cs, cd, cm] at step
  have hl : ad b k1 < H.size := (Array.getElem?_eq_some_iff.mp hc1).1
  have hheap : ((T.setVm vm').setCell (ad b k1) (vp_cell (G.2 0) (n1, .inl (va_cpy f g sp.toNat dp.toNat m.toNat)))).heap = H.setIfInBounds (ad b k1) (vp_cell (G.2 0) (n1, .inl (va_cpy f g sp.toNat dp.toNat m.toNat))) := by rw [← hT]; rfl
  have oq : ∀ q : Nat, q ≠ ad b k1 → (H.setIfInBounds (ad b k1) (vp_cell (G.2 0) (n1, .inl (va_cpy f g sp.toNat dp.toNat m.toNat))))[q]? = H[q]? := fun q hq => by simp [Array.getElem?_setIfInBounds, Ne.symm hq]
  obtain ⟨t, a1, b1⟩ := kk _ _ ls (hRp.set hk1 (show (H.setIfInBounds (ad b k1) _)[ad b k1]? = some _ by simp [Array.getElem?_setIfInBounds, hl]) (by simp) oq) ⟨by simp; exact hS.1, fun q g1 g2 => by
      rw [oq q (fun e => g2 (by rw [e]; exact ad_ge b k1))]
      exact hS.2.1 q g1 g2, fun q hq => by
      rcases List.mem_append.mp hq with h | h
      · exact hS.2.2 q h
      · obtain ⟨z, -, hz⟩ := List.mem_map.mp h
        rw [← hz]
        exact ad_ge b k1⟩ hL _ hheap X'
  exact ⟨t, step t a1, b1⟩
/-- making -/
theorem y_new (hB : Bx x G b own cc nL ret rm nm) {C : String} {T : u_T} {N ci index : Nat} (ty : Nat → FieldType) (hty : ∀ k, k < N → parseFieldDescriptor (T k).2.2.1 = some (ty k)) (hin : ∀ w ∈ u_ws C T N, w ∈ lw_g) (q1 : (.classLink own index C : Cond) ∈ lw_g) (q2 : (.instantiable C N : Cond) ∈ lw_g) (q3 : (.initialized C : Cond) ∈ lw_g) (hc : vwCl[ci]? = some (C, T, N)) {fs : List Value} (hfs : ∀ j, j < N → defaultValue (ty j) = vp_V fs j) (hcells : cl + 1 ≤ rm.cells) (hslots : sl + N ≤ rm.slots) (d : decode cc pc = .ok (.new index, 3))
    (kk : Y x G b (cl + 1) (sl + N) (n + 1) (upW w n (.inr (ci, fs))) (pc + 3) lv (.ref (ad b n) :: st)) : Y x G b cl sl n w pc lv st := by
  obtain ⟨hx, hb, hml, hown, hts, hK, hbs, hlk, hrt, hR, hnm⟩ := hB
  subst hR
  intro H locs ls hRp hS hL
  have hKn := hK.1.1 ci _ hc
  refine W.newcK hx hb hown (hts _ q1) (hts _ q2) (hts _ q3) rfl d hcells hslots hKn.2.1 hRp.2.1 fun H1 kC hkC e1 z1 o1 => ?_
  rw [← hRp.2.1] at z1 o1
  exact kk H1 locs ls (hRp.push ⟨_, hc, (u_born ty hts hin hKn hkC e1 hty).to hfs⟩ z1 o1) ⟨Nat.le_trans hS.1 (by omega), fun x h1 h2 => (o1 x (Nat.lt_of_lt_of_le h1 hS.1)).trans (hS.2.1 x h1 h2), hS.2.2⟩ hL
theorem y_newa (ty : Nat) (hB : Bx x G b own cc nL ret rm nm) {atype : ArrayType} {m : Int} {N : Nat} (hty : (ty = 0 ∧ atype = .int) ∨ (ty = 1 ∧ atype = .boolean) ∨ (ty = 2 ∧ atype = .char)) (q1 : (.arrayClass (newarray.typeOf atype) : Cond) ∈ lw_g) (hm : m = (N : Int)) (hN : N < 10000) (hcells : cl + 1 ≤ rm.cells) (hslots : sl + N ≤ rm.slots) (d : decode cc pc = .ok (.newarray atype, 2))
    (kk : Y x G b (cl + 1) (sl + N) (n + 1) (upW w n (.inl (G.2 ty, N, .inl (fun _ => iI 0)))) (pc + 2) lv (.ref (ad b n) :: st)) : Y x G b cl sl n w pc lv (.int (iI m) :: st) := by
  obtain ⟨hx, hb, hml, hown, hts, hK, hbs, hlk, hrt, hR, hnm⟩ := hB
  subst hR
  intro H locs ls hRp hS hL
  have hneg : ¬ iI m < 0 := fun h => by
    have := (iI_lt (u := m) (v := 0) (by omega) (by omega)).mp (by rw [iI_0]; exact h)
    omega
  have hcl : (iI m).toNatClampNeg = N := by rw [iI_cl (by omega)]; omega
  refine va_newaK hx hb (hts _ q1) rfl d rfl hneg hcl (by rcases hty with ⟨-, rfl⟩ | ⟨-, rfl⟩ | ⟨-, rfl⟩ <;> (simp [newarray.typeOf, componentBytes]; omega)) hcells hslots hRp.2.1 fun H1 cA e1 z1 o1 hAr hNm => ?_
  rw [← hRp.2.1] at z1 o1
  have hcA : cA = G.2 ty := by
    rcases hty with ⟨rfl, rfl⟩ | ⟨rfl, rfl⟩ | ⟨rfl, rfl⟩
    · exact Option.some.inj (hNm.symm.trans (hK.1.2 0 _ rfl).2)
    · exact Option.some.inj (hNm.symm.trans (hK.1.2 1 _ rfl).2)
    · exact Option.some.inj (hNm.symm.trans (hK.1.2 2 _ rfl).2)
  subst hcA
  refine kk H1 locs ls (hRp.push ?_ z1 o1) ⟨Nat.le_trans hS.1 (by omega), fun x h1 h2 => (o1 x (Nat.lt_of_lt_of_le h1 hS.1)).trans (hS.2.1 x h1 h2), hS.2.2⟩ hL
  show H1[ad b n]? = some (vp_cell _ _)
  rw [e1, vp_cell_i]
  rcases hty with ⟨rfl, rfl⟩ | ⟨rfl, rfl⟩ | ⟨rfl, rfl⟩ <;> rfl
theorem y_anew (ty : Nat) (hB : Bx x G b own cc nL ret rm nm) {C : String} {index : Nat} {m : Int} {N : Nat} (hty : (ty = 3 ∧ C = RX2) ∨ (ty = 4 ∧ C = RX0)) (q1 : (.classLink own index C : Cond) ∈ lw_g) (hm : m = (N : Int)) (hN : N < 10000) (hcells : cl + 1 ≤ rm.cells) (hslots : sl + N ≤ rm.slots) (d : decode cc pc = .ok (.anewarray index, 3))
    (kk : Y x G b (cl + 1) (sl + N) (n + 1) (upW w n (.inl (G.2 ty, N, .inr (.inr (.inr (.inr (fun _ => none))))))) (pc + 3) lv (.ref (ad b n) :: st)) : Y x G b cl sl n w pc lv (.int (iI m) :: st) := by
  obtain ⟨hx, hb, hml, hown, hts, hK, hbs, hlk, hrt, hR, hnm⟩ := hB
  subst hR
  intro H locs ls hRp hS hL
  have hneg : ¬ iI m < 0 := fun h => by
    have := (iI_lt (u := m) (v := 0) (by omega) (by omega)).mp (by rw [iI_0]; exact h)
    omega
  have hcl : (iI m).toNatClampNeg = N := by rw [iI_cl (by omega)]; omega
  subst hcl
  have hover : va_AO C (gs x) := by
    rcases hty with ⟨-, rfl⟩ | ⟨-, rfl⟩
    · exact hK.2.1
    · exact hK.2.2.1
  refine W.anew hx hb hown (hts _ q1) (va_AO.use hover) rfl d rfl hneg (by omega) hcells hslots fun cA kA comp f1 f2 f3 f4 => ?_
  generalize hH1 : H.push ({ cls := cA, slots := Array.replicate (iI m).toNatClampNeg .null, vm := .none } : Cell) = H1
  have z1 : H1.size = H.size + 1 := by rw [← hH1, Array.size_push]
  have e1 : H1[H.size]? = some (arrV cA (iI m).toNatClampNeg (fun _ => .null)) := by rw [← hH1, Array.getElem?_push_size, ← arrV_new]
  have o1 : ∀ q : Nat, q < H.size → H1[q]? = H[q]? := fun q hq => by rw [← hH1, Array.getElem?_push, if_neg (Nat.ne_of_lt hq)]
  have hcA : cA = G.2 ty := by
    rcases hty with ⟨rfl, rfl⟩ | ⟨rfl, rfl⟩
    · obtain ⟨_, _, -, -, -, g4⟩ := (hK.1.2 3 _ rfl).2
      exact Option.some.inj (f1.symm.trans g4)
    · obtain ⟨_, _, -, -, -, g4⟩ := (hK.1.2 4 _ rfl).2
      exact Option.some.inj (f1.symm.trans g4)
  subst hcA
  have hsz := hRp.2.1
  show gW x H1 locs (cl + 1) (sl + (iI m).toNatClampNeg) (F0 x.2.1.1 (pc + 3) ls (.ref H.size :: st))
  rw [hsz]
  rw [hsz] at e1
  refine kk H1 locs ls (hRp.push ?_ z1 o1) ⟨Nat.le_trans hS.1 (by omega), fun x h1 h2 => (o1 x (Nat.lt_of_lt_of_le h1 hS.1)).trans (hS.2.1 x h1 h2), hS.2.2⟩ hL
  show H1[ad b n]? = some (vp_cell _ _)
  rw [e1, vp_cell_q]
  rfl
theorem y_objInit (hB : Bx x G b own cc nL ret rm nm) {index : Nat} {v : Nat} (q1 : (.methodLink own index objectInit : Cond) ∈ lw_g) (q2 : (.instanceMethod objectInit : Cond) ∈ lw_g) (q3 : (.code objectInit ⟨#[0xb1]⟩ 1 none : Cond) ∈ lw_g) (d : decode cc pc = .ok (.invokespecial index, 3)) (hfr : 1 ≤ rm.frames) (hlo : (st.map fun v => v.category).sum + 12 ≤ rm.locals)
    (kk : Y x G b cl sl n w (pc + 3) lv st) : Y x G b cl sl n w pc lv (.ref v :: st) := by
  obtain ⟨hx, hb, hml, hown, hts, hK, hbs, hlk, hrt, hR, hnm⟩ := hB
  subst hR
  intro H locs ls hRp hS hL
  exact W.objInit hx hb hown (hts _ q1) (hts _ q2) (hts _ q3) rfl hL.1 rfl d hfr (by show 2 * 0 + _ + 12 ≤ _; omega) (kk H locs ls hRp hS hL)
end
/-- the field words of the classes -/
theorem inX0 : ∀ w ∈ u_ws RX0 TX0 7, w ∈ lw_g := by decide +kernel
theorem inX1 : ∀ w ∈ u_ws RX1 TX1 3, w ∈ lw_g := by decide +kernel
theorem inX2 : ∀ w ∈ u_ws RX2 TX2 10, w ∈ lw_g := by decide +kernel
theorem inX3 : ∀ w ∈ u_ws RX3 TX3 4, w ∈ lw_g := by decide +kernel
theorem inX4 : ∀ w ∈ u_ws RX4 TX4 5, w ∈ lw_g := by decide +kernel
theorem inX5 : ∀ w ∈ u_ws RX5 TX5 3, w ∈ lw_g := by decide +kernel
theorem inX6 : ∀ w ∈ u_ws RX6 TX6 7, w ∈ lw_g := by decide +kernel
theorem inX7 : ∀ w ∈ u_ws RX7 TX7 14, w ∈ lw_g := by decide +kernel
end
section
/-! calls -/
def Ms (y : MethodName) (cc : ByteArray) (nL : Nat) (ret : Option FieldType) (na : Nat) : Prop := (.code y cc nL ret : Cond) ∈ lw_g ∧ (.instanceMethod y : Cond) ∈ lw_g ∧ (.selects y.cls y y : Cond) ∈ lw_g ∧ (.initialized y.cls : Cond) ∈ lw_g ∧ y.cls ≠ "java/lang/invoke/MethodHandle" ∧ y.cls ≠ "java/lang/invoke/VarHandle" ∧ (parseMethodDescriptor y.desc).map (fun d => d.parameters.length) = some na
def Mt (y : MethodName) (cc : ByteArray) (nL : Nat) (ret : Option FieldType) (na : Nat) : Prop := (.code y cc nL ret : Cond) ∈ lw_g ∧ (.static y : Cond) ∈ lw_g ∧ (.initialized y.cls : Cond) ∈ lw_g ∧ y.cls ≠ "java/lang/invoke/MethodHandle" ∧ y.cls ≠ "java/lang/invoke/VarHandle" ∧ (parseMethodDescriptor y.desc).map (fun d => d.parameters.length) = some na
def Mi (y : MethodName) (cc : ByteArray) (nL : Nat) (na : Nat) : Prop := (.code y cc nL none : Cond) ∈ lw_g ∧ (.instanceMethod y : Cond) ∈ lw_g ∧ (.initialized y.cls : Cond) ∈ lw_g ∧ y.cls ≠ "java/lang/invoke/MethodHandle" ∧ y.cls ≠ "java/lang/invoke/VarHandle" ∧ (parseMethodDescriptor y.desc).map (fun d => d.parameters.length) = some na ∧ y.name = "<init>"
theorem good_g {w : Cond} (h : w ∈ lw_g) : (w.onTables && w.keeps) = true ∨ ∃ ty, w = .arrayClass ty := good_of_word (List.mem_filter.mp h).2
theorem gd_app {a c : List Cond} (ha : ∀ w ∈ a, w ∈ lw_g) (hc : GoodIn lw_g c) : GoodIn lw_g (a ++ c) := fun w h => (List.mem_append.mp h).elim (fun h => ⟨ha w h, good_g (ha w h)⟩) (hc w)
section
variable {x : gX} {G : gG} {b cl sl nL : Nat} {own nm : String} {cc : ByteArray} {ret : Option FieldType} {rm : Room} {n : Int} {w : Int → va_E} {pc : Nat} {lv : List (Nat × Value)} {st stk : List Value}
variable {y : MethodName} {cc' : ByteArray} {nL' na index : Nat} {ret' : Option FieldType} {rm' : Room} {K : State → Prop} {av : List Value} {Po : gP}
/-- behind a call -/
theorem y_back {Qa : Array Value} (kk : ∀ (r : Option Value) (n' : Int) (w' : Int → va_E), Po r n' w' → Y x G b (cl + rm'.cells) (sl + rm'.slots) n' w' (pc + 3) lv (r.toList ++ st)) {H : Heap} {locs : List Loc} {ls : Array Slot} (hS : va_S (fun q => b ≤ q) (gs x).heap H locs) (hL : lv_has ls (gc x).maxLocals lv)
    (hr : va_Run x.1.1 x.1.2.1 x.1.2.2.1 x.1.2.2.2.1 (gs x) x.2.1.1 x.2.1.2.1 x.2.1.2.2.1 x.2.1.2.2.2.1 (gc x) H locs cl sl rm'.cells rm'.slots (F0 x.2.1.1 pc ls stk) st (Qx G b Po Qa) (fun q => b ≤ q)) : gW x H locs cl sl (F0 x.2.1.1 pc ls stk) := by
  intro T hT X
  obtain ⟨v, st₀, t, T', L, h0, X', hL9, e1, e2, ⟨r, n', w', hv, hp, hRp, hz, hk⟩, stp⟩ := hr T hT X
  cases hv
  rw [h0] at hz hk
  obtain ⟨t2, a1, b1⟩ := kk _ n' w' hp T'.heap (locs ++ L) ls (by rw [e1]; exact hRp)
    ⟨Nat.le_trans hS.1 (by rw [e1]; exact hz), fun q h1 h2 => by rw [e1, hk q (Nat.lt_of_lt_of_le h1 hS.1) h2]; exact hS.2.1 q h1 h2, fun q hq => by
      rcases List.mem_append.mp hq with h | h
      · exact hS.2.2 q h
      · exact hL9 q h⟩ hL T' rfl X'
  exact ⟨t2, stp t2 a1, b1⟩
theorem y_callVK (hB : Bx x G b own cc nL ret rm nm) (hM : Ms y cc' nL' ret' na) (q1 : (.methodLink own index y : Cond) ∈ lw_g) {k : Int} {As : List Value} (hC : CtK x.1.2.1 G b K y cc' nL' ret' rm' (.ref (ad b k) :: As) n w Po)
    (hKb : ∀ (U : State) (g : JFrame) (mk : MethodId) (a : Array Value), K U → K (U.calling g mk a)) (hKs : ∀ (H : Heap) (locs : List Loc) (U : State), va_S (fun q => b ≤ q) (gs x).heap H locs → U.heap = H → (gs x).WarmedH U.vm → K U)
    (hk : 0 ≤ k ∧ k < n) {ci : Nat} {fs : List Value} {qq : vw_C} (hw : w k = .inr (ci, fs)) (hc : vwCl[ci]? = some qq) (hcn : qq.1 = y.cls) (hn : As.length = na) (hst : stk = As.reverse ++ .ref (ad b k) :: st) (hR0 : rm'.frames + 1 ≤ rm.frames ∧ 8 + (nL' + 11) + rm'.locals ≤ rm.locals) (hrs : (st.map fun v => v.category).sum ≤ 8) (hcl : cl + rm'.cells ≤ rm.cells ∧ sl + rm'.slots ≤ rm.slots) (d : decode cc pc = .ok (.invokevirtual index, 3))
    (kk : ∀ (r : Option Value) (n' : Int) (w' : Int → va_E), Po r n' w' → Y x G b (cl + rm'.cells) (sl + rm'.slots) n' w' (pc + 3) lv (r.toList ++ st)) : Y x G b cl sl n w pc lv stk := by
  obtain ⟨hx, hb, hml, hown, hts, hK, hbs, hlk, hrt, hR, hnm⟩ := hB
  obtain ⟨m1, m2, m3, m4, m5, m6, m7⟩ := hM
  subst hR
  intro H locs ls hRp hS hL
  have hrec := hRp.recv hK hk hw hc
  rw [hcn] at hrec
  refine y_back kk hS hL (va_runV (C := y.cls) (n := na) (nL := nL) ⟨hx, hb, hml, hown, hts⟩ hC (cwV na hts (gd_app (fun w hw => by
    simp only [List.mem_cons, List.not_mem_nil, or_false] at hw
    rcases hw with rfl | rfl | rfl | rfl
    · exact q1
    · exact m2
    · exact m3
    · exact m4) (gd_all m1)) rfl rfl rfl ⟨rfl, m5, m6, m7⟩ hR0) ⟨Px.blind hKb, hrec, fun U hU hW => ⟨rfl, by rw [hU]; exact hRp, hK.warm hW, hKs H locs U hS hU hW⟩⟩ rfl hn (by rw [← hml]; exact hL.1) hst (by show 2 * 0 + _ ≤ 8; omega) d hcl)
theorem y_callSK (hB : Bx x G b own cc nL ret rm nm) (hM : Mt y cc' nL' ret' na) (q1 : (.methodLink own index y : Cond) ∈ lw_g) {As : List Value} (hC : CtK x.1.2.1 G b K y cc' nL' ret' rm' As n w Po)
    (hKb : ∀ (U : State) (g : JFrame) (mk : MethodId) (a : Array Value), K U → K (U.calling g mk a)) (hKs : ∀ (H : Heap) (locs : List Loc) (U : State), va_S (fun q => b ≤ q) (gs x).heap H locs → U.heap = H → (gs x).WarmedH U.vm → K U)
    (hn : As.length = na) (hst : stk = As.reverse ++ st) (hR0 : rm'.frames + 1 ≤ rm.frames ∧ 8 + (nL' + 11) + rm'.locals ≤ rm.locals) (hrs : (st.map fun v => v.category).sum ≤ 8) (hcl : cl + rm'.cells ≤ rm.cells ∧ sl + rm'.slots ≤ rm.slots) (d : decode cc pc = .ok (.invokestatic index, 3))
    (kk : ∀ (r : Option Value) (n' : Int) (w' : Int → va_E), Po r n' w' → Y x G b (cl + rm'.cells) (sl + rm'.slots) n' w' (pc + 3) lv (r.toList ++ st)) : Y x G b cl sl n w pc lv stk := by
  obtain ⟨hx, hb, hml, hown, hts, hK, hbs, hlk, hrt, hR, hnm⟩ := hB
  obtain ⟨m1, m2, m4, m5, m6, m7⟩ := hM
  subst hR
  intro H locs ls hRp hS hL
  refine y_back kk hS hL (va_runS (n := na) (nL := nL) ⟨hx, hb, hml, hown, hts⟩ hC (va_cwS na hts (gd_app (fun w hw => by
    simp only [List.mem_cons, List.not_mem_nil, or_false] at hw
    rcases hw with rfl | rfl | rfl
    · exact q1
    · exact m2
    · exact m4) (gd_all m1)) rfl rfl rfl ⟨m5, m6, m7⟩ hR0) ⟨Px.blind hKb, fun U hU hW => ⟨rfl, by rw [hU]; exact hRp, hK.warm hW, hKs H locs U hS hU hW⟩⟩ rfl hn (by rw [← hml]; exact hL.1) hst (by show 2 * 0 + _ ≤ 8; omega) d hcl)
theorem y_callSNK (hB : Bx x G b own cc nL ret rm nm) (hM : Mt y cc' nL' ret' na) {host : String} (q1 : (.methodLinkNest own index y host : Cond) ∈ nestW) {As : List Value} (hC : CtK x.1.2.1 G b K y cc' nL' ret' rm' As n w Po)
    (hKb : ∀ (U : State) (g : JFrame) (mk : MethodId) (a : Array Value), K U → K (U.calling g mk a)) (hKs : ∀ (H : Heap) (locs : List Loc) (U : State), va_S (fun q => b ≤ q) (gs x).heap H locs → U.heap = H → (gs x).WarmedH U.vm → K U)
    (hn : As.length = na) (hst : stk = As.reverse ++ st) (hR0 : rm'.frames + 1 ≤ rm.frames ∧ 8 + (nL' + 11) + rm'.locals ≤ rm.locals) (hrs : (st.map fun v => v.category).sum ≤ 8) (hcl : cl + rm'.cells ≤ rm.cells ∧ sl + rm'.slots ≤ rm.slots) (d : decode cc pc = .ok (.invokestatic index, 3))
    (kk : ∀ (r : Option Value) (n' : Int) (w' : Int → va_E), Po r n' w' → Y x G b (cl + rm'.cells) (sl + rm'.slots) n' w' (pc + 3) lv (r.toList ++ st)) : Y x G b cl sl n w pc lv stk := by
  obtain ⟨hx, hb, hml, hown, hts, hK, hbs, hlk, hrt, hR, hnm⟩ := hB
  obtain ⟨m1, m2, m4, m5, m6, m7⟩ := hM
  subst hR
  intro H locs ls hRp hS hL
  exact y_back kk hS hL (va_runSN (n := na) (nL := nL) (host := host) ⟨hx, hb, hml, hown, hts⟩ hC ⟨va_cnB na hts (gd_all m1) rfl rfl rfl (hK.2.2.2 _ q1) (hts _ m4) ⟨m5, m6, m7⟩ hR0, hts _ m2, trivial⟩ ⟨Px.blind hKb, fun U hU hW => ⟨rfl, by rw [hU]; exact hRp, hK.warm hW, hKs H locs U hS hU hW⟩⟩ rfl hn (by rw [← hml]; exact hL.1) hst (by show 2 * 0 + _ ≤ 8; omega) d hcl)
theorem y_callI (hB : Bx x G b own cc nL ret rm nm) (hM : Mi y cc' nL' na) (q1 : (.methodLink own index y : Cond) ∈ lw_g) {k : Nat} {As : List Value} (hC : Ct x.1.2.1 G b y cc' nL' none rm' (.ref k :: As) n w Po)
    (hn : As.length = na) (hst : stk = As.reverse ++ .ref k :: st) (hR0 : rm'.frames + 1 ≤ rm.frames ∧ 8 + (nL' + 11) + rm'.locals ≤ rm.locals) (hrs : (st.map fun v => v.category).sum ≤ 8) (hcl : cl + rm'.cells ≤ rm.cells ∧ sl + rm'.slots ≤ rm.slots) (d : decode cc pc = .ok (.invokespecial index, 3))
    (kk : ∀ (r : Option Value) (n' : Int) (w' : Int → va_E), Po r n' w' → Y x G b (cl + rm'.cells) (sl + rm'.slots) n' w' (pc + 3) lv (r.toList ++ st)) : Y x G b cl sl n w pc lv stk := by
  obtain ⟨hx, hb, hml, hown, hts, hK, hbs, hlk, hrt, hR, hnm⟩ := hB
  obtain ⟨m1, m2, m4, m5, m6, m7, m8⟩ := hM
  subst hR
  intro H locs ls hRp hS hL
  exact y_back kk hS hL (va_runI (n := na) (nL := nL) ⟨hx, hb, hml, hown, hts⟩ hC (cwI na hts (gd_all m1) rfl rfl rfl (hts _ m4) (hts _ q1) (hts _ m2) m8 ⟨m5, m6, m7⟩ hR0) ⟨Px.blind (fun _ _ _ _ h => h), fun U hU hW => ⟨rfl, by rw [hU]; exact hRp, hK.warm hW, trivial⟩⟩ rfl hn (by rw [← hml]; exact hL.1) hst (by show 2 * 0 + _ ≤ 8; omega) d hcl)
theorem y_callIN (hB : Bx x G b own cc nL ret rm nm) (hM : Mi y cc' nL' na) {host : String} (q1 : (.methodLinkNest own index y host : Cond) ∈ nestW) {k : Nat} {As : List Value} (hC : Ct x.1.2.1 G b y cc' nL' none rm' (.ref k :: As) n w Po)
    (hn : As.length = na) (hst : stk = As.reverse ++ .ref k :: st) (hR0 : rm'.frames + 1 ≤ rm.frames ∧ 8 + (nL' + 11) + rm'.locals ≤ rm.locals) (hrs : (st.map fun v => v.category).sum ≤ 8) (hcl : cl + rm'.cells ≤ rm.cells ∧ sl + rm'.slots ≤ rm.slots) (d : decode cc pc = .ok (.invokespecial index, 3))
    (kk : ∀ (r : Option Value) (n' : Int) (w' : Int → va_E), Po r n' w' → Y x G b (cl + rm'.cells) (sl + rm'.slots) n' w' (pc + 3) lv (r.toList ++ st)) : Y x G b cl sl n w pc lv stk := by
  obtain ⟨hx, hb, hml, hown, hts, hK, hbs, hlk, hrt, hR, hnm⟩ := hB
  obtain ⟨m1, m2, m4, m5, m6, m7, m8⟩ := hM
  subst hR
  intro H locs ls hRp hS hL
  exact y_back kk hS hL (va_runIN (n := na) (nL := nL) (host := host) ⟨hx, hb, hml, hown, hts⟩ hC ⟨va_cnB na hts (gd_all m1) rfl rfl rfl (hK.2.2.2 _ q1) (hts _ m4) ⟨m5, m6, m7⟩ hR0, m8, hts _ m2⟩ ⟨Px.blind (fun _ _ _ _ h => h), fun U hU hW => ⟨rfl, by rw [hU]; exact hRp, hK.warm hW, trivial⟩⟩ rfl hn (by rw [← hml]; exact hL.1) hst (by show 2 * 0 + _ ≤ 8; omega) d hcl)
end
end
