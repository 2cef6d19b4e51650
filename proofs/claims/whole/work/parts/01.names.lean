-- ===== PART A: goes FIRST, ahead of the names: the tables' words, and 'selects' of the private methods out of them =====
/-- a private method of a class that the tables say can be made, by its rows of tables_1 -/
def lw_okq (q : MethodName × Nat) : Prop := (q.1.cls ≠ "java/lang/invoke/MethodHandle" ∧ q.1.cls ≠ "java/lang/invoke/VarHandle") ∧ Cond.instantiable q.1.cls q.2 ∈ tables_1 ∧ Cond.privateMethod q.1 ∈ tables_1 ∧ Cond.instanceMethod q.1 ∈ tables_1
theorem lw_p0 : lw_okq (⟨"LivesAhead$History", "stateAt", "(I)LLivesAhead$Desk;"⟩, 3) := ⟨⟨by decide +kernel, by decide +kernel⟩, List.mem_of_getElem? (i := 89) (by decide +kernel), List.mem_of_getElem? (i := 207) (by decide +kernel), List.mem_of_getElem? (i := 208) (by decide +kernel)⟩
theorem lw_p1 : lw_okq (⟨"LivesAhead$PersonsText", "readPerson", "(LLivesAhead$Life;I)Z"⟩, 5) := ⟨⟨by decide +kernel, by decide +kernel⟩, List.mem_of_getElem? (i := 108) (by decide +kernel), List.mem_of_getElem? (i := 256) (by decide +kernel), List.mem_of_getElem? (i := 257) (by decide +kernel)⟩
theorem lw_p2 : lw_okq (⟨"LivesAhead$PersonsText", "takeAge", "()I"⟩, 5) := ⟨⟨by decide +kernel, by decide +kernel⟩, List.mem_of_getElem? (i := 108) (by decide +kernel), List.mem_of_getElem? (i := 260) (by decide +kernel), List.mem_of_getElem? (i := 261) (by decide +kernel)⟩
theorem lw_p3 : lw_okq (⟨"LivesAhead$PersonsText", "takeDigit", "(II)I"⟩, 5) := ⟨⟨by decide +kernel, by decide +kernel⟩, List.mem_of_getElem? (i := 108) (by decide +kernel), List.mem_of_getElem? (i := 264) (by decide +kernel), List.mem_of_getElem? (i := 265) (by decide +kernel)⟩
theorem lw_p4 : lw_okq (⟨"LivesAhead$PersonsText", "takes", "(C)Z"⟩, 5) := ⟨⟨by decide +kernel, by decide +kernel⟩, List.mem_of_getElem? (i := 108) (by decide +kernel), List.mem_of_getElem? (i := 272) (by decide +kernel), List.mem_of_getElem? (i := 273) (by decide +kernel)⟩
theorem lw_p5 : lw_okq (⟨"LivesAhead$PersonsText", "readFact", "(LLivesAhead$Life;I)Z"⟩, 5) := ⟨⟨by decide +kernel, by decide +kernel⟩, List.mem_of_getElem? (i := 108) (by decide +kernel), List.mem_of_getElem? (i := 277) (by decide +kernel), List.mem_of_getElem? (i := 278) (by decide +kernel)⟩
theorem lw_p6 : lw_okq (⟨"LivesAhead$Page", "queueDead", "(LLivesAhead$Desk;)V"⟩, 4) := ⟨⟨by decide +kernel, by decide +kernel⟩, List.mem_of_getElem? (i := 149) (by decide +kernel), List.mem_of_getElem? (i := 472) (by decide +kernel), List.mem_of_getElem? (i := 473) (by decide +kernel)⟩
theorem lw_p7 : lw_okq (⟨"LivesAheadModel", "record", "()V"⟩, 14) := ⟨⟨by decide +kernel, by decide +kernel⟩, List.mem_of_getElem? (i := 704) (by decide +kernel), List.mem_of_getElem? (i := 761) (by decide +kernel), List.mem_of_getElem? (i := 762) (by decide +kernel)⟩
theorem lw_p8 : lw_okq (⟨"LivesAheadModel", "come", "(II)I"⟩, 14) := ⟨⟨by decide +kernel, by decide +kernel⟩, List.mem_of_getElem? (i := 704) (by decide +kernel), List.mem_of_getElem? (i := 765) (by decide +kernel), List.mem_of_getElem? (i := 766) (by decide +kernel)⟩
theorem lw_p9 : lw_okq (⟨"LivesAheadModel", "faultOf", "()I"⟩, 14) := ⟨⟨by decide +kernel, by decide +kernel⟩, List.mem_of_getElem? (i := 704) (by decide +kernel), List.mem_of_getElem? (i := 776) (by decide +kernel), List.mem_of_getElem? (i := 777) (by decide +kernel)⟩
theorem lw_p10 : lw_okq (⟨"LivesAheadModel", "readsPerson", "()Z"⟩, 14) := ⟨⟨by decide +kernel, by decide +kernel⟩, List.mem_of_getElem? (i := 704) (by decide +kernel), List.mem_of_getElem? (i := 780) (by decide +kernel), List.mem_of_getElem? (i := 781) (by decide +kernel)⟩
theorem lw_p11 : lw_okq (⟨"LivesAheadModel", "age", "()I"⟩, 14) := ⟨⟨by decide +kernel, by decide +kernel⟩, List.mem_of_getElem? (i := 704) (by decide +kernel), List.mem_of_getElem? (i := 784) (by decide +kernel), List.mem_of_getElem? (i := 785) (by decide +kernel)⟩
theorem lw_p12 : lw_okq (⟨"LivesAheadModel", "digit", "(CC)I"⟩, 14) := ⟨⟨by decide +kernel, by decide +kernel⟩, List.mem_of_getElem? (i := 704) (by decide +kernel), List.mem_of_getElem? (i := 788) (by decide +kernel), List.mem_of_getElem? (i := 789) (by decide +kernel)⟩
theorem lw_p13 : lw_okq (⟨"LivesAheadModel", "isSign", "(ICC)Z"⟩, 14) := ⟨⟨by decide +kernel, by decide +kernel⟩, List.mem_of_getElem? (i := 704) (by decide +kernel), List.mem_of_getElem? (i := 792) (by decide +kernel), List.mem_of_getElem? (i := 793) (by decide +kernel)⟩
theorem lw_p14 : lw_okq (⟨"LivesAheadModel", "accepts", "(C)Z"⟩, 14) := ⟨⟨by decide +kernel, by decide +kernel⟩, List.mem_of_getElem? (i := 704) (by decide +kernel), List.mem_of_getElem? (i := 796) (by decide +kernel), List.mem_of_getElem? (i := 797) (by decide +kernel)⟩
theorem lw_p15 : lw_okq (⟨"LivesAheadModel", "readsFact", "(I)Z"⟩, 14) := ⟨⟨by decide +kernel, by decide +kernel⟩, List.mem_of_getElem? (i := 704) (by decide +kernel), List.mem_of_getElem? (i := 800) (by decide +kernel), List.mem_of_getElem? (i := 801) (by decide +kernel)⟩
def lw_privs_1 : List (MethodName × Nat) := [(⟨"LivesAhead$History", "stateAt", "(I)LLivesAhead$Desk;"⟩, 3), (⟨"LivesAhead$PersonsText", "readPerson", "(LLivesAhead$Life;I)Z"⟩, 5), (⟨"LivesAhead$PersonsText", "takeAge", "()I"⟩, 5), (⟨"LivesAhead$PersonsText", "takeDigit", "(II)I"⟩, 5), (⟨"LivesAhead$PersonsText", "takes", "(C)Z"⟩, 5), (⟨"LivesAhead$PersonsText", "readFact", "(LLivesAhead$Life;I)Z"⟩, 5), (⟨"LivesAhead$Page", "queueDead", "(LLivesAhead$Desk;)V"⟩, 4), (⟨"LivesAheadModel", "record", "()V"⟩, 14), (⟨"LivesAheadModel", "come", "(II)I"⟩, 14), (⟨"LivesAheadModel", "faultOf", "()I"⟩, 14), (⟨"LivesAheadModel", "readsPerson", "()Z"⟩, 14), (⟨"LivesAheadModel", "age", "()I"⟩, 14), (⟨"LivesAheadModel", "digit", "(CC)I"⟩, 14), (⟨"LivesAheadModel", "isSign", "(ICC)Z"⟩, 14), (⟨"LivesAheadModel", "accepts", "(C)Z"⟩, 14), (⟨"LivesAheadModel", "readsFact", "(I)Z"⟩, 14)]
theorem lw_r1 : ∀ q ∈ lw_privs_1, lw_okq q := List.forall_mem_cons.mpr ⟨lw_p0, List.forall_mem_cons.mpr ⟨lw_p1, List.forall_mem_cons.mpr ⟨lw_p2, List.forall_mem_cons.mpr ⟨lw_p3, List.forall_mem_cons.mpr ⟨lw_p4, List.forall_mem_cons.mpr ⟨lw_p5, List.forall_mem_cons.mpr ⟨lw_p6, List.forall_mem_cons.mpr ⟨lw_p7, List.forall_mem_cons.mpr ⟨lw_p8, List.forall_mem_cons.mpr ⟨lw_p9, List.forall_mem_cons.mpr ⟨lw_p10, List.forall_mem_cons.mpr ⟨lw_p11, List.forall_mem_cons.mpr ⟨lw_p12, List.forall_mem_cons.mpr ⟨lw_p13, List.forall_mem_cons.mpr ⟨lw_p14, List.forall_mem_cons.mpr ⟨lw_p15, fun _ h => absurd h List.not_mem_nil⟩⟩⟩⟩⟩⟩⟩⟩⟩⟩⟩⟩⟩⟩⟩⟩
theorem lw_p16 : lw_okq (⟨"LivesAheadModel", "add", "(III)V"⟩, 14) := ⟨⟨by decide +kernel, by decide +kernel⟩, List.mem_of_getElem? (i := 704) (by decide +kernel), List.mem_of_getElem? (i := 804) (by decide +kernel), List.mem_of_getElem? (i := 805) (by decide +kernel)⟩
theorem lw_p17 : lw_okq (⟨"LivesAheadModel", "of", "(II)I"⟩, 14) := ⟨⟨by decide +kernel, by decide +kernel⟩, List.mem_of_getElem? (i := 704) (by decide +kernel), List.mem_of_getElem? (i := 808) (by decide +kernel), List.mem_of_getElem? (i := 809) (by decide +kernel)⟩
theorem lw_p18 : lw_okq (⟨"LivesAheadModel", "isPerson", "(I)Z"⟩, 14) := ⟨⟨by decide +kernel, by decide +kernel⟩, List.mem_of_getElem? (i := 704) (by decide +kernel), List.mem_of_getElem? (i := 819) (by decide +kernel), List.mem_of_getElem? (i := 820) (by decide +kernel)⟩
theorem lw_p19 : lw_okq (⟨"LivesAheadModel", "isFact", "(II)Z"⟩, 14) := ⟨⟨by decide +kernel, by decide +kernel⟩, List.mem_of_getElem? (i := 704) (by decide +kernel), List.mem_of_getElem? (i := 827) (by decide +kernel), List.mem_of_getElem? (i := 828) (by decide +kernel)⟩
theorem lw_p20 : lw_okq (⟨"LivesAheadModel", "mostUrgent", "()I"⟩, 14) := ⟨⟨by decide +kernel, by decide +kernel⟩, List.mem_of_getElem? (i := 704) (by decide +kernel), List.mem_of_getElem? (i := 839) (by decide +kernel), List.mem_of_getElem? (i := 840) (by decide +kernel)⟩
theorem lw_p21 : lw_okq (⟨"LivesAheadModel", "due", "(I)I"⟩, 14) := ⟨⟨by decide +kernel, by decide +kernel⟩, List.mem_of_getElem? (i := 704) (by decide +kernel), List.mem_of_getElem? (i := 843) (by decide +kernel), List.mem_of_getElem? (i := 844) (by decide +kernel)⟩
theorem lw_p22 : lw_okq (⟨"LivesAheadModel", "isStaleOn", "(III)Z"⟩, 14) := ⟨⟨by decide +kernel, by decide +kernel⟩, List.mem_of_getElem? (i := 704) (by decide +kernel), List.mem_of_getElem? (i := 847) (by decide +kernel), List.mem_of_getElem? (i := 848) (by decide +kernel)⟩
theorem lw_p23 : lw_okq (⟨"LivesAheadModel", "worthOn", "(III)F"⟩, 14) := ⟨⟨by decide +kernel, by decide +kernel⟩, List.mem_of_getElem? (i := 704) (by decide +kernel), List.mem_of_getElem? (i := 851) (by decide +kernel), List.mem_of_getElem? (i := 852) (by decide +kernel)⟩
theorem lw_p24 : lw_okq (⟨"LivesAheadModel", "urgency", "(I)I"⟩, 14) := ⟨⟨by decide +kernel, by decide +kernel⟩, List.mem_of_getElem? (i := 704) (by decide +kernel), List.mem_of_getElem? (i := 857) (by decide +kernel), List.mem_of_getElem? (i := 858) (by decide +kernel)⟩
theorem lw_p25 : lw_okq (⟨"LivesAheadModel", "stale", "(II)I"⟩, 14) := ⟨⟨by decide +kernel, by decide +kernel⟩, List.mem_of_getElem? (i := 704) (by decide +kernel), List.mem_of_getElem? (i := 861) (by decide +kernel), List.mem_of_getElem? (i := 862) (by decide +kernel)⟩
theorem lw_p26 : lw_okq (⟨"LivesAheadModel", "inState", "(I)I"⟩, 14) := ⟨⟨by decide +kernel, by decide +kernel⟩, List.mem_of_getElem? (i := 704) (by decide +kernel), List.mem_of_getElem? (i := 884) (by decide +kernel), List.mem_of_getElem? (i := 885) (by decide +kernel)⟩
theorem lw_p27 : lw_okq (⟨"LivesAheadModel", "layPage", "()V"⟩, 14) := ⟨⟨by decide +kernel, by decide +kernel⟩, List.mem_of_getElem? (i := 704) (by decide +kernel), List.mem_of_getElem? (i := 892) (by decide +kernel), List.mem_of_getElem? (i := 893) (by decide +kernel)⟩
theorem lw_p28 : lw_okq (⟨"LivesAheadModel", "isReady", "(I)Z"⟩, 14) := ⟨⟨by decide +kernel, by decide +kernel⟩, List.mem_of_getElem? (i := 704) (by decide +kernel), List.mem_of_getElem? (i := 896) (by decide +kernel), List.mem_of_getElem? (i := 897) (by decide +kernel)⟩
theorem lw_p29 : lw_okq (⟨"LivesAheadModel", "sources", "(I)I"⟩, 14) := ⟨⟨by decide +kernel, by decide +kernel⟩, List.mem_of_getElem? (i := 704) (by decide +kernel), List.mem_of_getElem? (i := 900) (by decide +kernel), List.mem_of_getElem? (i := 901) (by decide +kernel)⟩
theorem lw_p30 : lw_okq (⟨"LivesAheadModel", "isAhead", "(II)Z"⟩, 14) := ⟨⟨by decide +kernel, by decide +kernel⟩, List.mem_of_getElem? (i := 704) (by decide +kernel), List.mem_of_getElem? (i := 904) (by decide +kernel), List.mem_of_getElem? (i := 905) (by decide +kernel)⟩
theorem lw_p31 : lw_okq (⟨"LivesAheadModel", "lines", "(I)I"⟩, 14) := ⟨⟨by decide +kernel, by decide +kernel⟩, List.mem_of_getElem? (i := 704) (by decide +kernel), List.mem_of_getElem? (i := 908) (by decide +kernel), List.mem_of_getElem? (i := 909) (by decide +kernel)⟩
def lw_privs_2 : List (MethodName × Nat) := [(⟨"LivesAheadModel", "add", "(III)V"⟩, 14), (⟨"LivesAheadModel", "of", "(II)I"⟩, 14), (⟨"LivesAheadModel", "isPerson", "(I)Z"⟩, 14), (⟨"LivesAheadModel", "isFact", "(II)Z"⟩, 14), (⟨"LivesAheadModel", "mostUrgent", "()I"⟩, 14), (⟨"LivesAheadModel", "due", "(I)I"⟩, 14), (⟨"LivesAheadModel", "isStaleOn", "(III)Z"⟩, 14), (⟨"LivesAheadModel", "worthOn", "(III)F"⟩, 14), (⟨"LivesAheadModel", "urgency", "(I)I"⟩, 14), (⟨"LivesAheadModel", "stale", "(II)I"⟩, 14), (⟨"LivesAheadModel", "inState", "(I)I"⟩, 14), (⟨"LivesAheadModel", "layPage", "()V"⟩, 14), (⟨"LivesAheadModel", "isReady", "(I)Z"⟩, 14), (⟨"LivesAheadModel", "sources", "(I)I"⟩, 14), (⟨"LivesAheadModel", "isAhead", "(II)Z"⟩, 14), (⟨"LivesAheadModel", "lines", "(I)I"⟩, 14)]
theorem lw_r2 : ∀ q ∈ lw_privs_2, lw_okq q := List.forall_mem_cons.mpr ⟨lw_p16, List.forall_mem_cons.mpr ⟨lw_p17, List.forall_mem_cons.mpr ⟨lw_p18, List.forall_mem_cons.mpr ⟨lw_p19, List.forall_mem_cons.mpr ⟨lw_p20, List.forall_mem_cons.mpr ⟨lw_p21, List.forall_mem_cons.mpr ⟨lw_p22, List.forall_mem_cons.mpr ⟨lw_p23, List.forall_mem_cons.mpr ⟨lw_p24, List.forall_mem_cons.mpr ⟨lw_p25, List.forall_mem_cons.mpr ⟨lw_p26, List.forall_mem_cons.mpr ⟨lw_p27, List.forall_mem_cons.mpr ⟨lw_p28, List.forall_mem_cons.mpr ⟨lw_p29, List.forall_mem_cons.mpr ⟨lw_p30, List.forall_mem_cons.mpr ⟨lw_p31, fun _ h => absurd h List.not_mem_nil⟩⟩⟩⟩⟩⟩⟩⟩⟩⟩⟩⟩⟩⟩⟩⟩
theorem lw_p32 : lw_okq (⟨"LivesAheadModel", "staleOn", "(I)I"⟩, 14) := ⟨⟨by decide +kernel, by decide +kernel⟩, List.mem_of_getElem? (i := 704) (by decide +kernel), List.mem_of_getElem? (i := 975) (by decide +kernel), List.mem_of_getElem? (i := 976) (by decide +kernel)⟩
theorem lw_p33 : lw_okq (⟨"LivesAheadModel", "facts", "()I"⟩, 14) := ⟨⟨by decide +kernel, by decide +kernel⟩, List.mem_of_getElem? (i := 704) (by decide +kernel), List.mem_of_getElem? (i := 983) (by decide +kernel), List.mem_of_getElem? (i := 984) (by decide +kernel)⟩
theorem lw_p34 : lw_okq (⟨"LivesAheadModel", "freeLines", "()I"⟩, 14) := ⟨⟨by decide +kernel, by decide +kernel⟩, List.mem_of_getElem? (i := 704) (by decide +kernel), List.mem_of_getElem? (i := 987) (by decide +kernel), List.mem_of_getElem? (i := 988) (by decide +kernel)⟩
def lw_privs_3 : List (MethodName × Nat) := [(⟨"LivesAheadModel", "staleOn", "(I)I"⟩, 14), (⟨"LivesAheadModel", "facts", "()I"⟩, 14), (⟨"LivesAheadModel", "freeLines", "()I"⟩, 14)]
theorem lw_r3 : ∀ q ∈ lw_privs_3, lw_okq q := List.forall_mem_cons.mpr ⟨lw_p32, List.forall_mem_cons.mpr ⟨lw_p33, List.forall_mem_cons.mpr ⟨lw_p34, fun _ h => absurd h List.not_mem_nil⟩⟩⟩
def lw_privs : List (MethodName × Nat) := lw_privs_1 ++ (lw_privs_2 ++ (lw_privs_3))
def lw_tbl : List Cond := k2_sels lw_privs ++ tables_1
theorem lw_privs_ok : ∀ q ∈ lw_privs, lw_okq q := by
  show ∀ q ∈ lw_privs_1 ++ (lw_privs_2 ++ (lw_privs_3)), lw_okq q
  exact List.forall_mem_append.mpr ⟨lw_r1, List.forall_mem_append.mpr ⟨lw_r2, lw_r3⟩⟩
/-- the streams that the claim lets the run draw from -/
abbrev lw_cs : List Choice := [Jvm.Choice.named "NaN.bits"]
theorem lw_bits : nanBits ∈ lw_cs := by first | decide | exact List.mem_cons_self | simp [lw_cs, nanBits]

def RX0 : String := "LivesAhead$Desk"
def TX0 : u_T := fun k => match k with
  | 0 => ("LivesAhead$Desk", "settings", "[I", true)
  | 1 => ("LivesAhead$Desk", "trusts", "[I", true)
  | 2 => ("LivesAhead$Desk", "lives", "[LLivesAhead$Life;", true)
  | 3 => ("LivesAhead$Desk", "persons", "I", false)
  | 4 => ("LivesAhead$Desk", "day", "I", false)
  | 5 => ("LivesAhead$Desk", "hoursLeft", "I", false)
  | _ => ("LivesAhead$Desk", "corrections", "I", false)
def tyX0 : Nat → FieldType := fun k => match k with
  | 0 => .array .int
  | 1 => .array .int
  | 2 => .array (.object "LivesAhead$Life")
  | 3 => .int
  | 4 => .int
  | 5 => .int
  | _ => .int
abbrev wsX00 : List Cond := u_ws RX0 TX0 7
theorem nmX0 : ∀ a, a < 7 → ∀ b, b < 7 → a ≠ b → (TX0 a).2.1 ≠ (TX0 b).2.1 := by decide +kernel
theorem tyX0_ok : ∀ k, k < 7 → parseFieldDescriptor (TX0 k).2.2.1 = some (tyX0 k) := by decide +kernel
abbrev cX0_init : ByteArray := prog_2_method_1_code
def yX0_init : MethodName := ⟨RX0, "<init>", "()V"⟩
abbrev cX0_copyFrom : ByteArray := prog_2_method_2_code
def yX0_copyFrom : MethodName := ⟨RX0, "copyFrom", "(LLivesAhead$Desk;)V"⟩
abbrev cX0_today : ByteArray := prog_2_method_3_code
def yX0_today : MethodName := ⟨RX0, "today", "()I"⟩
abbrev cX0_hoursLeft : ByteArray := prog_2_method_4_code
def yX0_hoursLeft : MethodName := ⟨RX0, "hoursLeft", "()I"⟩
abbrev cX0_persons : ByteArray := prog_2_method_5_code
def yX0_persons : MethodName := ⟨RX0, "persons", "()I"⟩
abbrev cX0_corrections : ByteArray := prog_2_method_6_code
def yX0_corrections : MethodName := ⟨RX0, "corrections", "()I"⟩
abbrev cX0_roomForPersons : ByteArray := prog_2_method_7_code
def yX0_roomForPersons : MethodName := ⟨RX0, "roomForPersons", "()I"⟩
abbrev cX0_lifeOf : ByteArray := prog_2_method_8_code
def yX0_lifeOf : MethodName := ⟨RX0, "lifeOf", "(I)LLivesAhead$Life;"⟩
abbrev cX0_join : ByteArray := prog_2_method_9_code
def yX0_join : MethodName := ⟨RX0, "join", "(II)I"⟩
abbrev cX0_joinLike : ByteArray := prog_2_method_10_code
def yX0_joinLike : MethodName := ⟨RX0, "joinLike", "(LLivesAhead$Life;)V"⟩
abbrev cX0_spendHours : ByteArray := prog_2_method_11_code
def yX0_spendHours : MethodName := ⟨RX0, "spendHours", "(I)V"⟩
abbrev cX0_setting : ByteArray := prog_2_method_12_code
def yX0_setting : MethodName := ⟨RX0, "setting", "(I)I"⟩
abbrev cX0_changeSetting : ByteArray := prog_2_method_13_code
def yX0_changeSetting : MethodName := ⟨RX0, "changeSetting", "(II)V"⟩
abbrev cX0_trustOf : ByteArray := prog_2_method_14_code
def yX0_trustOf : MethodName := ⟨RX0, "trustOf", "(I)I"⟩
abbrev cX0_changeTrust : ByteArray := prog_2_method_15_code
def yX0_changeTrust : MethodName := ⟨RX0, "changeTrust", "(II)V"⟩
abbrev cX0_countCorrection : ByteArray := prog_2_method_16_code
def yX0_countCorrection : MethodName := ⟨RX0, "countCorrection", "()I"⟩
abbrev cX0_personsIn : ByteArray := prog_2_method_17_code
def yX0_personsIn : MethodName := ⟨RX0, "personsIn", "(I)I"⟩
abbrev cX0_facts : ByteArray := prog_2_method_18_code
def yX0_facts : MethodName := ⟨RX0, "facts", "()I"⟩
abbrev cX0_worthOf : ByteArray := prog_2_method_19_code
def yX0_worthOf : MethodName := ⟨RX0, "worthOf", "(LLivesAhead$Life;II)F"⟩
abbrev cX0_worthOfLife : ByteArray := prog_2_method_20_code
def yX0_worthOfLife : MethodName := ⟨RX0, "worthOfLife", "(LLivesAhead$Life;)F"⟩
abbrev cX0_bound : ByteArray := prog_2_method_21_code
def yX0_bound : MethodName := ⟨RX0, "bound", "()F"⟩
abbrev cX0_isStale : ByteArray := prog_2_method_22_code
def yX0_isStale : MethodName := ⟨RX0, "isStale", "(LLivesAhead$Life;I)Z"⟩
abbrev cX0_staleFactsOf : ByteArray := prog_2_method_23_code
def yX0_staleFactsOf : MethodName := ⟨RX0, "staleFactsOf", "(LLivesAhead$Life;I)I"⟩
abbrev cX0_staleFactsOn : ByteArray := prog_2_method_24_code
def yX0_staleFactsOn : MethodName := ⟨RX0, "staleFactsOn", "(I)I"⟩
abbrev cX0_factsFrom : ByteArray := prog_2_method_25_code
def yX0_factsFrom : MethodName := ⟨RX0, "factsFrom", "(I)I"⟩
abbrev cX0_staleFactsFrom : ByteArray := prog_2_method_26_code
def yX0_staleFactsFrom : MethodName := ⟨RX0, "staleFactsFrom", "(I)I"⟩
abbrev cX0_linesFrom : ByteArray := prog_2_method_27_code
def yX0_linesFrom : MethodName := ⟨RX0, "linesFrom", "(I)I"⟩
abbrev cX0_urgencyOf : ByteArray := prog_2_method_28_code
def yX0_urgencyOf : MethodName := ⟨RX0, "urgencyOf", "(LLivesAhead$Life;)I"⟩
abbrev cX0_rankUrgencies : ByteArray := prog_2_method_29_code
def yX0_rankUrgencies : MethodName := ⟨RX0, "rankUrgencies", "(LLivesAhead$Ranking;)V"⟩
abbrev cX0_firstToCheck : ByteArray := prog_2_method_30_code
def yX0_firstToCheck : MethodName := ⟨RX0, "firstToCheck", "(LLivesAhead$Life;)I"⟩
abbrev cX0_mostUrgentToCheck : ByteArray := prog_2_method_31_code
def yX0_mostUrgentToCheck : MethodName := ⟨RX0, "mostUrgentToCheck", "()LLivesAhead$Life;"⟩
abbrev cX0_checkToday : ByteArray := prog_2_method_32_code
def yX0_checkToday : MethodName := ⟨RX0, "checkToday", "(LLivesAhead$Life;I)V"⟩
abbrev cX0_couldPrint : ByteArray := prog_2_method_33_code
def yX0_couldPrint : MethodName := ⟨RX0, "couldPrint", "(LLivesAhead$Life;)Z"⟩
abbrev cX0_markPrinted : ByteArray := prog_2_method_34_code
def yX0_markPrinted : MethodName := ⟨RX0, "markPrinted", "(I)V"⟩
abbrev cX0_takeBackOldDeaths : ByteArray := prog_2_method_35_code
def yX0_takeBackOldDeaths : MethodName := ⟨RX0, "takeBackOldDeaths", "()V"⟩
abbrev cX0_beginNextDay : ByteArray := prog_2_method_36_code
def yX0_beginNextDay : MethodName := ⟨RX0, "beginNextDay", "()V"⟩
def RX1 : String := "LivesAhead$History"
def TX1 : u_T := fun k => match k with
  | 0 => ("LivesAhead$History", "states", "[LLivesAhead$Desk;", true)
  | 1 => ("LivesAhead$History", "first", "I", false)
  | _ => ("LivesAhead$History", "size", "I", false)
def tyX1 : Nat → FieldType := fun k => match k with
  | 0 => .array (.object "LivesAhead$Desk")
  | 1 => .int
  | _ => .int
abbrev wsX10 : List Cond := u_ws RX1 TX1 3
theorem nmX1 : ∀ a, a < 3 → ∀ b, b < 3 → a ≠ b → (TX1 a).2.1 ≠ (TX1 b).2.1 := by decide +kernel
theorem tyX1_ok : ∀ k, k < 3 → parseFieldDescriptor (TX1 k).2.2.1 = some (tyX1 k) := by decide +kernel
abbrev cX1_init : ByteArray := prog_3_method_1_code
def yX1_init : MethodName := ⟨RX1, "<init>", "()V"⟩
abbrev cX1_size : ByteArray := prog_3_method_2_code
def yX1_size : MethodName := ⟨RX1, "size", "()I"⟩
abbrev cX1_remember : ByteArray := prog_3_method_3_code
def yX1_remember : MethodName := ⟨RX1, "remember", "(LLivesAhead$Desk;)V"⟩
abbrev cX1_takeLatest : ByteArray := prog_3_method_4_code
def yX1_takeLatest : MethodName := ⟨RX1, "takeLatest", "(LLivesAhead$Desk;)V"⟩
abbrev cX1_stateAt : ByteArray := prog_3_method_5_code
def yX1_stateAt : MethodName := ⟨RX1, "stateAt", "(I)LLivesAhead$Desk;"⟩
def RX2 : String := "LivesAhead$Life"
def TX2 : u_T := fun k => match k with
  | 0 => ("LivesAhead$Life", "age", "I", false)
  | 1 => ("LivesAhead$Life", "rank", "I", false)
  | 2 => ("LivesAhead$Life", "state", "I", false)
  | 3 => ("LivesAhead$Life", "teller", "I", false)
  | 4 => ("LivesAhead$Life", "deathDay", "I", false)
  | 5 => ("LivesAhead$Life", "printDay", "I", false)
  | 6 => ("LivesAhead$Life", "size", "I", false)
  | 7 => ("LivesAhead$Life", "sources", "[I", true)
  | 8 => ("LivesAhead$Life", "lines", "[I", true)
  | _ => ("LivesAhead$Life", "days", "[I", true)
def tyX2 : Nat → FieldType := fun k => match k with
  | 0 => .int
  | 1 => .int
  | 2 => .int
  | 3 => .int
  | 4 => .int
  | 5 => .int
  | 6 => .int
  | 7 => .array .int
  | 8 => .array .int
  | _ => .array .int
abbrev wsX20 : List Cond := u_ws RX2 TX2 10
theorem nmX2 : ∀ a, a < 10 → ∀ b, b < 10 → a ≠ b → (TX2 a).2.1 ≠ (TX2 b).2.1 := by decide +kernel
theorem tyX2_ok : ∀ k, k < 10 → parseFieldDescriptor (TX2 k).2.2.1 = some (tyX2 k) := by decide +kernel
abbrev cX2_init : ByteArray := prog_4_method_1_code
def yX2_init : MethodName := ⟨RX2, "<init>", "()V"⟩
abbrev cX2_begin : ByteArray := prog_4_method_2_code
def yX2_begin : MethodName := ⟨RX2, "begin", "(II)V"⟩
abbrev cX2_copyLife : ByteArray := prog_4_method_3_code
def yX2_copyLife : MethodName := ⟨RX2, "copyLife", "(LLivesAhead$Life;)V"⟩
abbrev cX2_age : ByteArray := prog_4_method_4_code
def yX2_age : MethodName := ⟨RX2, "age", "()I"⟩
abbrev cX2_rank : ByteArray := prog_4_method_5_code
def yX2_rank : MethodName := ⟨RX2, "rank", "()I"⟩
abbrev cX2_state : ByteArray := prog_4_method_6_code
def yX2_state : MethodName := ⟨RX2, "state", "()I"⟩
abbrev cX2_isIn : ByteArray := prog_4_method_7_code
def yX2_isIn : MethodName := ⟨RX2, "isIn", "(I)Z"⟩
abbrev cX2_teller : ByteArray := prog_4_method_8_code
def yX2_teller : MethodName := ⟨RX2, "teller", "()I"⟩
abbrev cX2_deathDay : ByteArray := prog_4_method_9_code
def yX2_deathDay : MethodName := ⟨RX2, "deathDay", "()I"⟩
abbrev cX2_printDay : ByteArray := prog_4_method_10_code
def yX2_printDay : MethodName := ⟨RX2, "printDay", "()I"⟩
abbrev cX2_size : ByteArray := prog_4_method_11_code
def yX2_size : MethodName := ⟨RX2, "size", "()I"⟩
abbrev cX2_tellDead : ByteArray := prog_4_method_12_code
def yX2_tellDead : MethodName := ⟨RX2, "tellDead", "(II)V"⟩
abbrev cX2_confirmDeath : ByteArray := prog_4_method_13_code
def yX2_confirmDeath : MethodName := ⟨RX2, "confirmDeath", "(I)V"⟩
abbrev cX2_takeBackDeath : ByteArray := prog_4_method_14_code
def yX2_takeBackDeath : MethodName := ⟨RX2, "takeBackDeath", "()V"⟩
abbrev cX2_becomePrinted : ByteArray := prog_4_method_15_code
def yX2_becomePrinted : MethodName := ⟨RX2, "becomePrinted", "(I)V"⟩
abbrev cX2_hasFact : ByteArray := prog_4_method_16_code
def yX2_hasFact : MethodName := ⟨RX2, "hasFact", "(I)Z"⟩
abbrev cX2_sourceOf : ByteArray := prog_4_method_17_code
def yX2_sourceOf : MethodName := ⟨RX2, "sourceOf", "(I)I"⟩
abbrev cX2_linesOf : ByteArray := prog_4_method_18_code
def yX2_linesOf : MethodName := ⟨RX2, "linesOf", "(I)I"⟩
abbrev cX2_dayOf : ByteArray := prog_4_method_19_code
def yX2_dayOf : MethodName := ⟨RX2, "dayOf", "(I)I"⟩
abbrev cX2_addFact : ByteArray := prog_4_method_20_code
def yX2_addFact : MethodName := ⟨RX2, "addFact", "(III)I"⟩
abbrev cX2_removeFact : ByteArray := prog_4_method_21_code
def yX2_removeFact : MethodName := ⟨RX2, "removeFact", "(I)V"⟩
abbrev cX2_changeSource : ByteArray := prog_4_method_22_code
def yX2_changeSource : MethodName := ⟨RX2, "changeSource", "(II)V"⟩
abbrev cX2_changeDay : ByteArray := prog_4_method_23_code
def yX2_changeDay : MethodName := ⟨RX2, "changeDay", "(II)V"⟩
abbrev cX2_length : ByteArray := prog_4_method_24_code
def yX2_length : MethodName := ⟨RX2, "length", "()I"⟩
abbrev cX2_differentSources : ByteArray := prog_4_method_25_code
def yX2_differentSources : MethodName := ⟨RX2, "differentSources", "()I"⟩
def RX3 : String := "LivesAhead$Page"
def TX3 : u_T := fun k => match k with
  | 0 => ("LivesAhead$Page", "queue", "LLivesAhead$Ranking;", true)
  | 1 => ("LivesAhead$Page", "persons", "[I", true)
  | 2 => ("LivesAhead$Page", "size", "I", false)
  | _ => ("LivesAhead$Page", "linesFree", "I", false)
def tyX3 : Nat → FieldType := fun k => match k with
  | 0 => .object "LivesAhead$Ranking"
  | 1 => .array .int
  | 2 => .int
  | _ => .int
abbrev wsX30 : List Cond := u_ws RX3 TX3 4
theorem nmX3 : ∀ a, a < 4 → ∀ b, b < 4 → a ≠ b → (TX3 a).2.1 ≠ (TX3 b).2.1 := by decide +kernel
theorem tyX3_ok : ∀ k, k < 4 → parseFieldDescriptor (TX3 k).2.2.1 = some (tyX3 k) := by decide +kernel
abbrev cX3_init : ByteArray := prog_5_method_1_code
def yX3_init : MethodName := ⟨RX3, "<init>", "()V"⟩
abbrev cX3_lay : ByteArray := prog_5_method_2_code
def yX3_lay : MethodName := ⟨RX3, "lay", "(LLivesAhead$Desk;)V"⟩
abbrev cX3_size : ByteArray := prog_5_method_3_code
def yX3_size : MethodName := ⟨RX3, "size", "()I"⟩
abbrev cX3_linesFree : ByteArray := prog_5_method_4_code
def yX3_linesFree : MethodName := ⟨RX3, "linesFree", "()I"⟩
abbrev cX3_queueDead : ByteArray := prog_5_method_5_code
def yX3_queueDead : MethodName := ⟨RX3, "queueDead", "(LLivesAhead$Desk;)V"⟩
abbrev cX3_personAt : ByteArray := prog_5_method_6_code
def yX3_personAt : MethodName := ⟨RX3, "personAt", "(I)I"⟩
def RX4 : String := "LivesAhead$PersonsText"
def TX4 : u_T := fun k => match k with
  | 0 => ("LivesAhead$PersonsText", "characters", "[C", true)
  | 1 => ("LivesAhead$PersonsText", "length", "I", false)
  | 2 => ("LivesAhead$PersonsText", "read", "[LLivesAhead$Life;", true)
  | 3 => ("LivesAhead$PersonsText", "personsRead", "I", false)
  | _ => ("LivesAhead$PersonsText", "at", "I", false)
def tyX4 : Nat → FieldType := fun k => match k with
  | 0 => .array .char
  | 1 => .int
  | 2 => .array (.object "LivesAhead$Life")
  | 3 => .int
  | _ => .int
abbrev wsX40 : List Cond := u_ws RX4 TX4 5
theorem nmX4 : ∀ a, a < 5 → ∀ b, b < 5 → a ≠ b → (TX4 a).2.1 ≠ (TX4 b).2.1 := by decide +kernel
theorem tyX4_ok : ∀ k, k < 5 → parseFieldDescriptor (TX4 k).2.2.1 = some (tyX4 k) := by decide +kernel
abbrev cX4_init : ByteArray := prog_6_method_1_code
def yX4_init : MethodName := ⟨RX4, "<init>", "()V"⟩
abbrev cX4_length : ByteArray := prog_6_method_2_code
def yX4_length : MethodName := ⟨RX4, "length", "()I"⟩
abbrev cX4_append : ByteArray := prog_6_method_3_code
def yX4_append : MethodName := ⟨RX4, "append", "(C)Z"⟩
abbrev cX4_clear : ByteArray := prog_6_method_4_code
def yX4_clear : MethodName := ⟨RX4, "clear", "()V"⟩
abbrev cX4_fault : ByteArray := prog_6_method_5_code
def yX4_fault : MethodName := ⟨RX4, "fault", "()I"⟩
abbrev cX4_personsRead : ByteArray := prog_6_method_6_code
def yX4_personsRead : MethodName := ⟨RX4, "personsRead", "()I"⟩
abbrev cX4_readLife : ByteArray := prog_6_method_7_code
def yX4_readLife : MethodName := ⟨RX4, "readLife", "(I)LLivesAhead$Life;"⟩
abbrev cX4_readPersons : ByteArray := prog_6_method_8_code
def yX4_readPersons : MethodName := ⟨RX4, "readPersons", "(I)Z"⟩
abbrev cX4_readPerson : ByteArray := prog_6_method_9_code
def yX4_readPerson : MethodName := ⟨RX4, "readPerson", "(LLivesAhead$Life;I)Z"⟩
abbrev cX4_readFact : ByteArray := prog_6_method_10_code
def yX4_readFact : MethodName := ⟨RX4, "readFact", "(LLivesAhead$Life;I)Z"⟩
abbrev cX4_takeAge : ByteArray := prog_6_method_11_code
def yX4_takeAge : MethodName := ⟨RX4, "takeAge", "()I"⟩
abbrev cX4_takeDigit : ByteArray := prog_6_method_12_code
def yX4_takeDigit : MethodName := ⟨RX4, "takeDigit", "(II)I"⟩
abbrev cX4_takes : ByteArray := prog_6_method_13_code
def yX4_takes : MethodName := ⟨RX4, "takes", "(C)Z"⟩
def RX5 : String := "LivesAhead$Ranking"
def TX5 : u_T := fun k => match k with
  | 0 => ("LivesAhead$Ranking", "persons", "[I", true)
  | 1 => ("LivesAhead$Ranking", "keys", "[I", true)
  | _ => ("LivesAhead$Ranking", "size", "I", false)
def tyX5 : Nat → FieldType := fun k => match k with
  | 0 => .array .int
  | 1 => .array .int
  | _ => .int
abbrev wsX50 : List Cond := u_ws RX5 TX5 3
theorem nmX5 : ∀ a, a < 3 → ∀ b, b < 3 → a ≠ b → (TX5 a).2.1 ≠ (TX5 b).2.1 := by decide +kernel
theorem tyX5_ok : ∀ k, k < 3 → parseFieldDescriptor (TX5 k).2.2.1 = some (tyX5 k) := by decide +kernel
abbrev cX5_init : ByteArray := prog_7_method_1_code
def yX5_init : MethodName := ⟨RX5, "<init>", "()V"⟩
abbrev cX5_clear : ByteArray := prog_7_method_2_code
def yX5_clear : MethodName := ⟨RX5, "clear", "()V"⟩
abbrev cX5_size : ByteArray := prog_7_method_3_code
def yX5_size : MethodName := ⟨RX5, "size", "()I"⟩
abbrev cX5_enter : ByteArray := prog_7_method_4_code
def yX5_enter : MethodName := ⟨RX5, "enter", "(II)V"⟩
abbrev cX5_personAt : ByteArray := prog_7_method_5_code
def yX5_personAt : MethodName := ⟨RX5, "personAt", "(I)I"⟩
def RX6 : String := "LivesAhead"
def TX6 : u_T := fun k => match k with
  | 0 => ("LivesAhead", "desk", "LLivesAhead$Desk;", true)
  | 1 => ("LivesAhead", "snapshot", "LLivesAhead$Desk;", true)
  | 2 => ("LivesAhead", "hasSnapshot", "Z", false)
  | 3 => ("LivesAhead", "history", "LLivesAhead$History;", true)
  | 4 => ("LivesAhead", "text", "LLivesAhead$PersonsText;", true)
  | 5 => ("LivesAhead", "urgencies", "LLivesAhead$Ranking;", true)
  | _ => ("LivesAhead", "nextPage", "LLivesAhead$Page;", true)
def tyX6 : Nat → FieldType := fun k => match k with
  | 0 => .object "LivesAhead$Desk"
  | 1 => .object "LivesAhead$Desk"
  | 2 => .boolean
  | 3 => .object "LivesAhead$History"
  | 4 => .object "LivesAhead$PersonsText"
  | 5 => .object "LivesAhead$Ranking"
  | _ => .object "LivesAhead$Page"
abbrev wsX60 : List Cond := u_ws RX6 TX6 7
theorem nmX6 : ∀ a, a < 7 → ∀ b, b < 7 → a ≠ b → (TX6 a).2.1 ≠ (TX6 b).2.1 := by decide +kernel
theorem tyX6_ok : ∀ k, k < 7 → parseFieldDescriptor (TX6 k).2.2.1 = some (tyX6 k) := by decide +kernel
abbrev cX6_init : ByteArray := prog_1_method_1_code
def yX6_init : MethodName := ⟨RX6, "<init>", "()V"⟩
abbrev cX6_addPerson : ByteArray := prog_1_method_2_code
def yX6_addPerson : MethodName := ⟨RX6, "addPerson", "(II)I"⟩
abbrev cX6_addPersons : ByteArray := prog_1_method_3_code
def yX6_addPersons : MethodName := ⟨RX6, "addPersons", "()I"⟩
abbrev cX6_write : ByteArray := prog_1_method_4_code
def yX6_write : MethodName := ⟨RX6, "write", "(III)I"⟩
abbrev cX6_check : ByteArray := prog_1_method_5_code
def yX6_check : MethodName := ⟨RX6, "check", "(II)I"⟩
abbrev cX6_strike : ByteArray := prog_1_method_6_code
def yX6_strike : MethodName := ⟨RX6, "strike", "(II)I"⟩
abbrev cX6_checkUrgent : ByteArray := prog_1_method_7_code
def yX6_checkUrgent : MethodName := ⟨RX6, "checkUrgent", "()I"⟩
abbrev cX6_trust : ByteArray := prog_1_method_8_code
def yX6_trust : MethodName := ⟨RX6, "trust", "(II)I"⟩
abbrev cX6_set : ByteArray := prog_1_method_9_code
def yX6_set : MethodName := ⟨RX6, "set", "(II)I"⟩
abbrev cX6_tellDeath : ByteArray := prog_1_method_10_code
def yX6_tellDeath : MethodName := ⟨RX6, "tellDeath", "(II)I"⟩
abbrev cX6_decide : ByteArray := prog_1_method_11_code
def yX6_decide : MethodName := ⟨RX6, "decide", "(IZ)I"⟩
abbrev cX6_print : ByteArray := prog_1_method_12_code
def yX6_print : MethodName := ⟨RX6, "print", "()I"⟩
abbrev cX6_correct : ByteArray := prog_1_method_13_code
def yX6_correct : MethodName := ⟨RX6, "correct", "(III)I"⟩
abbrev cX6_type : ByteArray := prog_1_method_14_code
def yX6_type : MethodName := ⟨RX6, "type", "(C)I"⟩
abbrev cX6_clearText : ByteArray := prog_1_method_15_code
def yX6_clearText : MethodName := ⟨RX6, "clearText", "()I"⟩
abbrev cX6_undo : ByteArray := prog_1_method_16_code
def yX6_undo : MethodName := ⟨RX6, "undo", "()I"⟩
abbrev cX6_keep : ByteArray := prog_1_method_17_code
def yX6_keep : MethodName := ⟨RX6, "keep", "()I"⟩
abbrev cX6_restore : ByteArray := prog_1_method_18_code
def yX6_restore : MethodName := ⟨RX6, "restore", "()I"⟩
abbrev cX6_person : ByteArray := prog_1_method_19_code
def yX6_person : MethodName := ⟨RX6, "person", "(II)I"⟩
abbrev cX6_fact : ByteArray := prog_1_method_20_code
def yX6_fact : MethodName := ⟨RX6, "fact", "(III)I"⟩
abbrev cX6_worth : ByteArray := prog_1_method_21_code
def yX6_worth : MethodName := ⟨RX6, "worth", "(I)F"⟩
abbrev cX6_urgent : ByteArray := prog_1_method_22_code
def yX6_urgent : MethodName := ⟨RX6, "urgent", "(I)I"⟩
abbrev cX6_page : ByteArray := prog_1_method_23_code
def yX6_page : MethodName := ⟨RX6, "page", "(I)I"⟩
abbrev cX6_source : ByteArray := prog_1_method_24_code
def yX6_source : MethodName := ⟨RX6, "source", "(II)I"⟩
abbrev cX6_staleIn : ByteArray := prog_1_method_25_code
def yX6_staleIn : MethodName := ⟨RX6, "staleIn", "(I)I"⟩
abbrev cX6_count : ByteArray := prog_1_method_26_code
def yX6_count : MethodName := ⟨RX6, "count", "(I)I"⟩
abbrev cX6_isWithin : ByteArray := prog_1_method_27_code
def yX6_isWithin : MethodName := ⟨RX6, "isWithin", "(III)Z"⟩
abbrev cX6_isSource : ByteArray := prog_1_method_28_code
def yX6_isSource : MethodName := ⟨RX6, "isSource", "(I)Z"⟩
abbrev cX6_isSetting : ByteArray := prog_1_method_29_code
def yX6_isSetting : MethodName := ⟨RX6, "isSetting", "(I)Z"⟩
abbrev cX6_bitsOf : ByteArray := prog_1_method_30_code
def yX6_bitsOf : MethodName := ⟨RX6, "bitsOf", "(F)I"⟩
def RX7 : String := "LivesAheadModel"
def TX7 : u_T := fun k => match k with
  | 0 => ("LivesAheadModel", "s", "[I", true)
  | 1 => ("LivesAheadModel", "before", "[I", true)
  | 2 => ("LivesAheadModel", "kept", "[I", true)
  | 3 => ("LivesAheadModel", "page", "[I", true)
  | 4 => ("LivesAheadModel", "seen", "[Z", true)
  | 5 => ("LivesAheadModel", "pageMany", "I", false)
  | 6 => ("LivesAheadModel", "free", "I", false)
  | 7 => ("LivesAheadModel", "text", "[C", true)
  | 8 => ("LivesAheadModel", "length", "I", false)
  | 9 => ("LivesAheadModel", "states", "I", false)
  | 10 => ("LivesAheadModel", "isKept", "Z", false)
  | 11 => ("LivesAheadModel", "read", "[I", true)
  | 12 => ("LivesAheadModel", "at", "I", false)
  | _ => ("LivesAheadModel", "persons", "I", false)
def tyX7 : Nat → FieldType := fun k => match k with
  | 0 => .array .int
  | 1 => .array .int
  | 2 => .array .int
  | 3 => .array .int
  | 4 => .array .boolean
  | 5 => .int
  | 6 => .int
  | 7 => .array .char
  | 8 => .int
  | 9 => .int
  | 10 => .boolean
  | 11 => .array .int
  | 12 => .int
  | _ => .int
abbrev wsX70 : List Cond := u_ws RX7 TX7 14
theorem nmX7 : ∀ a, a < 14 → ∀ b, b < 14 → a ≠ b → (TX7 a).2.1 ≠ (TX7 b).2.1 := by decide +kernel
theorem tyX7_ok : ∀ k, k < 14 → parseFieldDescriptor (TX7 k).2.2.1 = some (tyX7 k) := by decide +kernel
abbrev cX7_init : ByteArray := prog_9_method_1_code
def yX7_init : MethodName := ⟨RX7, "<init>", "()V"⟩
abbrev cX7_in : ByteArray := prog_9_method_2_code
def yX7_in : MethodName := ⟨RX7, "in", "(III)Z"⟩
abbrev cX7_record : ByteArray := prog_9_method_3_code
def yX7_record : MethodName := ⟨RX7, "record", "()V"⟩
abbrev cX7_p : ByteArray := prog_9_method_4_code
def yX7_p : MethodName := ⟨RX7, "p", "(I)I"⟩
abbrev cX7_f : ByteArray := prog_9_method_5_code
def yX7_f : MethodName := ⟨RX7, "f", "(II)I"⟩
abbrev cX7_of : ByteArray := prog_9_method_6_code
def yX7_of : MethodName := ⟨RX7, "of", "(II)I"⟩
abbrev cX7_isPerson : ByteArray := prog_9_method_7_code
def yX7_isPerson : MethodName := ⟨RX7, "isPerson", "(I)Z"⟩
abbrev cX7_isFact : ByteArray := prog_9_method_8_code
def yX7_isFact : MethodName := ⟨RX7, "isFact", "(II)Z"⟩
abbrev cX7_worthOn : ByteArray := prog_9_method_9_code
def yX7_worthOn : MethodName := ⟨RX7, "worthOn", "(III)F"⟩
abbrev cX7_isStaleOn : ByteArray := prog_9_method_10_code
def yX7_isStaleOn : MethodName := ⟨RX7, "isStaleOn", "(III)Z"⟩
abbrev cX7_stale : ByteArray := prog_9_method_11_code
def yX7_stale : MethodName := ⟨RX7, "stale", "(II)I"⟩
abbrev cX7_lines : ByteArray := prog_9_method_12_code
def yX7_lines : MethodName := ⟨RX7, "lines", "(I)I"⟩
abbrev cX7_sources : ByteArray := prog_9_method_13_code
def yX7_sources : MethodName := ⟨RX7, "sources", "(I)I"⟩
abbrev cX7_isReady : ByteArray := prog_9_method_14_code
def yX7_isReady : MethodName := ⟨RX7, "isReady", "(I)Z"⟩
abbrev cX7_urgency : ByteArray := prog_9_method_15_code
def yX7_urgency : MethodName := ⟨RX7, "urgency", "(I)I"⟩
abbrev cX7_come : ByteArray := prog_9_method_16_code
def yX7_come : MethodName := ⟨RX7, "come", "(II)I"⟩
abbrev cX7_add : ByteArray := prog_9_method_17_code
def yX7_add : MethodName := ⟨RX7, "add", "(III)V"⟩
abbrev cX7_addPerson : ByteArray := prog_9_method_18_code
def yX7_addPerson : MethodName := ⟨RX7, "addPerson", "(II)I"⟩
abbrev cX7_isSign : ByteArray := prog_9_method_19_code
def yX7_isSign : MethodName := ⟨RX7, "isSign", "(ICC)Z"⟩
abbrev cX7_accepts : ByteArray := prog_9_method_20_code
def yX7_accepts : MethodName := ⟨RX7, "accepts", "(C)Z"⟩
abbrev cX7_digit : ByteArray := prog_9_method_21_code
def yX7_digit : MethodName := ⟨RX7, "digit", "(CC)I"⟩
abbrev cX7_age : ByteArray := prog_9_method_22_code
def yX7_age : MethodName := ⟨RX7, "age", "()I"⟩
abbrev cX7_readsFact : ByteArray := prog_9_method_23_code
def yX7_readsFact : MethodName := ⟨RX7, "readsFact", "(I)Z"⟩
abbrev cX7_readsPerson : ByteArray := prog_9_method_24_code
def yX7_readsPerson : MethodName := ⟨RX7, "readsPerson", "()Z"⟩
abbrev cX7_faultOf : ByteArray := prog_9_method_25_code
def yX7_faultOf : MethodName := ⟨RX7, "faultOf", "()I"⟩
abbrev cX7_addPersons : ByteArray := prog_9_method_26_code
def yX7_addPersons : MethodName := ⟨RX7, "addPersons", "()I"⟩
abbrev cX7_write : ByteArray := prog_9_method_27_code
def yX7_write : MethodName := ⟨RX7, "write", "(III)I"⟩
abbrev cX7_check : ByteArray := prog_9_method_28_code
def yX7_check : MethodName := ⟨RX7, "check", "(II)I"⟩
abbrev cX7_strike : ByteArray := prog_9_method_29_code
def yX7_strike : MethodName := ⟨RX7, "strike", "(II)I"⟩
abbrev cX7_due : ByteArray := prog_9_method_30_code
def yX7_due : MethodName := ⟨RX7, "due", "(I)I"⟩
abbrev cX7_mostUrgent : ByteArray := prog_9_method_31_code
def yX7_mostUrgent : MethodName := ⟨RX7, "mostUrgent", "()I"⟩
abbrev cX7_checkUrgent : ByteArray := prog_9_method_32_code
def yX7_checkUrgent : MethodName := ⟨RX7, "checkUrgent", "()I"⟩
abbrev cX7_trust : ByteArray := prog_9_method_33_code
def yX7_trust : MethodName := ⟨RX7, "trust", "(II)I"⟩
abbrev cX7_isSetting : ByteArray := prog_9_method_34_code
def yX7_isSetting : MethodName := ⟨RX7, "isSetting", "(II)Z"⟩
abbrev cX7_set : ByteArray := prog_9_method_35_code
def yX7_set : MethodName := ⟨RX7, "set", "(II)I"⟩
abbrev cX7_inState : ByteArray := prog_9_method_36_code
def yX7_inState : MethodName := ⟨RX7, "inState", "(I)I"⟩
abbrev cX7_tellDeath : ByteArray := prog_9_method_37_code
def yX7_tellDeath : MethodName := ⟨RX7, "tellDeath", "(II)I"⟩
abbrev cX7_decide : ByteArray := prog_9_method_38_code
def yX7_decide : MethodName := ⟨RX7, "decide", "(IZ)I"⟩
abbrev cX7_isAhead : ByteArray := prog_9_method_39_code
def yX7_isAhead : MethodName := ⟨RX7, "isAhead", "(II)Z"⟩
abbrev cX7_layPage : ByteArray := prog_9_method_40_code
def yX7_layPage : MethodName := ⟨RX7, "layPage", "()V"⟩
abbrev cX7_print : ByteArray := prog_9_method_41_code
def yX7_print : MethodName := ⟨RX7, "print", "()I"⟩
abbrev cX7_correct : ByteArray := prog_9_method_42_code
def yX7_correct : MethodName := ⟨RX7, "correct", "(III)I"⟩
abbrev cX7_type : ByteArray := prog_9_method_43_code
def yX7_type : MethodName := ⟨RX7, "type", "(C)I"⟩
abbrev cX7_clearText : ByteArray := prog_9_method_44_code
def yX7_clearText : MethodName := ⟨RX7, "clearText", "()I"⟩
abbrev cX7_undo : ByteArray := prog_9_method_45_code
def yX7_undo : MethodName := ⟨RX7, "undo", "()I"⟩
abbrev cX7_keep : ByteArray := prog_9_method_46_code
def yX7_keep : MethodName := ⟨RX7, "keep", "()I"⟩
abbrev cX7_restore : ByteArray := prog_9_method_47_code
def yX7_restore : MethodName := ⟨RX7, "restore", "()I"⟩
abbrev cX7_person : ByteArray := prog_9_method_48_code
def yX7_person : MethodName := ⟨RX7, "person", "(II)I"⟩
abbrev cX7_fact : ByteArray := prog_9_method_49_code
def yX7_fact : MethodName := ⟨RX7, "fact", "(III)I"⟩
abbrev cX7_worth : ByteArray := prog_9_method_50_code
def yX7_worth : MethodName := ⟨RX7, "worth", "(I)F"⟩
abbrev cX7_urgent : ByteArray := prog_9_method_51_code
def yX7_urgent : MethodName := ⟨RX7, "urgent", "(I)I"⟩
abbrev cX7_page : ByteArray := prog_9_method_52_code
def yX7_page : MethodName := ⟨RX7, "page", "(I)I"⟩
abbrev cX7_source : ByteArray := prog_9_method_53_code
def yX7_source : MethodName := ⟨RX7, "source", "(II)I"⟩
abbrev cX7_staleOn : ByteArray := prog_9_method_54_code
def yX7_staleOn : MethodName := ⟨RX7, "staleOn", "(I)I"⟩
abbrev cX7_staleIn : ByteArray := prog_9_method_55_code
def yX7_staleIn : MethodName := ⟨RX7, "staleIn", "(I)I"⟩
abbrev cX7_facts : ByteArray := prog_9_method_56_code
def yX7_facts : MethodName := ⟨RX7, "facts", "()I"⟩
abbrev cX7_freeLines : ByteArray := prog_9_method_57_code
def yX7_freeLines : MethodName := ⟨RX7, "freeLines", "()I"⟩
abbrev cX7_count : ByteArray := prog_9_method_58_code
def yX7_count : MethodName := ⟨RX7, "count", "(I)I"⟩
def RJxf58ca : String := "java/lang/Float"
def TJxf58ca : u_T := fun k => match k with
  | _ => ("", "", "", false)
def tyJxf58ca : Nat → FieldType := fun k => match k with
  | _ => .int
abbrev wsJxf58ca0 : List Cond := u_ws RJxf58ca TJxf58ca 0
theorem nmJxf58ca : ∀ a, a < 0 → ∀ b, b < 0 → a ≠ b → (TJxf58ca a).2.1 ≠ (TJxf58ca b).2.1 := by decide +kernel
theorem tyJxf58ca_ok : ∀ k, k < 0 → parseFieldDescriptor (TJxf58ca k).2.2.1 = some (tyJxf58ca k) := by decide +kernel
abbrev cJxf58ca_isNaN_12338 : ByteArray := prog_10_method_6_code
def yJxf58ca_isNaN_12338 : MethodName := ⟨RJxf58ca, "isNaN", "(F)Z"⟩
abbrev cJxf58ca_floatToIntBits_5c35a : ByteArray := prog_10_method_24_code
def yJxf58ca_floatToIntBits_5c35a : MethodName := ⟨RJxf58ca, "floatToIntBits", "(F)I"⟩
def RJ6 : String := "java/lang/Integer"
def TJ6 : u_T := fun k => match k with
  | _ => ("", "", "", false)
def tyJ6 : Nat → FieldType := fun k => match k with
  | _ => .int
abbrev wsJ60 : List Cond := u_ws RJ6 TJ6 0
theorem nmJ6 : ∀ a, a < 0 → ∀ b, b < 0 → a ≠ b → (TJ6 a).2.1 ≠ (TJ6 b).2.1 := by decide +kernel
theorem tyJ6_ok : ∀ k, k < 0 → parseFieldDescriptor (TJ6 k).2.2.1 = some (tyJ6 k) := by decide +kernel
abbrev cJ6_bitCount_0f7a4 : ByteArray := prog_11_method_49_code
def yJ6_bitCount_0f7a4 : MethodName := ⟨RJ6, "bitCount", "(I)I"⟩
def RJ9 : String := "java/lang/Math"
def TJ9 : u_T := fun k => match k with
  | _ => ("", "", "", false)
def tyJ9 : Nat → FieldType := fun k => match k with
  | _ => .int
abbrev wsJ90 : List Cond := u_ws RJ9 TJ9 0
theorem nmJ9 : ∀ a, a < 0 → ∀ b, b < 0 → a ≠ b → (TJ9 a).2.1 ≠ (TJ9 b).2.1 := by decide +kernel
theorem tyJ9_ok : ∀ k, k < 0 → parseFieldDescriptor (TJ9 k).2.2.1 = some (tyJ9 k) := by decide +kernel
abbrev cJ9_min_7cf53 : ByteArray := prog_12_method_69_code
def yJ9_min_7cf53 : MethodName := ⟨RJ9, "min", "(II)I"⟩
def RJ10 : String := "java/lang/System"
def TJ10 : u_T := fun k => match k with
  | _ => ("", "", "", false)
def tyJ10 : Nat → FieldType := fun k => match k with
  | _ => .int
abbrev wsJ100 : List Cond := u_ws RJ10 TJ10 0
theorem nmJ10 : ∀ a, a < 0 → ∀ b, b < 0 → a ≠ b → (TJ10 a).2.1 ≠ (TJ10 b).2.1 := by decide +kernel
theorem tyJ10_ok : ∀ k, k < 0 → parseFieldDescriptor (TJ10 k).2.2.1 = some (tyJ10 k) := by decide +kernel
def RL : String := "LivesAheadLaw"
abbrev cL_law : ByteArray := code
def yL_law : MethodName := ⟨RL, "law", "([I)Z"⟩
abbrev vwCl : List vw_C := [(RX0, TX0, 7), (RX1, TX1, 3), (RX2, TX2, 10), (RX3, TX3, 4), (RX4, TX4, 5), (RX5, TX5, 3), (RX6, TX6, 7), (RX7, TX7, 14)]
