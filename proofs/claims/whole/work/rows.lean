section
-- ===== PART A: goes FIRST, ahead of the names: the tables' words, and 'selects' of the private methods out of them =====
/-- a private method of a class that the tables say can be made, by its rows of tables_1 -/
def lw_okq (q : MethodName × Nat) : Prop := (q.1.cls ≠ "java/lang/invoke/MethodHandle" ∧ q.1.cls ≠ "java/lang/invoke/VarHandle") ∧ Cond.instantiable q.1.cls q.2 ∈ tables_1 ∧ Cond.privateMethod q.1 ∈ tables_1 ∧ Cond.instanceMethod q.1 ∈ tables_1
theorem lw_p0 : lw_okq (⟨"LivesAhead$History", "stateAt", "(I)LLivesAhead$Desk;"⟩, 3) := ⟨⟨by decide +kernel, by decide +kernel⟩, List.mem_of_getElem? (i := 89) (by decide +kernel), List.mem_of_getElem? (i := 207) (by decide +kernel), List.mem_of_getElem? (i := 208) (by decide +kernel)⟩
theorem lw_p1 : lw_okq (⟨"LivesAhead$PersonsText", "readPerson", "(LLivesAhead$Life;I)Z"⟩, 5) := ⟨⟨by decide +kernel, by decide +kernel⟩, List.mem_of_getElem? (i := 108) (by decide +kernel), List.mem_of_getElem? (i := 256) (by decide +kernel), List.mem_of_getElem? (i := 257) (by decide +kernel)⟩
theorem lw_p2 : lw_okq (⟨"LivesAhead$PersonsText", "takeAge", "()I"⟩, 5) := ⟨⟨by decide +kernel, by decide +kernel⟩, List.mem_of_getElem? (i := 108) (by decide +kernel), List.mem_of_getElem? (i := 260) (by decide +kernel), List.mem_of_getElem? (i := 261) (by decide +kernel)⟩
theorem lw_p3 : lw_okq (⟨"LivesAhead$PersonsText", "takeDigit", "(II)I"⟩, 5) := ⟨⟨by decide +kernel, by decide +kernel⟩, List.mem_of_getElem? (i := 108) (by decide +kernel), List.mem_of_getElem? (i := 264) (by decide +kernel), List.mem_of_getElem? (i := 265) (by decide +kernel)⟩
theorem lw_p4 : lw_okq (⟨"LivesAhead$PersonsText", "takes", "(C)Z"⟩, 5) := ⟨⟨by decide +kernel, by decide +kernel⟩, List.mem_of_getElem? (i := 108) (by decide +kernel), List.mem_of_getElem? (i := 272) (by decide +kernel), List.mem_of_getElem? (i := 273) (by decide +kernel)⟩
theorem lw_p5 : lw_okq (⟨"LivesAhead$PersonsText", "readFact", "(LLivesAhead$Life;I)Z"⟩, 5) := ⟨⟨by decide +kernel, by decide +kernel⟩, List.mem_of_getElem? (i := 108) (by decide +kernel), List.mem_of_getElem? (i := 277) (by decide +kernel), List.mem_of_getElem? (i := 278) (by decide +kernel)⟩
theorem lw_p6 : lw_okq (⟨"LivesAhead$Page", "queueDead", "(LLivesAhead$Desk;)V"⟩, 4) := ⟨⟨by decide +kernel, by decide +kernel⟩, List.mem_of_getElem? (i := 149) (by decide +kernel), List.mem_of_getElem? (i := 472) (by decide +kernel), List.mem_of_getElem? (i := 473) (by decide +kernel)⟩
theorem lw_p7 : lw_okq (⟨"LivesAheadModel", "record", "()V"⟩, 14) := ⟨⟨by decide +kernel, by decide +kernel⟩, List.mem_of_getElem? (i := 704) (by decide +kernel), List.mem_of_getElem? (i := 761) (by decide +kernel), List.mem_of_getElem? (i := 762) (by decide +kernel)⟩
theorem lw_p8 : lw_okq (⟨"LivesAheadModel", "come", "(II)I"⟩, 14) := ⟨⟨by decide +kernel, by decide +kernel⟩, List.mem_of_getElem? (i := 704) (by decide +kernel), List.mem_of_getElem? (i := 765) (by decide +kernel), List.mem_of_getElem? (i := 766) (by decide +kernel)⟩
theorem lw_p9 : lw_okq (⟨"LivesAheadModel", "faultOf", "()I"⟩, 14) := ⟨⟨by decide +kernel, by decide +kernel⟩, List.mem_of_getElem? (i := 704) (by decide +kernel), List.mem_of_getElem? (i := 776) (by decide +kernel), List.mem_of_getElem? (i := 777) (by decide +kernel)⟩
theorem lw_p10 : lw_okq (⟨"LivesAheadModel", "readsPerson", "()Z"⟩, 14) := ⟨⟨by decide +kernel, by decide +kernel⟩, List.mem_of_getElem? (i := 704) (by decide +kernel), List.mem_of_getElem? (i := 780) (by decide +kernel), List.mem_of_getElem? (i := 781) (by decide +kernel)⟩
theorem lw_p11 : lw_okq (⟨"LivesAheadModel", "age", "()I"⟩, 14) := ⟨⟨by decide +kernel, by decide +kernel⟩, List.mem_of_getElem? (i := 704) (by decide +kernel), List.mem_of_getElem? (i := 784) (by decide +kernel), List.mem_of_getElem? (i := 785) (by decide +kernel)⟩
theorem lw_p12 : lw_okq (⟨"LivesAheadModel", "digit", "(CC)I"⟩, 14) := ⟨⟨by decide +kernel, by decide +kernel⟩, List.mem_of_getElem? (i := 704) (by decide +kernel), List.mem_of_getElem? (i := 788) (by decide +kernel), List.mem_of_getElem? (i := 789) (by decide +kernel)⟩
theorem lw_p13 : lw_okq (⟨"LivesAheadModel", "isSign", "(ICC)Z"⟩, 14) := ⟨⟨by decide +kernel, by decide +kernel⟩, List.mem_of_getElem? (i := 704) (by decide +kernel), List.mem_of_getElem? (i := 792) (by decide +kernel), List.mem_of_getElem? (i := 793) (by decide +kernel)⟩
theorem lw_p14 : lw_okq (⟨"LivesAheadModel", "accepts", "(C)Z"⟩, 14) := ⟨⟨by decide +kernel, by decide +kernel⟩, List.mem_of_getElem? (i := 704) (by decide +kernel), List.mem_of_getElem? (i := 796) (by decide +kernel), List.mem_of_getElem? (i := 797) (by decide +kernel)⟩
theorem lw_p15 : lw_okq (⟨"LivesAheadModel", "readsFact", "(I)Z"⟩, 14) := ⟨⟨by decide +kernel, by decide +kernel⟩, List.mem_of_getElem? (i := 704) (by decide +kernel), List.mem_of_getElem? (i := 800) (by decide +kernel), List.mem_of_getElem? (i := 801) (by decide +kernel)⟩
def lw_privs_1 : List (MethodName × Nat) := [(⟨"LivesAhead$History", "stateAt", "(I)LLivesAhead$Desk;"⟩, 3), (⟨"LivesAhead$PersonsText", "readPerson", "(LLivesAhead$Life;I)Z"⟩, 5), (⟨"LivesAhead$PersonsText", "takeAge", "()I"⟩, 5), (⟨"LivesAhead$PersonsText", "takeDigit", "(II)I"⟩, 5), (⟨"LivesAhead$PersonsText", "takes", "(C)Z"⟩, 5), (⟨"LivesAhead$PersonsText", "readFact", "(LLivesAhead$Life;I)Z"⟩, 5), (⟨"LivesAhead$Page", "queueDead", "(LLivesAhead$Desk;)V"⟩, 4), (⟨"LivesAheadModel", "record", "()V"⟩, 14), (⟨"LivesAheadModel", "come", "(II)I"⟩, 14), (⟨"LivesAheadModel", "faultOf", "()I"⟩, 14), (⟨"LivesAheadModel", "readsPerson", "()Z"⟩, 14), (⟨"LivesAheadModel", "age", "()I"⟩, 14), (⟨"LivesAheadModel", "digit", "(CC)I"⟩, 14), (⟨"LivesAheadModel", "isSign", "(ICC)Z"⟩, 14), (⟨"LivesAheadModel", "accepts", "(C)Z"⟩, 14), (⟨"LivesAheadModel", "readsFact", "(I)Z"⟩, 14)]
theorem lw_r1 : ∀ q ∈ lw_privs_1, lw_okq q := List.forall_mem_cons.mpr ⟨lw_p0, List.forall_mem_cons.mpr ⟨lw_p1, List.forall_mem_cons.mpr ⟨lw_p2, List.forall_mem_cons.mpr ⟨lw_p3, List.forall_mem_cons.mpr ⟨lw_p4, List.forall_mem_cons.mpr ⟨lw_p5, List.forall_mem_cons.mpr ⟨lw_p6, List.forall_mem_cons.mpr ⟨lw_p7, List.forall_mem_cons.mpr ⟨lw_p8, List.forall_mem_cons.mpr ⟨lw_p9, List.forall_mem_cons.mpr ⟨lw_p10, List.forall_mem_cons.mpr ⟨lw_p11, List.forall_mem_cons.mpr ⟨lw_p12, List.forall_mem_cons.mpr ⟨lw_p13, List.forall_mem_cons.mpr ⟨lw_p14, List.forall_mem_cons.mpr ⟨lw_p15, fun _ h => absurd h List.not_mem_nil⟩⟩⟩⟩⟩⟩⟩⟩⟩⟩⟩⟩⟩⟩⟩⟩
theorem lw_p16 : lw_okq (⟨"LivesAheadModel", "add", "(III)V"⟩, 14) := ⟨⟨by decide +kernel, by decide +kernel⟩, List.mem_of_getElem? (i := 704) (by decide +kernel), List.mem_of_getElem? (i := 804) (by decide +kernel), List.mem_of_getElem? (i := 805) (by decide +kernel)⟩
theorem lw_p17 : lw_okq (⟨"LivesAheadModel", "of", "(II)I"⟩, 14) := ⟨⟨by decide +kernel, by decide +kernel⟩, List.mem_of_getElem? (i := 704) (by decide +kernel), List.mem_of_getElem? (i := 808) (by decide +kernel), List.mem_of_getElem? (i := 809) (by decide +kernel)⟩
theorem lw_p18 : lw_okq (⟨"LivesAheadModel", "isPerson", "(I)Z"⟩, 14) := ⟨⟨by decide +kernel, by decide +kernel⟩, List.mem_of_getElem? (i := 704) (by decide +kernel), List.mem_of_getElem? (i := 819) (by decide +kernel), List.mem_of_getElem? (i := 820) (by decide +kernel)⟩
theorem lw_p19 : lw_okq (⟨"LivesAheadModel", "isFact", "(II)Z"⟩, 14) := ⟨⟨by decide +kernel, by decide +kernel⟩, List.mem_of_getElem? (i := 704) (by decide +kernel), List.mem_of_getElem? (i := 827) (by decide +kernel), List.mem_of_getElem? (i := 828) (by decide +kernel)⟩
theorem lw_p20 : lw_okq (⟨"LivesAheadModel", "mostUrgent", "()I"⟩, 14) := ⟨⟨by decide +kernel, by decide +kernel⟩, List.mem_of_getElem? (i := 704) (by decide +kernel), List.mem_of_getElem? (i := 839) (by decide +kernel), List.mem_of_getElem? (i := 840) (by decide +kernel)⟩
theorem lw_p21 : lw_okq (⟨"LivesAheadModel", "due", "(I)I"⟩, 14) := ⟨⟨by decide +kernel, by decide +kernel⟩, List.mem_of_getElem? (i := 704) (by decide +kernel), List.mem_of_getElem? (i := 843) (by decide +kernel), List.mem_of_getElem? (i := 844) (by decide +kernel)⟩
theorem lw_p22 : lw_okq (⟨"LivesAheadModel", "isStaleOn", "(III)Z"⟩, 14) := ⟨⟨by decide +kernel, by decide +kernel⟩, List.mem_of_getElem? (i := 704) (by decide +kernel), List.mem_of_getElem? (i := 847) (by decide +kernel), List.mem_of_getElem? (i := 848) (by decide +kernel)⟩
theorem lw_p23 : lw_okq (⟨"LivesAheadModel", "worthOn", "(III)F"⟩, 14) := ⟨⟨by decide +kernel, by decide +kernel⟩, List.mem_of_getElem? (i := 704) (by decide +kernel), List.mem_of_getElem? (i := 851) (by decide +kernel), List.mem_of_getElem? (i := 852) (by decide +kernel)⟩
theorem lw_p24 : lw_okq (⟨"LivesAheadModel", "urgency", "(I)I"⟩, 14) := ⟨⟨by decide +kernel, by decide +kernel⟩, List.mem_of_getElem? (i := 704) (by decide +kernel), List.mem_of_getElem? (i := 857) (by decide +kernel), List.mem_of_getElem? (i := 858) (by decide +kernel)⟩
theorem lw_p25 : lw_okq (⟨"LivesAheadModel", "stale", "(II)I"⟩, 14) := ⟨⟨by decide +kernel, by decide +kernel⟩, List.mem_of_getElem? (i := 704) (by decide +kernel), List.mem_of_getElem? (i := 861) (by decide +kernel), List.mem_of_getElem? (i := 862) (by decide +kernel)⟩
theorem lw_p26 : lw_okq (⟨"LivesAheadModel", "inState", "(I)I"⟩, 14) := ⟨⟨by decide +kernel, by decide +kernel⟩, List.mem_of_getElem? (i := 704) (by decide +kernel), List.mem_of_getElem? (i := 884) (by decide +kernel), List.mem_of_getElem? (i := 885) (by decide +kernel)⟩
theorem lw_p27 : lw_okq (⟨"LivesAheadModel", "layPage", "()V"⟩, 14) := ⟨⟨by decide +kernel, by decide +kernel⟩, List.mem_of_getElem? (i := 704) (by decide +kernel), List.mem_of_getElem? (i := 892) (by decide +kernel), List.mem_of_getElem? (i := 893) (by decide +kernel)⟩
theorem lw_p28 : lw_okq (⟨"LivesAheadModel", "isReady", "(I)Z"⟩, 14) := ⟨⟨by decide +kernel, by decide +kernel⟩, List.mem_of_getElem? (i := 704) (by decide +kernel), List.mem_of_getElem? (i := 896) (by decide +kernel), List.mem_of_getElem? (i := 897) (by decide +kernel)⟩
theorem lw_p29 : lw_okq (⟨"LivesAheadModel", "sources", "(I)I"⟩, 14) := ⟨⟨by decide +kernel, by decide +kernel⟩, List.mem_of_getElem? (i := 704) (by decide +kernel), List.mem_of_getElem? (i := 900) (by decide +kernel), List.mem_of_getElem? (i := 901) (by decide +kernel)⟩
theorem lw_p30 : lw_okq (⟨"LivesAheadModel", "isAhead", "(II)Z"⟩, 14) := ⟨⟨by decide +kernel, by decide +kernel⟩, List.mem_of_getElem? (i := 704) (by decide +kernel), List.mem_of_getElem? (i := 904) (by decide +kernel), List.mem_of_getElem? (i := 905) (by decide +kernel)⟩
theorem lw_p31 : lw_okq (⟨"LivesAheadModel", "lines", "(I)I"⟩, 14) := ⟨⟨by decide +kernel, by decide +kernel⟩, List.mem_of_getElem? (i := 704) (by decide +kernel), List.mem_of_getElem? (i := 908) (by decide +kernel), List.mem_of_getElem? (i := 909) (by decide +kernel)⟩
def lw_privs_2 : List (MethodName × Nat) := [(⟨"LivesAheadModel", "add", "(III)V"⟩, 14), (⟨"LivesAheadModel", "of", "(II)I"⟩, 14), (⟨"LivesAheadModel", "isPerson", "(I)Z"⟩, 14), (⟨"LivesAheadModel", "isFact", "(II)Z"⟩, 14), (⟨"LivesAheadModel", "mostUrgent", "()I"⟩, 14), (⟨"LivesAheadModel", "due", "(I)I"⟩, 14), (⟨"LivesAheadModel", "isStaleOn", "(III)Z"⟩, 14), (⟨"LivesAheadModel", "worthOn", "(III)F"⟩, 14), (⟨"LivesAheadModel", "urgency", "(I)I"⟩, 14), (⟨"LivesAheadModel", "stale", "(II)I"⟩, 14), (⟨"LivesAheadModel", "inState", "(I)I"⟩, 14), (⟨"LivesAheadModel", "layPage", "()V"⟩, 14), (⟨"LivesAheadModel", "isReady", "(I)Z"⟩, 14), (⟨"LivesAheadModel", "sources", "(I)I"⟩, 14), (⟨"LivesAheadModel", "isAhead", "(II)Z"⟩, 14), (⟨"LivesAheadModel", "lines", "(I)I"⟩, 14)]
theorem lw_r2 : ∀ q ∈ lw_privs_2, lw_okq q := List.forall_mem_cons.mpr ⟨lw_p16, List.forall_mem_cons.mpr ⟨lw_p17, List.forall_mem_cons.mpr ⟨lw_p18, List.forall_mem_cons.mpr ⟨lw_p19, List.forall_mem_cons.mpr ⟨lw_p20, List.forall_mem_cons.mpr ⟨lw_p21, List.forall_mem_cons.mpr ⟨lw_p22, List.forall_mem_cons.mpr ⟨lw_p23, List.forall_mem_cons.mpr ⟨lw_p24, List.forall_mem_cons.mpr ⟨lw_p25, List.forall_mem_cons.mpr ⟨lw_p26, List.forall_mem_cons.mpr ⟨lw_p27, List.forall_mem_cons.mpr ⟨lw_p28, List.forall_mem_cons.mpr ⟨lw_p29, List.forall_mem_cons.mpr ⟨lw_p30, List.forall_mem_cons.mpr ⟨lw_p31, fun _ h => absurd h List.not_mem_nil⟩⟩⟩⟩⟩⟩⟩⟩⟩⟩⟩⟩⟩⟩⟩⟩
theorem lw_p32 : lw_okq (⟨"LivesAheadModel", "staleOn", "(I)I"⟩, 14) := ⟨⟨by decide +kernel, by decide +kernel⟩, List.mem_of_getElem? (i := 704) (by decide +kernel), List.mem_of_getElem? (i := 975) (by decide +kernel), List.mem_of_getElem? (i := 976) (by decide +kernel)⟩
theorem lw_p33 : lw_okq (⟨"LivesAheadModel", "facts", "()I"⟩, 14) := ⟨⟨by decide +kernel, by decide +kernel⟩, List.mem_of_getElem? (i := 704) (by decide +kernel), List.mem_of_getElem? (i := 983) (by decide +kernel), List.mem_of_getElem? (i := 984) (by decide +kernel)⟩
theorem lw_p34 : lw_okq (⟨"LivesAheadModel", "freeLines", "()I"⟩, 14) := ⟨⟨by decide +kernel, by decide +kernel⟩, List.mem_of_getElem? (i := 704) (by decide +kernel), List.mem_of_getElem? (i := 987) (by decide +kernel), List.mem_of_getElem? (i := 988) (by decide +kernel)⟩
def lw_privs_3 : List (MethodName × Nat) := [(⟨"LivesAheadModel", "staleOn", "(I)I"⟩, 14), (⟨"LivesAheadModel", "facts", "()I"⟩, 14), (⟨"LivesAheadModel", "freeLines", "()I"⟩, 14)]
theorem lw_r3 : ∀ q ∈ lw_privs_3, lw_okq q := List.forall_mem_cons.mpr ⟨lw_p32, List.forall_mem_cons.mpr ⟨lw_p33, List.forall_mem_cons.mpr ⟨lw_p34, fun _ h => absurd h List.not_mem_nil⟩⟩⟩
def lw_privs : List (MethodName × Nat) := lw_privs_1 ++ (lw_privs_2 ++ (lw_privs_3))
def lw_tbl : List Cond := k2_sels lw_privs ++ tables_1
theorem lw_privs_ok : ∀ q ∈ lw_privs, lw_okq q := by
  show ∀ q ∈ lw_privs_1 ++ (lw_privs_2 ++ (lw_privs_3)), lw_okq q
  exact List.forall_mem_append.mpr ⟨lw_r1, List.forall_mem_append.mpr ⟨lw_r2, lw_r3⟩⟩
/-- the streams that the claim lets the run draw from -/
abbrev lw_cs : List Choice := [Jvm.Choice.named "NaN.bits"]
theorem lw_bits : nanBits ∈ lw_cs := by first | decide | exact List.mem_cons_self | simp [lw_cs, nanBits]

def RX0 : String := "LivesAhead$Desk"
def TX0 : u_T := fun k => match k with
  | 0 => ("LivesAhead$Desk", "settings", "[I", true)
  | 1 => ("LivesAhead$Desk", "trusts", "[I", true)
  | 2 => ("LivesAhead$Desk", "lives", "[LLivesAhead$Life;", true)
  | 3 => ("LivesAhead$Desk", "persons", "I", false)
  | 4 => ("LivesAhead$Desk", "day", "I", false)
  | 5 => ("LivesAhead$Desk", "hoursLeft", "I", false)
  | _ => ("LivesAhead$Desk", "corrections", "I", false)
def tyX0 : Nat → FieldType := fun k => match k with
  | 0 => .array .int
  | 1 => .array .int
  | 2 => .array (.object "LivesAhead$Life")
  | 3 => .int
  | 4 => .int
  | 5 => .int
  | _ => .int
abbrev wsX00 : List Cond := u_ws RX0 TX0 7
theorem nmX0 : ∀ a, a < 7 → ∀ b, b < 7 → a ≠ b → (TX0 a).2.1 ≠ (TX0 b).2.1 := by decide +kernel
theorem tyX0_ok : ∀ k, k < 7 → parseFieldDescriptor (TX0 k).2.2.1 = some (tyX0 k) := by decide +kernel
abbrev cX0_init : ByteArray := prog_2_method_1_code
def yX0_init : MethodName := ⟨RX0, "<init>", "()V"⟩
abbrev cX0_copyFrom : ByteArray := prog_2_method_2_code
def yX0_copyFrom : MethodName := ⟨RX0, "copyFrom", "(LLivesAhead$Desk;)V"⟩
abbrev cX0_today : ByteArray := prog_2_method_3_code
def yX0_today : MethodName := ⟨RX0, "today", "()I"⟩
abbrev cX0_hoursLeft : ByteArray := prog_2_method_4_code
def yX0_hoursLeft : MethodName := ⟨RX0, "hoursLeft", "()I"⟩
abbrev cX0_persons : ByteArray := prog_2_method_5_code
def yX0_persons : MethodName := ⟨RX0, "persons", "()I"⟩
abbrev cX0_corrections : ByteArray := prog_2_method_6_code
def yX0_corrections : MethodName := ⟨RX0, "corrections", "()I"⟩
abbrev cX0_roomForPersons : ByteArray := prog_2_method_7_code
def yX0_roomForPersons : MethodName := ⟨RX0, "roomForPersons", "()I"⟩
abbrev cX0_lifeOf : ByteArray := prog_2_method_8_code
def yX0_lifeOf : MethodName := ⟨RX0, "lifeOf", "(I)LLivesAhead$Life;"⟩
abbrev cX0_join : ByteArray := prog_2_method_9_code
def yX0_join : MethodName := ⟨RX0, "join", "(II)I"⟩
abbrev cX0_joinLike : ByteArray := prog_2_method_10_code
def yX0_joinLike : MethodName := ⟨RX0, "joinLike", "(LLivesAhead$Life;)V"⟩
abbrev cX0_spendHours : ByteArray := prog_2_method_11_code
def yX0_spendHours : MethodName := ⟨RX0, "spendHours", "(I)V"⟩
abbrev cX0_setting : ByteArray := prog_2_method_12_code
def yX0_setting : MethodName := ⟨RX0, "setting", "(I)I"⟩
abbrev cX0_changeSetting : ByteArray := prog_2_method_13_code
def yX0_changeSetting : MethodName := ⟨RX0, "changeSetting", "(II)V"⟩
abbrev cX0_trustOf : ByteArray := prog_2_method_14_code
def yX0_trustOf : MethodName := ⟨RX0, "trustOf", "(I)I"⟩
abbrev cX0_changeTrust : ByteArray := prog_2_method_15_code
def yX0_changeTrust : MethodName := ⟨RX0, "changeTrust", "(II)V"⟩
abbrev cX0_countCorrection : ByteArray := prog_2_method_16_code
def yX0_countCorrection : MethodName := ⟨RX0, "countCorrection", "()I"⟩
abbrev cX0_personsIn : ByteArray := prog_2_method_17_code
def yX0_personsIn : MethodName := ⟨RX0, "personsIn", "(I)I"⟩
abbrev cX0_facts : ByteArray := prog_2_method_18_code
def yX0_facts : MethodName := ⟨RX0, "facts", "()I"⟩
abbrev cX0_worthOf : ByteArray := prog_2_method_19_code
def yX0_worthOf : MethodName := ⟨RX0, "worthOf", "(LLivesAhead$Life;II)F"⟩
abbrev cX0_worthOfLife : ByteArray := prog_2_method_20_code
def yX0_worthOfLife : MethodName := ⟨RX0, "worthOfLife", "(LLivesAhead$Life;)F"⟩
abbrev cX0_bound : ByteArray := prog_2_method_21_code
def yX0_bound : MethodName := ⟨RX0, "bound", "()F"⟩
abbrev cX0_isStale : ByteArray := prog_2_method_22_code
def yX0_isStale : MethodName := ⟨RX0, "isStale", "(LLivesAhead$Life;I)Z"⟩
abbrev cX0_staleFactsOf : ByteArray := prog_2_method_23_code
def yX0_staleFactsOf : MethodName := ⟨RX0, "staleFactsOf", "(LLivesAhead$Life;I)I"⟩
abbrev cX0_staleFactsOn : ByteArray := prog_2_method_24_code
def yX0_staleFactsOn : MethodName := ⟨RX0, "staleFactsOn", "(I)I"⟩
abbrev cX0_factsFrom : ByteArray := prog_2_method_25_code
def yX0_factsFrom : MethodName := ⟨RX0, "factsFrom", "(I)I"⟩
abbrev cX0_staleFactsFrom : ByteArray := prog_2_method_26_code
def yX0_staleFactsFrom : MethodName := ⟨RX0, "staleFactsFrom", "(I)I"⟩
abbrev cX0_linesFrom : ByteArray := prog_2_method_27_code
def yX0_linesFrom : MethodName := ⟨RX0, "linesFrom", "(I)I"⟩
abbrev cX0_urgencyOf : ByteArray := prog_2_method_28_code
def yX0_urgencyOf : MethodName := ⟨RX0, "urgencyOf", "(LLivesAhead$Life;)I"⟩
abbrev cX0_rankUrgencies : ByteArray := prog_2_method_29_code
def yX0_rankUrgencies : MethodName := ⟨RX0, "rankUrgencies", "(LLivesAhead$Ranking;)V"⟩
abbrev cX0_firstToCheck : ByteArray := prog_2_method_30_code
def yX0_firstToCheck : MethodName := ⟨RX0, "firstToCheck", "(LLivesAhead$Life;)I"⟩
abbrev cX0_mostUrgentToCheck : ByteArray := prog_2_method_31_code
def yX0_mostUrgentToCheck : MethodName := ⟨RX0, "mostUrgentToCheck", "()LLivesAhead$Life;"⟩
abbrev cX0_checkToday : ByteArray := prog_2_method_32_code
def yX0_checkToday : MethodName := ⟨RX0, "checkToday", "(LLivesAhead$Life;I)V"⟩
abbrev cX0_couldPrint : ByteArray := prog_2_method_33_code
def yX0_couldPrint : MethodName := ⟨RX0, "couldPrint", "(LLivesAhead$Life;)Z"⟩
abbrev cX0_markPrinted : ByteArray := prog_2_method_34_code
def yX0_markPrinted : MethodName := ⟨RX0, "markPrinted", "(I)V"⟩
abbrev cX0_takeBackOldDeaths : ByteArray := prog_2_method_35_code
def yX0_takeBackOldDeaths : MethodName := ⟨RX0, "takeBackOldDeaths", "()V"⟩
abbrev cX0_beginNextDay : ByteArray := prog_2_method_36_code
def yX0_beginNextDay : MethodName := ⟨RX0, "beginNextDay", "()V"⟩
def RX1 : String := "LivesAhead$History"
def TX1 : u_T := fun k => match k with
  | 0 => ("LivesAhead$History", "states", "[LLivesAhead$Desk;", true)
  | 1 => ("LivesAhead$History", "first", "I", false)
  | _ => ("LivesAhead$History", "size", "I", false)
def tyX1 : Nat → FieldType := fun k => match k with
  | 0 => .array (.object "LivesAhead$Desk")
  | 1 => .int
  | _ => .int
abbrev wsX10 : List Cond := u_ws RX1 TX1 3
theorem nmX1 : ∀ a, a < 3 → ∀ b, b < 3 → a ≠ b → (TX1 a).2.1 ≠ (TX1 b).2.1 := by decide +kernel
theorem tyX1_ok : ∀ k, k < 3 → parseFieldDescriptor (TX1 k).2.2.1 = some (tyX1 k) := by decide +kernel
abbrev cX1_init : ByteArray := prog_3_method_1_code
def yX1_init : MethodName := ⟨RX1, "<init>", "()V"⟩
abbrev cX1_size : ByteArray := prog_3_method_2_code
def yX1_size : MethodName := ⟨RX1, "size", "()I"⟩
abbrev cX1_remember : ByteArray := prog_3_method_3_code
def yX1_remember : MethodName := ⟨RX1, "remember", "(LLivesAhead$Desk;)V"⟩
abbrev cX1_takeLatest : ByteArray := prog_3_method_4_code
def yX1_takeLatest : MethodName := ⟨RX1, "takeLatest", "(LLivesAhead$Desk;)V"⟩
abbrev cX1_stateAt : ByteArray := prog_3_method_5_code
def yX1_stateAt : MethodName := ⟨RX1, "stateAt", "(I)LLivesAhead$Desk;"⟩
def RX2 : String := "LivesAhead$Life"
def TX2 : u_T := fun k => match k with
  | 0 => ("LivesAhead$Life", "age", "I", false)
  | 1 => ("LivesAhead$Life", "rank", "I", false)
  | 2 => ("LivesAhead$Life", "state", "I", false)
  | 3 => ("LivesAhead$Life", "teller", "I", false)
  | 4 => ("LivesAhead$Life", "deathDay", "I", false)
  | 5 => ("LivesAhead$Life", "printDay", "I", false)
  | 6 => ("LivesAhead$Life", "size", "I", false)
  | 7 => ("LivesAhead$Life", "sources", "[I", true)
  | 8 => ("LivesAhead$Life", "lines", "[I", true)
  | _ => ("LivesAhead$Life", "days", "[I", true)
def tyX2 : Nat → FieldType := fun k => match k with
  | 0 => .int
  | 1 => .int
  | 2 => .int
  | 3 => .int
  | 4 => .int
  | 5 => .int
  | 6 => .int
  | 7 => .array .int
  | 8 => .array .int
  | _ => .array .int
abbrev wsX20 : List Cond := u_ws RX2 TX2 10
theorem nmX2 : ∀ a, a < 10 → ∀ b, b < 10 → a ≠ b → (TX2 a).2.1 ≠ (TX2 b).2.1 := by decide +kernel
theorem tyX2_ok : ∀ k, k < 10 → parseFieldDescriptor (TX2 k).2.2.1 = some (tyX2 k) := by decide +kernel
abbrev cX2_init : ByteArray := prog_4_method_1_code
def yX2_init : MethodName := ⟨RX2, "<init>", "()V"⟩
abbrev cX2_begin : ByteArray := prog_4_method_2_code
def yX2_begin : MethodName := ⟨RX2, "begin", "(II)V"⟩
abbrev cX2_copyLife : ByteArray := prog_4_method_3_code
def yX2_copyLife : MethodName := ⟨RX2, "copyLife", "(LLivesAhead$Life;)V"⟩
abbrev cX2_age : ByteArray := prog_4_method_4_code
def yX2_age : MethodName := ⟨RX2, "age", "()I"⟩
abbrev cX2_rank : ByteArray := prog_4_method_5_code
def yX2_rank : MethodName := ⟨RX2, "rank", "()I"⟩
abbrev cX2_state : ByteArray := prog_4_method_6_code
def yX2_state : MethodName := ⟨RX2, "state", "()I"⟩
abbrev cX2_isIn : ByteArray := prog_4_method_7_code
def yX2_isIn : MethodName := ⟨RX2, "isIn", "(I)Z"⟩
abbrev cX2_teller : ByteArray := prog_4_method_8_code
def yX2_teller : MethodName := ⟨RX2, "teller", "()I"⟩
abbrev cX2_deathDay : ByteArray := prog_4_method_9_code
def yX2_deathDay : MethodName := ⟨RX2, "deathDay", "()I"⟩
abbrev cX2_printDay : ByteArray := prog_4_method_10_code
def yX2_printDay : MethodName := ⟨RX2, "printDay", "()I"⟩
abbrev cX2_size : ByteArray := prog_4_method_11_code
def yX2_size : MethodName := ⟨RX2, "size", "()I"⟩
abbrev cX2_tellDead : ByteArray := prog_4_method_12_code
def yX2_tellDead : MethodName := ⟨RX2, "tellDead", "(II)V"⟩
abbrev cX2_confirmDeath : ByteArray := prog_4_method_13_code
def yX2_confirmDeath : MethodName := ⟨RX2, "confirmDeath", "(I)V"⟩
abbrev cX2_takeBackDeath : ByteArray := prog_4_method_14_code
def yX2_takeBackDeath : MethodName := ⟨RX2, "takeBackDeath", "()V"⟩
abbrev cX2_becomePrinted : ByteArray := prog_4_method_15_code
def yX2_becomePrinted : MethodName := ⟨RX2, "becomePrinted", "(I)V"⟩
abbrev cX2_hasFact : ByteArray := prog_4_method_16_code
def yX2_hasFact : MethodName := ⟨RX2, "hasFact", "(I)Z"⟩
abbrev cX2_sourceOf : ByteArray := prog_4_method_17_code
def yX2_sourceOf : MethodName := ⟨RX2, "sourceOf", "(I)I"⟩
abbrev cX2_linesOf : ByteArray := prog_4_method_18_code
def yX2_linesOf : MethodName := ⟨RX2, "linesOf", "(I)I"⟩
abbrev cX2_dayOf : ByteArray := prog_4_method_19_code
def yX2_dayOf : MethodName := ⟨RX2, "dayOf", "(I)I"⟩
abbrev cX2_addFact : ByteArray := prog_4_method_20_code
def yX2_addFact : MethodName := ⟨RX2, "addFact", "(III)I"⟩
abbrev cX2_removeFact : ByteArray := prog_4_method_21_code
def yX2_removeFact : MethodName := ⟨RX2, "removeFact", "(I)V"⟩
abbrev cX2_changeSource : ByteArray := prog_4_method_22_code
def yX2_changeSource : MethodName := ⟨RX2, "changeSource", "(II)V"⟩
abbrev cX2_changeDay : ByteArray := prog_4_method_23_code
def yX2_changeDay : MethodName := ⟨RX2, "changeDay", "(II)V"⟩
abbrev cX2_length : ByteArray := prog_4_method_24_code
def yX2_length : MethodName := ⟨RX2, "length", "()I"⟩
abbrev cX2_differentSources : ByteArray := prog_4_method_25_code
def yX2_differentSources : MethodName := ⟨RX2, "differentSources", "()I"⟩
def RX3 : String := "LivesAhead$Page"
def TX3 : u_T := fun k => match k with
  | 0 => ("LivesAhead$Page", "queue", "LLivesAhead$Ranking;", true)
  | 1 => ("LivesAhead$Page", "persons", "[I", true)
  | 2 => ("LivesAhead$Page", "size", "I", false)
  | _ => ("LivesAhead$Page", "linesFree", "I", false)
def tyX3 : Nat → FieldType := fun k => match k with
  | 0 => .object "LivesAhead$Ranking"
  | 1 => .array .int
  | 2 => .int
  | _ => .int
abbrev wsX30 : List Cond := u_ws RX3 TX3 4
theorem nmX3 : ∀ a, a < 4 → ∀ b, b < 4 → a ≠ b → (TX3 a).2.1 ≠ (TX3 b).2.1 := by decide +kernel
theorem tyX3_ok : ∀ k, k < 4 → parseFieldDescriptor (TX3 k).2.2.1 = some (tyX3 k) := by decide +kernel
abbrev cX3_init : ByteArray := prog_5_method_1_code
def yX3_init : MethodName := ⟨RX3, "<init>", "()V"⟩
abbrev cX3_lay : ByteArray := prog_5_method_2_code
def yX3_lay : MethodName := ⟨RX3, "lay", "(LLivesAhead$Desk;)V"⟩
abbrev cX3_size : ByteArray := prog_5_method_3_code
def yX3_size : MethodName := ⟨RX3, "size", "()I"⟩
abbrev cX3_linesFree : ByteArray := prog_5_method_4_code
def yX3_linesFree : MethodName := ⟨RX3, "linesFree", "()I"⟩
abbrev cX3_queueDead : ByteArray := prog_5_method_5_code
def yX3_queueDead : MethodName := ⟨RX3, "queueDead", "(LLivesAhead$Desk;)V"⟩
abbrev cX3_personAt : ByteArray := prog_5_method_6_code
def yX3_personAt : MethodName := ⟨RX3, "personAt", "(I)I"⟩
def RX4 : String := "LivesAhead$PersonsText"
def TX4 : u_T := fun k => match k with
  | 0 => ("LivesAhead$PersonsText", "characters", "[C", true)
  | 1 => ("LivesAhead$PersonsText", "length", "I", false)
  | 2 => ("LivesAhead$PersonsText", "read", "[LLivesAhead$Life;", true)
  | 3 => ("LivesAhead$PersonsText", "personsRead", "I", false)
  | _ => ("LivesAhead$PersonsText", "at", "I", false)
def tyX4 : Nat → FieldType := fun k => match k with
  | 0 => .array .char
  | 1 => .int
  | 2 => .array (.object "LivesAhead$Life")
  | 3 => .int
  | _ => .int
abbrev wsX40 : List Cond := u_ws RX4 TX4 5
theorem nmX4 : ∀ a, a < 5 → ∀ b, b < 5 → a ≠ b → (TX4 a).2.1 ≠ (TX4 b).2.1 := by decide +kernel
theorem tyX4_ok : ∀ k, k < 5 → parseFieldDescriptor (TX4 k).2.2.1 = some (tyX4 k) := by decide +kernel
abbrev cX4_init : ByteArray := prog_6_method_1_code
def yX4_init : MethodName := ⟨RX4, "<init>", "()V"⟩
abbrev cX4_length : ByteArray := prog_6_method_2_code
def yX4_length : MethodName := ⟨RX4, "length", "()I"⟩
abbrev cX4_append : ByteArray := prog_6_method_3_code
def yX4_append : MethodName := ⟨RX4, "append", "(C)Z"⟩
abbrev cX4_clear : ByteArray := prog_6_method_4_code
def yX4_clear : MethodName := ⟨RX4, "clear", "()V"⟩
abbrev cX4_fault : ByteArray := prog_6_method_5_code
def yX4_fault : MethodName := ⟨RX4, "fault", "()I"⟩
abbrev cX4_personsRead : ByteArray := prog_6_method_6_code
def yX4_personsRead : MethodName := ⟨RX4, "personsRead", "()I"⟩
abbrev cX4_readLife : ByteArray := prog_6_method_7_code
def yX4_readLife : MethodName := ⟨RX4, "readLife", "(I)LLivesAhead$Life;"⟩
abbrev cX4_readPersons : ByteArray := prog_6_method_8_code
def yX4_readPersons : MethodName := ⟨RX4, "readPersons", "(I)Z"⟩
abbrev cX4_readPerson : ByteArray := prog_6_method_9_code
def yX4_readPerson : MethodName := ⟨RX4, "readPerson", "(LLivesAhead$Life;I)Z"⟩
abbrev cX4_readFact : ByteArray := prog_6_method_10_code
def yX4_readFact : MethodName := ⟨RX4, "readFact", "(LLivesAhead$Life;I)Z"⟩
abbrev cX4_takeAge : ByteArray := prog_6_method_11_code
def yX4_takeAge : MethodName := ⟨RX4, "takeAge", "()I"⟩
abbrev cX4_takeDigit : ByteArray := prog_6_method_12_code
def yX4_takeDigit : MethodName := ⟨RX4, "takeDigit", "(II)I"⟩
abbrev cX4_takes : ByteArray := prog_6_method_13_code
def yX4_takes : MethodName := ⟨RX4, "takes", "(C)Z"⟩
def RX5 : String := "LivesAhead$Ranking"
def TX5 : u_T := fun k => match k with
  | 0 => ("LivesAhead$Ranking", "persons", "[I", true)
  | 1 => ("LivesAhead$Ranking", "keys", "[I", true)
  | _ => ("LivesAhead$Ranking", "size", "I", false)
def tyX5 : Nat → FieldType := fun k => match k with
  | 0 => .array .int
  | 1 => .array .int
  | _ => .int
abbrev wsX50 : List Cond := u_ws RX5 TX5 3
theorem nmX5 : ∀ a, a < 3 → ∀ b, b < 3 → a ≠ b → (TX5 a).2.1 ≠ (TX5 b).2.1 := by decide +kernel
theorem tyX5_ok : ∀ k, k < 3 → parseFieldDescriptor (TX5 k).2.2.1 = some (tyX5 k) := by decide +kernel
abbrev cX5_init : ByteArray := prog_7_method_1_code
def yX5_init : MethodName := ⟨RX5, "<init>", "()V"⟩
abbrev cX5_clear : ByteArray := prog_7_method_2_code
def yX5_clear : MethodName := ⟨RX5, "clear", "()V"⟩
abbrev cX5_size : ByteArray := prog_7_method_3_code
def yX5_size : MethodName := ⟨RX5, "size", "()I"⟩
abbrev cX5_enter : ByteArray := prog_7_method_4_code
def yX5_enter : MethodName := ⟨RX5, "enter", "(II)V"⟩
abbrev cX5_personAt : ByteArray := prog_7_method_5_code
def yX5_personAt : MethodName := ⟨RX5, "personAt", "(I)I"⟩
def RX6 : String := "LivesAhead"
def TX6 : u_T := fun k => match k with
  | 0 => ("LivesAhead", "desk", "LLivesAhead$Desk;", true)
  | 1 => ("LivesAhead", "snapshot", "LLivesAhead$Desk;", true)
  | 2 => ("LivesAhead", "hasSnapshot", "Z", false)
  | 3 => ("LivesAhead", "history", "LLivesAhead$History;", true)
  | 4 => ("LivesAhead", "text", "LLivesAhead$PersonsText;", true)
  | 5 => ("LivesAhead", "urgencies", "LLivesAhead$Ranking;", true)
  | _ => ("LivesAhead", "nextPage", "LLivesAhead$Page;", true)
def tyX6 : Nat → FieldType := fun k => match k with
  | 0 => .object "LivesAhead$Desk"
  | 1 => .object "LivesAhead$Desk"
  | 2 => .boolean
  | 3 => .object "LivesAhead$History"
  | 4 => .object "LivesAhead$PersonsText"
  | 5 => .object "LivesAhead$Ranking"
  | _ => .object "LivesAhead$Page"
abbrev wsX60 : List Cond := u_ws RX6 TX6 7
theorem nmX6 : ∀ a, a < 7 → ∀ b, b < 7 → a ≠ b → (TX6 a).2.1 ≠ (TX6 b).2.1 := by decide +kernel
theorem tyX6_ok : ∀ k, k < 7 → parseFieldDescriptor (TX6 k).2.2.1 = some (tyX6 k) := by decide +kernel
abbrev cX6_init : ByteArray := prog_1_method_1_code
def yX6_init : MethodName := ⟨RX6, "<init>", "()V"⟩
abbrev cX6_addPerson : ByteArray := prog_1_method_2_code
def yX6_addPerson : MethodName := ⟨RX6, "addPerson", "(II)I"⟩
abbrev cX6_addPersons : ByteArray := prog_1_method_3_code
def yX6_addPersons : MethodName := ⟨RX6, "addPersons", "()I"⟩
abbrev cX6_write : ByteArray := prog_1_method_4_code
def yX6_write : MethodName := ⟨RX6, "write", "(III)I"⟩
abbrev cX6_check : ByteArray := prog_1_method_5_code
def yX6_check : MethodName := ⟨RX6, "check", "(II)I"⟩
abbrev cX6_strike : ByteArray := prog_1_method_6_code
def yX6_strike : MethodName := ⟨RX6, "strike", "(II)I"⟩
abbrev cX6_checkUrgent : ByteArray := prog_1_method_7_code
def yX6_checkUrgent : MethodName := ⟨RX6, "checkUrgent", "()I"⟩
abbrev cX6_trust : ByteArray := prog_1_method_8_code
def yX6_trust : MethodName := ⟨RX6, "trust", "(II)I"⟩
abbrev cX6_set : ByteArray := prog_1_method_9_code
def yX6_set : MethodName := ⟨RX6, "set", "(II)I"⟩
abbrev cX6_tellDeath : ByteArray := prog_1_method_10_code
def yX6_tellDeath : MethodName := ⟨RX6, "tellDeath", "(II)I"⟩
abbrev cX6_decide : ByteArray := prog_1_method_11_code
def yX6_decide : MethodName := ⟨RX6, "decide", "(IZ)I"⟩
abbrev cX6_print : ByteArray := prog_1_method_12_code
def yX6_print : MethodName := ⟨RX6, "print", "()I"⟩
abbrev cX6_correct : ByteArray := prog_1_method_13_code
def yX6_correct : MethodName := ⟨RX6, "correct", "(III)I"⟩
abbrev cX6_type : ByteArray := prog_1_method_14_code
def yX6_type : MethodName := ⟨RX6, "type", "(C)I"⟩
abbrev cX6_clearText : ByteArray := prog_1_method_15_code
def yX6_clearText : MethodName := ⟨RX6, "clearText", "()I"⟩
abbrev cX6_undo : ByteArray := prog_1_method_16_code
def yX6_undo : MethodName := ⟨RX6, "undo", "()I"⟩
abbrev cX6_keep : ByteArray := prog_1_method_17_code
def yX6_keep : MethodName := ⟨RX6, "keep", "()I"⟩
abbrev cX6_restore : ByteArray := prog_1_method_18_code
def yX6_restore : MethodName := ⟨RX6, "restore", "()I"⟩
abbrev cX6_person : ByteArray := prog_1_method_19_code
def yX6_person : MethodName := ⟨RX6, "person", "(II)I"⟩
abbrev cX6_fact : ByteArray := prog_1_method_20_code
def yX6_fact : MethodName := ⟨RX6, "fact", "(III)I"⟩
abbrev cX6_worth : ByteArray := prog_1_method_21_code
def yX6_worth : MethodName := ⟨RX6, "worth", "(I)F"⟩
abbrev cX6_urgent : ByteArray := prog_1_method_22_code
def yX6_urgent : MethodName := ⟨RX6, "urgent", "(I)I"⟩
abbrev cX6_page : ByteArray := prog_1_method_23_code
def yX6_page : MethodName := ⟨RX6, "page", "(I)I"⟩
abbrev cX6_source : ByteArray := prog_1_method_24_code
def yX6_source : MethodName := ⟨RX6, "source", "(II)I"⟩
abbrev cX6_staleIn : ByteArray := prog_1_method_25_code
def yX6_staleIn : MethodName := ⟨RX6, "staleIn", "(I)I"⟩
abbrev cX6_count : ByteArray := prog_1_method_26_code
def yX6_count : MethodName := ⟨RX6, "count", "(I)I"⟩
abbrev cX6_isWithin : ByteArray := prog_1_method_27_code
def yX6_isWithin : MethodName := ⟨RX6, "isWithin", "(III)Z"⟩
abbrev cX6_isSource : ByteArray := prog_1_method_28_code
def yX6_isSource : MethodName := ⟨RX6, "isSource", "(I)Z"⟩
abbrev cX6_isSetting : ByteArray := prog_1_method_29_code
def yX6_isSetting : MethodName := ⟨RX6, "isSetting", "(I)Z"⟩
abbrev cX6_bitsOf : ByteArray := prog_1_method_30_code
def yX6_bitsOf : MethodName := ⟨RX6, "bitsOf", "(F)I"⟩
def RX7 : String := "LivesAheadModel"
def TX7 : u_T := fun k => match k with
  | 0 => ("LivesAheadModel", "s", "[I", true)
  | 1 => ("LivesAheadModel", "before", "[I", true)
  | 2 => ("LivesAheadModel", "kept", "[I", true)
  | 3 => ("LivesAheadModel", "page", "[I", true)
  | 4 => ("LivesAheadModel", "seen", "[Z", true)
  | 5 => ("LivesAheadModel", "pageMany", "I", false)
  | 6 => ("LivesAheadModel", "free", "I", false)
  | 7 => ("LivesAheadModel", "text", "[C", true)
  | 8 => ("LivesAheadModel", "length", "I", false)
  | 9 => ("LivesAheadModel", "states", "I", false)
  | 10 => ("LivesAheadModel", "isKept", "Z", false)
  | 11 => ("LivesAheadModel", "read", "[I", true)
  | 12 => ("LivesAheadModel", "at", "I", false)
  | _ => ("LivesAheadModel", "persons", "I", false)
def tyX7 : Nat → FieldType := fun k => match k with
  | 0 => .array .int
  | 1 => .array .int
  | 2 => .array .int
  | 3 => .array .int
  | 4 => .array .boolean
  | 5 => .int
  | 6 => .int
  | 7 => .array .char
  | 8 => .int
  | 9 => .int
  | 10 => .boolean
  | 11 => .array .int
  | 12 => .int
  | _ => .int
abbrev wsX70 : List Cond := u_ws RX7 TX7 14
theorem nmX7 : ∀ a, a < 14 → ∀ b, b < 14 → a ≠ b → (TX7 a).2.1 ≠ (TX7 b).2.1 := by decide +kernel
theorem tyX7_ok : ∀ k, k < 14 → parseFieldDescriptor (TX7 k).2.2.1 = some (tyX7 k) := by decide +kernel
abbrev cX7_init : ByteArray := prog_9_method_1_code
def yX7_init : MethodName := ⟨RX7, "<init>", "()V"⟩
abbrev cX7_in : ByteArray := prog_9_method_2_code
def yX7_in : MethodName := ⟨RX7, "in", "(III)Z"⟩
abbrev cX7_record : ByteArray := prog_9_method_3_code
def yX7_record : MethodName := ⟨RX7, "record", "()V"⟩
abbrev cX7_p : ByteArray := prog_9_method_4_code
def yX7_p : MethodName := ⟨RX7, "p", "(I)I"⟩
abbrev cX7_f : ByteArray := prog_9_method_5_code
def yX7_f : MethodName := ⟨RX7, "f", "(II)I"⟩
abbrev cX7_of : ByteArray := prog_9_method_6_code
def yX7_of : MethodName := ⟨RX7, "of", "(II)I"⟩
abbrev cX7_isPerson : ByteArray := prog_9_method_7_code
def yX7_isPerson : MethodName := ⟨RX7, "isPerson", "(I)Z"⟩
abbrev cX7_isFact : ByteArray := prog_9_method_8_code
def yX7_isFact : MethodName := ⟨RX7, "isFact", "(II)Z"⟩
abbrev cX7_worthOn : ByteArray := prog_9_method_9_code
def yX7_worthOn : MethodName := ⟨RX7, "worthOn", "(III)F"⟩
abbrev cX7_isStaleOn : ByteArray := prog_9_method_10_code
def yX7_isStaleOn : MethodName := ⟨RX7, "isStaleOn", "(III)Z"⟩
abbrev cX7_stale : ByteArray := prog_9_method_11_code
def yX7_stale : MethodName := ⟨RX7, "stale", "(II)I"⟩
abbrev cX7_lines : ByteArray := prog_9_method_12_code
def yX7_lines : MethodName := ⟨RX7, "lines", "(I)I"⟩
abbrev cX7_sources : ByteArray := prog_9_method_13_code
def yX7_sources : MethodName := ⟨RX7, "sources", "(I)I"⟩
abbrev cX7_isReady : ByteArray := prog_9_method_14_code
def yX7_isReady : MethodName := ⟨RX7, "isReady", "(I)Z"⟩
abbrev cX7_urgency : ByteArray := prog_9_method_15_code
def yX7_urgency : MethodName := ⟨RX7, "urgency", "(I)I"⟩
abbrev cX7_come : ByteArray := prog_9_method_16_code
def yX7_come : MethodName := ⟨RX7, "come", "(II)I"⟩
abbrev cX7_add : ByteArray := prog_9_method_17_code
def yX7_add : MethodName := ⟨RX7, "add", "(III)V"⟩
abbrev cX7_addPerson : ByteArray := prog_9_method_18_code
def yX7_addPerson : MethodName := ⟨RX7, "addPerson", "(II)I"⟩
abbrev cX7_isSign : ByteArray := prog_9_method_19_code
def yX7_isSign : MethodName := ⟨RX7, "isSign", "(ICC)Z"⟩
abbrev cX7_accepts : ByteArray := prog_9_method_20_code
def yX7_accepts : MethodName := ⟨RX7, "accepts", "(C)Z"⟩
abbrev cX7_digit : ByteArray := prog_9_method_21_code
def yX7_digit : MethodName := ⟨RX7, "digit", "(CC)I"⟩
abbrev cX7_age : ByteArray := prog_9_method_22_code
def yX7_age : MethodName := ⟨RX7, "age", "()I"⟩
abbrev cX7_readsFact : ByteArray := prog_9_method_23_code
def yX7_readsFact : MethodName := ⟨RX7, "readsFact", "(I)Z"⟩
abbrev cX7_readsPerson : ByteArray := prog_9_method_24_code
def yX7_readsPerson : MethodName := ⟨RX7, "readsPerson", "()Z"⟩
abbrev cX7_faultOf : ByteArray := prog_9_method_25_code
def yX7_faultOf : MethodName := ⟨RX7, "faultOf", "()I"⟩
abbrev cX7_addPersons : ByteArray := prog_9_method_26_code
def yX7_addPersons : MethodName := ⟨RX7, "addPersons", "()I"⟩
abbrev cX7_write : ByteArray := prog_9_method_27_code
def yX7_write : MethodName := ⟨RX7, "write", "(III)I"⟩
abbrev cX7_check : ByteArray := prog_9_method_28_code
def yX7_check : MethodName := ⟨RX7, "check", "(II)I"⟩
abbrev cX7_strike : ByteArray := prog_9_method_29_code
def yX7_strike : MethodName := ⟨RX7, "strike", "(II)I"⟩
abbrev cX7_due : ByteArray := prog_9_method_30_code
def yX7_due : MethodName := ⟨RX7, "due", "(I)I"⟩
abbrev cX7_mostUrgent : ByteArray := prog_9_method_31_code
def yX7_mostUrgent : MethodName := ⟨RX7, "mostUrgent", "()I"⟩
abbrev cX7_checkUrgent : ByteArray := prog_9_method_32_code
def yX7_checkUrgent : MethodName := ⟨RX7, "checkUrgent", "()I"⟩
abbrev cX7_trust : ByteArray := prog_9_method_33_code
def yX7_trust : MethodName := ⟨RX7, "trust", "(II)I"⟩
abbrev cX7_isSetting : ByteArray := prog_9_method_34_code
def yX7_isSetting : MethodName := ⟨RX7, "isSetting", "(II)Z"⟩
abbrev cX7_set : ByteArray := prog_9_method_35_code
def yX7_set : MethodName := ⟨RX7, "set", "(II)I"⟩
abbrev cX7_inState : ByteArray := prog_9_method_36_code
def yX7_inState : MethodName := ⟨RX7, "inState", "(I)I"⟩
abbrev cX7_tellDeath : ByteArray := prog_9_method_37_code
def yX7_tellDeath : MethodName := ⟨RX7, "tellDeath", "(II)I"⟩
abbrev cX7_decide : ByteArray := prog_9_method_38_code
def yX7_decide : MethodName := ⟨RX7, "decide", "(IZ)I"⟩
abbrev cX7_isAhead : ByteArray := prog_9_method_39_code
def yX7_isAhead : MethodName := ⟨RX7, "isAhead", "(II)Z"⟩
abbrev cX7_layPage : ByteArray := prog_9_method_40_code
def yX7_layPage : MethodName := ⟨RX7, "layPage", "()V"⟩
abbrev cX7_print : ByteArray := prog_9_method_41_code
def yX7_print : MethodName := ⟨RX7, "print", "()I"⟩
abbrev cX7_correct : ByteArray := prog_9_method_42_code
def yX7_correct : MethodName := ⟨RX7, "correct", "(III)I"⟩
abbrev cX7_type : ByteArray := prog_9_method_43_code
def yX7_type : MethodName := ⟨RX7, "type", "(C)I"⟩
abbrev cX7_clearText : ByteArray := prog_9_method_44_code
def yX7_clearText : MethodName := ⟨RX7, "clearText", "()I"⟩
abbrev cX7_undo : ByteArray := prog_9_method_45_code
def yX7_undo : MethodName := ⟨RX7, "undo", "()I"⟩
abbrev cX7_keep : ByteArray := prog_9_method_46_code
def yX7_keep : MethodName := ⟨RX7, "keep", "()I"⟩
abbrev cX7_restore : ByteArray := prog_9_method_47_code
def yX7_restore : MethodName := ⟨RX7, "restore", "()I"⟩
abbrev cX7_person : ByteArray := prog_9_method_48_code
def yX7_person : MethodName := ⟨RX7, "person", "(II)I"⟩
abbrev cX7_fact : ByteArray := prog_9_method_49_code
def yX7_fact : MethodName := ⟨RX7, "fact", "(III)I"⟩
abbrev cX7_worth : ByteArray := prog_9_method_50_code
def yX7_worth : MethodName := ⟨RX7, "worth", "(I)F"⟩
abbrev cX7_urgent : ByteArray := prog_9_method_51_code
def yX7_urgent : MethodName := ⟨RX7, "urgent", "(I)I"⟩
abbrev cX7_page : ByteArray := prog_9_method_52_code
def yX7_page : MethodName := ⟨RX7, "page", "(I)I"⟩
abbrev cX7_source : ByteArray := prog_9_method_53_code
def yX7_source : MethodName := ⟨RX7, "source", "(II)I"⟩
abbrev cX7_staleOn : ByteArray := prog_9_method_54_code
def yX7_staleOn : MethodName := ⟨RX7, "staleOn", "(I)I"⟩
abbrev cX7_staleIn : ByteArray := prog_9_method_55_code
def yX7_staleIn : MethodName := ⟨RX7, "staleIn", "(I)I"⟩
abbrev cX7_facts : ByteArray := prog_9_method_56_code
def yX7_facts : MethodName := ⟨RX7, "facts", "()I"⟩
abbrev cX7_freeLines : ByteArray := prog_9_method_57_code
def yX7_freeLines : MethodName := ⟨RX7, "freeLines", "()I"⟩
abbrev cX7_count : ByteArray := prog_9_method_58_code
def yX7_count : MethodName := ⟨RX7, "count", "(I)I"⟩
def RJxf58ca : String := "java/lang/Float"
def TJxf58ca : u_T := fun k => match k with
  | _ => ("", "", "", false)
def tyJxf58ca : Nat → FieldType := fun k => match k with
  | _ => .int
abbrev wsJxf58ca0 : List Cond := u_ws RJxf58ca TJxf58ca 0
theorem nmJxf58ca : ∀ a, a < 0 → ∀ b, b < 0 → a ≠ b → (TJxf58ca a).2.1 ≠ (TJxf58ca b).2.1 := by decide +kernel
theorem tyJxf58ca_ok : ∀ k, k < 0 → parseFieldDescriptor (TJxf58ca k).2.2.1 = some (tyJxf58ca k) := by decide +kernel
abbrev cJxf58ca_isNaN_12338 : ByteArray := prog_10_method_6_code
def yJxf58ca_isNaN_12338 : MethodName := ⟨RJxf58ca, "isNaN", "(F)Z"⟩
abbrev cJxf58ca_floatToIntBits_5c35a : ByteArray := prog_10_method_24_code
def yJxf58ca_floatToIntBits_5c35a : MethodName := ⟨RJxf58ca, "floatToIntBits", "(F)I"⟩
def RJ6 : String := "java/lang/Integer"
def TJ6 : u_T := fun k => match k with
  | _ => ("", "", "", false)
def tyJ6 : Nat → FieldType := fun k => match k with
  | _ => .int
abbrev wsJ60 : List Cond := u_ws RJ6 TJ6 0
theorem nmJ6 : ∀ a, a < 0 → ∀ b, b < 0 → a ≠ b → (TJ6 a).2.1 ≠ (TJ6 b).2.1 := by decide +kernel
theorem tyJ6_ok : ∀ k, k < 0 → parseFieldDescriptor (TJ6 k).2.2.1 = some (tyJ6 k) := by decide +kernel
abbrev cJ6_bitCount_0f7a4 : ByteArray := prog_11_method_49_code
def yJ6_bitCount_0f7a4 : MethodName := ⟨RJ6, "bitCount", "(I)I"⟩
def RJ9 : String := "java/lang/Math"
def TJ9 : u_T := fun k => match k with
  | _ => ("", "", "", false)
def tyJ9 : Nat → FieldType := fun k => match k with
  | _ => .int
abbrev wsJ90 : List Cond := u_ws RJ9 TJ9 0
theorem nmJ9 : ∀ a, a < 0 → ∀ b, b < 0 → a ≠ b → (TJ9 a).2.1 ≠ (TJ9 b).2.1 := by decide +kernel
theorem tyJ9_ok : ∀ k, k < 0 → parseFieldDescriptor (TJ9 k).2.2.1 = some (tyJ9 k) := by decide +kernel
abbrev cJ9_min_7cf53 : ByteArray := prog_12_method_69_code
def yJ9_min_7cf53 : MethodName := ⟨RJ9, "min", "(II)I"⟩
def RJ10 : String := "java/lang/System"
def TJ10 : u_T := fun k => match k with
  | _ => ("", "", "", false)
def tyJ10 : Nat → FieldType := fun k => match k with
  | _ => .int
abbrev wsJ100 : List Cond := u_ws RJ10 TJ10 0
theorem nmJ10 : ∀ a, a < 0 → ∀ b, b < 0 → a ≠ b → (TJ10 a).2.1 ≠ (TJ10 b).2.1 := by decide +kernel
theorem tyJ10_ok : ∀ k, k < 0 → parseFieldDescriptor (TJ10 k).2.2.1 = some (tyJ10 k) := by decide +kernel
def RL : String := "LivesAheadLaw"
abbrev cL_law : ByteArray := code
def yL_law : MethodName := ⟨RL, "law", "([I)Z"⟩
abbrev vwCl : List vw_C := [(RX0, TX0, 7), (RX1, TX1, 3), (RX2, TX2, 10), (RX3, TX3, 4), (RX4, TX4, 5), (RX5, TX5, 3), (RX6, TX6, 7), (RX7, TX7, 14)]
end
section
/-- the tables' words that pass to callees -/
def lw_g : List Cond := lw_tbl.filter goodWord
theorem lw_gm {w : Cond} {i : Nat} (h : lw_tbl[i]? = some w) (g : goodWord w = true) : w ∈ lw_g := List.mem_filter.mpr ⟨List.mem_of_getElem? h, g⟩
theorem q35 : (.initialized "LivesAheadLaw" : Cond) ∈ lw_g := lw_gm (i := 35) (by decide +kernel) (by decide +kernel)
theorem q36 : (.initialized "LivesAhead" : Cond) ∈ lw_g := lw_gm (i := 36) (by decide +kernel) (by decide +kernel)
theorem q37 : (.initialized "LivesAhead$Desk" : Cond) ∈ lw_g := lw_gm (i := 37) (by decide +kernel) (by decide +kernel)
theorem q38 : (.initialized "LivesAhead$Life" : Cond) ∈ lw_g := lw_gm (i := 38) (by decide +kernel) (by decide +kernel)
theorem q39 : (.initialized "LivesAhead$History" : Cond) ∈ lw_g := lw_gm (i := 39) (by decide +kernel) (by decide +kernel)
theorem q40 : (.initialized "LivesAhead$PersonsText" : Cond) ∈ lw_g := lw_gm (i := 40) (by decide +kernel) (by decide +kernel)
theorem q41 : (.initialized "LivesAhead$Ranking" : Cond) ∈ lw_g := lw_gm (i := 41) (by decide +kernel) (by decide +kernel)
theorem q42 : (.initialized "LivesAhead$Page" : Cond) ∈ lw_g := lw_gm (i := 42) (by decide +kernel) (by decide +kernel)
theorem q43 : (.initialized "LivesAheadModel" : Cond) ∈ lw_g := lw_gm (i := 43) (by decide +kernel) (by decide +kernel)
theorem q44 : (.initialized "java/lang/System" : Cond) ∈ lw_g := lw_gm (i := 44) (by decide +kernel) (by decide +kernel)
theorem q45 : (.initialized "java/lang/Math" : Cond) ∈ lw_g := lw_gm (i := 45) (by decide +kernel) (by decide +kernel)
theorem q46 : (.initialized "java/lang/Integer" : Cond) ∈ lw_g := lw_gm (i := 46) (by decide +kernel) (by decide +kernel)
theorem q47 : (.initialized "java/lang/Float" : Cond) ∈ lw_g := lw_gm (i := 47) (by decide +kernel) (by decide +kernel)
theorem q48 : (.classLink "LivesAheadLaw" (7 : Nat) "LivesAhead" : Cond) ∈ lw_g := lw_gm (i := 48) (by decide +kernel) (by decide +kernel)
theorem q49 : (.instantiable "LivesAhead" (7 : Nat) : Cond) ∈ lw_g := lw_gm (i := 49) (by decide +kernel) (by decide +kernel)
theorem q50 : (.methodLink "LivesAheadLaw" (9 : Nat) ({ cls := "LivesAhead", name := "<init>", desc := "()V" } : Jvm.MethodName) : Cond) ∈ lw_g := lw_gm (i := 50) (by decide +kernel) (by decide +kernel)
theorem q51 : (.instanceMethod ({ cls := "LivesAhead", name := "<init>", desc := "()V" } : Jvm.MethodName) : Cond) ∈ lw_g := lw_gm (i := 51) (by decide +kernel) (by decide +kernel)
theorem q52 : (.code ({ cls := "LivesAhead", name := "<init>", desc := "()V" } : Jvm.MethodName) prog_1_method_1_code (1 : Nat) (Option.none : Option Jvm.ClassFile.FieldType) : Cond) ∈ lw_g := lw_gm (i := 52) (by decide +kernel) (by decide +kernel)
theorem q53 : (.methodLink "LivesAhead" (1 : Nat) ({ cls := "java/lang/Object", name := "<init>", desc := "()V" } : Jvm.MethodName) : Cond) ∈ lw_g := lw_gm (i := 53) (by decide +kernel) (by decide +kernel)
theorem q54 : (.instanceMethod ({ cls := "java/lang/Object", name := "<init>", desc := "()V" } : Jvm.MethodName) : Cond) ∈ lw_g := lw_gm (i := 54) (by decide +kernel) (by decide +kernel)
theorem q55 : (.code ({ cls := "java/lang/Object", name := "<init>", desc := "()V" } : Jvm.MethodName) object_method_1_code (1 : Nat) (Option.none : Option Jvm.ClassFile.FieldType) : Cond) ∈ lw_g := lw_gm (i := 55) (by decide +kernel) (by decide +kernel)
theorem q56 : (.classLink "LivesAhead" (7 : Nat) "LivesAhead$Desk" : Cond) ∈ lw_g := lw_gm (i := 56) (by decide +kernel) (by decide +kernel)
theorem q57 : (.instantiable "LivesAhead$Desk" (7 : Nat) : Cond) ∈ lw_g := lw_gm (i := 57) (by decide +kernel) (by decide +kernel)
theorem q58 : (.methodLink "LivesAhead" (9 : Nat) ({ cls := "LivesAhead$Desk", name := "<init>", desc := "()V" } : Jvm.MethodName) : Cond) ∈ lw_g := lw_gm (i := 58) (by decide +kernel) (by decide +kernel)
theorem q59 : (.instanceMethod ({ cls := "LivesAhead$Desk", name := "<init>", desc := "()V" } : Jvm.MethodName) : Cond) ∈ lw_g := lw_gm (i := 59) (by decide +kernel) (by decide +kernel)
theorem q60 : (.code ({ cls := "LivesAhead$Desk", name := "<init>", desc := "()V" } : Jvm.MethodName) prog_2_method_1_code (2 : Nat) (Option.none : Option Jvm.ClassFile.FieldType) : Cond) ∈ lw_g := lw_gm (i := 60) (by decide +kernel) (by decide +kernel)
theorem q61 : (.methodLink "LivesAhead$Desk" (3 : Nat) ({ cls := "java/lang/Object", name := "<init>", desc := "()V" } : Jvm.MethodName) : Cond) ∈ lw_g := lw_gm (i := 61) (by decide +kernel) (by decide +kernel)
theorem q62 : (.classLink "LivesAhead$Desk" (18 : Nat) "LivesAhead$Life" : Cond) ∈ lw_g := lw_gm (i := 62) (by decide +kernel) (by decide +kernel)
theorem q64 : (.instantiable "LivesAhead$Life" (10 : Nat) : Cond) ∈ lw_g := lw_gm (i := 64) (by decide +kernel) (by decide +kernel)
theorem q66 : (.instanceMethod ({ cls := "LivesAhead$Life", name := "<init>", desc := "()V" } : Jvm.MethodName) : Cond) ∈ lw_g := lw_gm (i := 66) (by decide +kernel) (by decide +kernel)
theorem q67 : (.code ({ cls := "LivesAhead$Life", name := "<init>", desc := "()V" } : Jvm.MethodName) prog_4_method_1_code (1 : Nat) (Option.none : Option Jvm.ClassFile.FieldType) : Cond) ∈ lw_g := lw_gm (i := 67) (by decide +kernel) (by decide +kernel)
theorem q68 : (.methodLink "LivesAhead$Life" (3 : Nat) ({ cls := "java/lang/Object", name := "<init>", desc := "()V" } : Jvm.MethodName) : Cond) ∈ lw_g := lw_gm (i := 68) (by decide +kernel) (by decide +kernel)
theorem q69 : (.fieldLink "LivesAhead$Life" (31 : Nat) "LivesAhead$Life" "age" "I" : Cond) ∈ lw_g := lw_gm (i := 69) (by decide +kernel) (by decide +kernel)
theorem q70 : (.fieldLink "LivesAhead$Life" (34 : Nat) "LivesAhead$Life" "rank" "I" : Cond) ∈ lw_g := lw_gm (i := 70) (by decide +kernel) (by decide +kernel)
theorem q71 : (.fieldLink "LivesAhead$Life" (43 : Nat) "LivesAhead$Life" "state" "I" : Cond) ∈ lw_g := lw_gm (i := 71) (by decide +kernel) (by decide +kernel)
theorem q72 : (.fieldLink "LivesAhead$Life" (9 : Nat) "LivesAhead$Life" "teller" "I" : Cond) ∈ lw_g := lw_gm (i := 72) (by decide +kernel) (by decide +kernel)
theorem q73 : (.fieldLink "LivesAhead$Life" (15 : Nat) "LivesAhead$Life" "deathDay" "I" : Cond) ∈ lw_g := lw_gm (i := 73) (by decide +kernel) (by decide +kernel)
theorem q74 : (.fieldLink "LivesAhead$Life" (18 : Nat) "LivesAhead$Life" "printDay" "I" : Cond) ∈ lw_g := lw_gm (i := 74) (by decide +kernel) (by decide +kernel)
theorem q75 : (.fieldLink "LivesAhead$Life" (37 : Nat) "LivesAhead$Life" "size" "I" : Cond) ∈ lw_g := lw_gm (i := 75) (by decide +kernel) (by decide +kernel)
theorem q76 : (.fieldLink "LivesAhead$Life" (21 : Nat) "LivesAhead$Life" "sources" "[I" : Cond) ∈ lw_g := lw_gm (i := 76) (by decide +kernel) (by decide +kernel)
theorem q77 : (.fieldLink "LivesAhead$Life" (25 : Nat) "LivesAhead$Life" "lines" "[I" : Cond) ∈ lw_g := lw_gm (i := 77) (by decide +kernel) (by decide +kernel)
theorem q78 : (.fieldLink "LivesAhead$Life" (28 : Nat) "LivesAhead$Life" "days" "[I" : Cond) ∈ lw_g := lw_gm (i := 78) (by decide +kernel) (by decide +kernel)
theorem q79 : (.lays "LivesAhead$Life" "LivesAhead$Life" "age" "I" : Cond) ∈ lw_g := lw_gm (i := 79) (by decide +kernel) (by decide +kernel)
theorem q81 : (.lays "LivesAhead$Life" "LivesAhead$Life" "rank" "I" : Cond) ∈ lw_g := lw_gm (i := 81) (by decide +kernel) (by decide +kernel)
theorem q83 : (.lays "LivesAhead$Life" "LivesAhead$Life" "state" "I" : Cond) ∈ lw_g := lw_gm (i := 83) (by decide +kernel) (by decide +kernel)
theorem q85 : (.lays "LivesAhead$Life" "LivesAhead$Life" "teller" "I" : Cond) ∈ lw_g := lw_gm (i := 85) (by decide +kernel) (by decide +kernel)
theorem q87 : (.lays "LivesAhead$Life" "LivesAhead$Life" "deathDay" "I" : Cond) ∈ lw_g := lw_gm (i := 87) (by decide +kernel) (by decide +kernel)
theorem q89 : (.lays "LivesAhead$Life" "LivesAhead$Life" "printDay" "I" : Cond) ∈ lw_g := lw_gm (i := 89) (by decide +kernel) (by decide +kernel)
theorem q91 : (.lays "LivesAhead$Life" "LivesAhead$Life" "size" "I" : Cond) ∈ lw_g := lw_gm (i := 91) (by decide +kernel) (by decide +kernel)
theorem q93 : (.laysFinal "LivesAhead$Life" "LivesAhead$Life" "sources" "[I" : Cond) ∈ lw_g := lw_gm (i := 93) (by decide +kernel) (by decide +kernel)
theorem q95 : (.laysFinal "LivesAhead$Life" "LivesAhead$Life" "lines" "[I" : Cond) ∈ lw_g := lw_gm (i := 95) (by decide +kernel) (by decide +kernel)
theorem q97 : (.laysFinal "LivesAhead$Life" "LivesAhead$Life" "days" "[I" : Cond) ∈ lw_g := lw_gm (i := 97) (by decide +kernel) (by decide +kernel)
theorem q100 : (.arrayClass .int : Cond) ∈ lw_g := lw_gm (i := 100) (by decide +kernel) (by decide +kernel)
theorem q101 : (.fieldLink "LivesAhead$Desk" (9 : Nat) "LivesAhead$Desk" "settings" "[I" : Cond) ∈ lw_g := lw_gm (i := 101) (by decide +kernel) (by decide +kernel)
theorem q102 : (.fieldLink "LivesAhead$Desk" (15 : Nat) "LivesAhead$Desk" "trusts" "[I" : Cond) ∈ lw_g := lw_gm (i := 102) (by decide +kernel) (by decide +kernel)
theorem q103 : (.fieldLink "LivesAhead$Desk" (20 : Nat) "LivesAhead$Desk" "lives" "[LLivesAhead$Life;" : Cond) ∈ lw_g := lw_gm (i := 103) (by decide +kernel) (by decide +kernel)
theorem q104 : (.fieldLink "LivesAhead$Desk" (35 : Nat) "LivesAhead$Desk" "persons" "I" : Cond) ∈ lw_g := lw_gm (i := 104) (by decide +kernel) (by decide +kernel)
theorem q105 : (.fieldLink "LivesAhead$Desk" (38 : Nat) "LivesAhead$Desk" "day" "I" : Cond) ∈ lw_g := lw_gm (i := 105) (by decide +kernel) (by decide +kernel)
theorem q106 : (.fieldLink "LivesAhead$Desk" (25 : Nat) "LivesAhead$Desk" "hoursLeft" "I" : Cond) ∈ lw_g := lw_gm (i := 106) (by decide +kernel) (by decide +kernel)
theorem q107 : (.fieldLink "LivesAhead$Desk" (41 : Nat) "LivesAhead$Desk" "corrections" "I" : Cond) ∈ lw_g := lw_gm (i := 107) (by decide +kernel) (by decide +kernel)
theorem q108 : (.laysFinal "LivesAhead$Desk" "LivesAhead$Desk" "settings" "[I" : Cond) ∈ lw_g := lw_gm (i := 108) (by decide +kernel) (by decide +kernel)
theorem q110 : (.laysFinal "LivesAhead$Desk" "LivesAhead$Desk" "trusts" "[I" : Cond) ∈ lw_g := lw_gm (i := 110) (by decide +kernel) (by decide +kernel)
theorem q112 : (.laysFinal "LivesAhead$Desk" "LivesAhead$Desk" "lives" "[LLivesAhead$Life;" : Cond) ∈ lw_g := lw_gm (i := 112) (by decide +kernel) (by decide +kernel)
theorem q114 : (.lays "LivesAhead$Desk" "LivesAhead$Desk" "persons" "I" : Cond) ∈ lw_g := lw_gm (i := 114) (by decide +kernel) (by decide +kernel)
theorem q116 : (.lays "LivesAhead$Desk" "LivesAhead$Desk" "day" "I" : Cond) ∈ lw_g := lw_gm (i := 116) (by decide +kernel) (by decide +kernel)
theorem q118 : (.lays "LivesAhead$Desk" "LivesAhead$Desk" "hoursLeft" "I" : Cond) ∈ lw_g := lw_gm (i := 118) (by decide +kernel) (by decide +kernel)
theorem q120 : (.lays "LivesAhead$Desk" "LivesAhead$Desk" "corrections" "I" : Cond) ∈ lw_g := lw_gm (i := 120) (by decide +kernel) (by decide +kernel)
theorem q123 : (.classLink "LivesAhead" (19 : Nat) "LivesAhead$History" : Cond) ∈ lw_g := lw_gm (i := 123) (by decide +kernel) (by decide +kernel)
theorem q124 : (.instantiable "LivesAhead$History" (3 : Nat) : Cond) ∈ lw_g := lw_gm (i := 124) (by decide +kernel) (by decide +kernel)
theorem q125 : (.methodLink "LivesAhead" (21 : Nat) ({ cls := "LivesAhead$History", name := "<init>", desc := "()V" } : Jvm.MethodName) : Cond) ∈ lw_g := lw_gm (i := 125) (by decide +kernel) (by decide +kernel)
theorem q126 : (.instanceMethod ({ cls := "LivesAhead$History", name := "<init>", desc := "()V" } : Jvm.MethodName) : Cond) ∈ lw_g := lw_gm (i := 126) (by decide +kernel) (by decide +kernel)
theorem q127 : (.code ({ cls := "LivesAhead$History", name := "<init>", desc := "()V" } : Jvm.MethodName) prog_3_method_1_code (2 : Nat) (Option.none : Option Jvm.ClassFile.FieldType) : Cond) ∈ lw_g := lw_gm (i := 127) (by decide +kernel) (by decide +kernel)
theorem q128 : (.methodLink "LivesAhead$History" (3 : Nat) ({ cls := "java/lang/Object", name := "<init>", desc := "()V" } : Jvm.MethodName) : Cond) ∈ lw_g := lw_gm (i := 128) (by decide +kernel) (by decide +kernel)
theorem q129 : (.classLink "LivesAhead$History" (9 : Nat) "LivesAhead$Desk" : Cond) ∈ lw_g := lw_gm (i := 129) (by decide +kernel) (by decide +kernel)
theorem q131 : (.methodLink "LivesAhead$History" (17 : Nat) ({ cls := "LivesAhead$Desk", name := "<init>", desc := "()V" } : Jvm.MethodName) : Cond) ∈ lw_g := lw_gm (i := 131) (by decide +kernel) (by decide +kernel)
theorem q132 : (.fieldLink "LivesAhead$History" (11 : Nat) "LivesAhead$History" "states" "[LLivesAhead$Desk;" : Cond) ∈ lw_g := lw_gm (i := 132) (by decide +kernel) (by decide +kernel)
theorem q133 : (.fieldLink "LivesAhead$History" (22 : Nat) "LivesAhead$History" "first" "I" : Cond) ∈ lw_g := lw_gm (i := 133) (by decide +kernel) (by decide +kernel)
theorem q134 : (.fieldLink "LivesAhead$History" (18 : Nat) "LivesAhead$History" "size" "I" : Cond) ∈ lw_g := lw_gm (i := 134) (by decide +kernel) (by decide +kernel)
theorem q135 : (.laysFinal "LivesAhead$History" "LivesAhead$History" "states" "[LLivesAhead$Desk;" : Cond) ∈ lw_g := lw_gm (i := 135) (by decide +kernel) (by decide +kernel)
theorem q137 : (.lays "LivesAhead$History" "LivesAhead$History" "first" "I" : Cond) ∈ lw_g := lw_gm (i := 137) (by decide +kernel) (by decide +kernel)
theorem q139 : (.lays "LivesAhead$History" "LivesAhead$History" "size" "I" : Cond) ∈ lw_g := lw_gm (i := 139) (by decide +kernel) (by decide +kernel)
theorem q142 : (.classLink "LivesAhead" (26 : Nat) "LivesAhead$PersonsText" : Cond) ∈ lw_g := lw_gm (i := 142) (by decide +kernel) (by decide +kernel)
theorem q143 : (.instantiable "LivesAhead$PersonsText" (5 : Nat) : Cond) ∈ lw_g := lw_gm (i := 143) (by decide +kernel) (by decide +kernel)
theorem q144 : (.methodLink "LivesAhead" (28 : Nat) ({ cls := "LivesAhead$PersonsText", name := "<init>", desc := "()V" } : Jvm.MethodName) : Cond) ∈ lw_g := lw_gm (i := 144) (by decide +kernel) (by decide +kernel)
theorem q145 : (.instanceMethod ({ cls := "LivesAhead$PersonsText", name := "<init>", desc := "()V" } : Jvm.MethodName) : Cond) ∈ lw_g := lw_gm (i := 145) (by decide +kernel) (by decide +kernel)
theorem q146 : (.code ({ cls := "LivesAhead$PersonsText", name := "<init>", desc := "()V" } : Jvm.MethodName) prog_6_method_1_code (2 : Nat) (Option.none : Option Jvm.ClassFile.FieldType) : Cond) ∈ lw_g := lw_gm (i := 146) (by decide +kernel) (by decide +kernel)
theorem q147 : (.methodLink "LivesAhead$PersonsText" (3 : Nat) ({ cls := "java/lang/Object", name := "<init>", desc := "()V" } : Jvm.MethodName) : Cond) ∈ lw_g := lw_gm (i := 147) (by decide +kernel) (by decide +kernel)
theorem q148 : (.classLink "LivesAhead$PersonsText" (15 : Nat) "LivesAhead$Life" : Cond) ∈ lw_g := lw_gm (i := 148) (by decide +kernel) (by decide +kernel)
theorem q150 : (.fieldLink "LivesAhead$PersonsText" (9 : Nat) "LivesAhead$PersonsText" "characters" "[C" : Cond) ∈ lw_g := lw_gm (i := 150) (by decide +kernel) (by decide +kernel)
theorem q151 : (.fieldLink "LivesAhead$PersonsText" (22 : Nat) "LivesAhead$PersonsText" "length" "I" : Cond) ∈ lw_g := lw_gm (i := 151) (by decide +kernel) (by decide +kernel)
theorem q152 : (.fieldLink "LivesAhead$PersonsText" (17 : Nat) "LivesAhead$PersonsText" "read" "[LLivesAhead$Life;" : Cond) ∈ lw_g := lw_gm (i := 152) (by decide +kernel) (by decide +kernel)
theorem q153 : (.fieldLink "LivesAhead$PersonsText" (29 : Nat) "LivesAhead$PersonsText" "personsRead" "I" : Cond) ∈ lw_g := lw_gm (i := 153) (by decide +kernel) (by decide +kernel)
theorem q154 : (.fieldLink "LivesAhead$PersonsText" (26 : Nat) "LivesAhead$PersonsText" "at" "I" : Cond) ∈ lw_g := lw_gm (i := 154) (by decide +kernel) (by decide +kernel)
theorem q155 : (.laysFinal "LivesAhead$PersonsText" "LivesAhead$PersonsText" "characters" "[C" : Cond) ∈ lw_g := lw_gm (i := 155) (by decide +kernel) (by decide +kernel)
theorem q157 : (.lays "LivesAhead$PersonsText" "LivesAhead$PersonsText" "length" "I" : Cond) ∈ lw_g := lw_gm (i := 157) (by decide +kernel) (by decide +kernel)
theorem q159 : (.laysFinal "LivesAhead$PersonsText" "LivesAhead$PersonsText" "read" "[LLivesAhead$Life;" : Cond) ∈ lw_g := lw_gm (i := 159) (by decide +kernel) (by decide +kernel)
theorem q161 : (.lays "LivesAhead$PersonsText" "LivesAhead$PersonsText" "personsRead" "I" : Cond) ∈ lw_g := lw_gm (i := 161) (by decide +kernel) (by decide +kernel)
theorem q163 : (.lays "LivesAhead$PersonsText" "LivesAhead$PersonsText" "at" "I" : Cond) ∈ lw_g := lw_gm (i := 163) (by decide +kernel) (by decide +kernel)
theorem q166 : (.arrayClass .char : Cond) ∈ lw_g := lw_gm (i := 166) (by decide +kernel) (by decide +kernel)
theorem q167 : (.classLink "LivesAhead" (33 : Nat) "LivesAhead$Ranking" : Cond) ∈ lw_g := lw_gm (i := 167) (by decide +kernel) (by decide +kernel)
theorem q168 : (.instantiable "LivesAhead$Ranking" (3 : Nat) : Cond) ∈ lw_g := lw_gm (i := 168) (by decide +kernel) (by decide +kernel)
theorem q170 : (.instanceMethod ({ cls := "LivesAhead$Ranking", name := "<init>", desc := "()V" } : Jvm.MethodName) : Cond) ∈ lw_g := lw_gm (i := 170) (by decide +kernel) (by decide +kernel)
theorem q171 : (.code ({ cls := "LivesAhead$Ranking", name := "<init>", desc := "()V" } : Jvm.MethodName) prog_7_method_1_code (1 : Nat) (Option.none : Option Jvm.ClassFile.FieldType) : Cond) ∈ lw_g := lw_gm (i := 171) (by decide +kernel) (by decide +kernel)
theorem q172 : (.methodLink "LivesAhead$Ranking" (3 : Nat) ({ cls := "java/lang/Object", name := "<init>", desc := "()V" } : Jvm.MethodName) : Cond) ∈ lw_g := lw_gm (i := 172) (by decide +kernel) (by decide +kernel)
theorem q173 : (.fieldLink "LivesAhead$Ranking" (9 : Nat) "LivesAhead$Ranking" "persons" "[I" : Cond) ∈ lw_g := lw_gm (i := 173) (by decide +kernel) (by decide +kernel)
theorem q174 : (.fieldLink "LivesAhead$Ranking" (15 : Nat) "LivesAhead$Ranking" "keys" "[I" : Cond) ∈ lw_g := lw_gm (i := 174) (by decide +kernel) (by decide +kernel)
theorem q175 : (.fieldLink "LivesAhead$Ranking" (18 : Nat) "LivesAhead$Ranking" "size" "I" : Cond) ∈ lw_g := lw_gm (i := 175) (by decide +kernel) (by decide +kernel)
theorem q176 : (.laysFinal "LivesAhead$Ranking" "LivesAhead$Ranking" "persons" "[I" : Cond) ∈ lw_g := lw_gm (i := 176) (by decide +kernel) (by decide +kernel)
theorem q178 : (.laysFinal "LivesAhead$Ranking" "LivesAhead$Ranking" "keys" "[I" : Cond) ∈ lw_g := lw_gm (i := 178) (by decide +kernel) (by decide +kernel)
theorem q180 : (.lays "LivesAhead$Ranking" "LivesAhead$Ranking" "size" "I" : Cond) ∈ lw_g := lw_gm (i := 180) (by decide +kernel) (by decide +kernel)
theorem q183 : (.classLink "LivesAhead" (40 : Nat) "LivesAhead$Page" : Cond) ∈ lw_g := lw_gm (i := 183) (by decide +kernel) (by decide +kernel)
theorem q184 : (.instantiable "LivesAhead$Page" (4 : Nat) : Cond) ∈ lw_g := lw_gm (i := 184) (by decide +kernel) (by decide +kernel)
theorem q186 : (.instanceMethod ({ cls := "LivesAhead$Page", name := "<init>", desc := "()V" } : Jvm.MethodName) : Cond) ∈ lw_g := lw_gm (i := 186) (by decide +kernel) (by decide +kernel)
theorem q187 : (.code ({ cls := "LivesAhead$Page", name := "<init>", desc := "()V" } : Jvm.MethodName) prog_5_method_1_code (1 : Nat) (Option.none : Option Jvm.ClassFile.FieldType) : Cond) ∈ lw_g := lw_gm (i := 187) (by decide +kernel) (by decide +kernel)
theorem q188 : (.methodLink "LivesAhead$Page" (3 : Nat) ({ cls := "java/lang/Object", name := "<init>", desc := "()V" } : Jvm.MethodName) : Cond) ∈ lw_g := lw_gm (i := 188) (by decide +kernel) (by decide +kernel)
theorem q189 : (.classLink "LivesAhead$Page" (9 : Nat) "LivesAhead$Ranking" : Cond) ∈ lw_g := lw_gm (i := 189) (by decide +kernel) (by decide +kernel)
theorem q191 : (.fieldLink "LivesAhead$Page" (12 : Nat) "LivesAhead$Page" "queue" "LLivesAhead$Ranking;" : Cond) ∈ lw_g := lw_gm (i := 191) (by decide +kernel) (by decide +kernel)
theorem q192 : (.fieldLink "LivesAhead$Page" (18 : Nat) "LivesAhead$Page" "persons" "[I" : Cond) ∈ lw_g := lw_gm (i := 192) (by decide +kernel) (by decide +kernel)
theorem q193 : (.fieldLink "LivesAhead$Page" (26 : Nat) "LivesAhead$Page" "size" "I" : Cond) ∈ lw_g := lw_gm (i := 193) (by decide +kernel) (by decide +kernel)
theorem q194 : (.fieldLink "LivesAhead$Page" (36 : Nat) "LivesAhead$Page" "linesFree" "I" : Cond) ∈ lw_g := lw_gm (i := 194) (by decide +kernel) (by decide +kernel)
theorem q195 : (.laysFinal "LivesAhead$Page" "LivesAhead$Page" "queue" "LLivesAhead$Ranking;" : Cond) ∈ lw_g := lw_gm (i := 195) (by decide +kernel) (by decide +kernel)
theorem q197 : (.laysFinal "LivesAhead$Page" "LivesAhead$Page" "persons" "[I" : Cond) ∈ lw_g := lw_gm (i := 197) (by decide +kernel) (by decide +kernel)
theorem q199 : (.lays "LivesAhead$Page" "LivesAhead$Page" "size" "I" : Cond) ∈ lw_g := lw_gm (i := 199) (by decide +kernel) (by decide +kernel)
theorem q201 : (.lays "LivesAhead$Page" "LivesAhead$Page" "linesFree" "I" : Cond) ∈ lw_g := lw_gm (i := 201) (by decide +kernel) (by decide +kernel)
theorem q204 : (.fieldLink "LivesAhead" (10 : Nat) "LivesAhead" "desk" "LLivesAhead$Desk;" : Cond) ∈ lw_g := lw_gm (i := 204) (by decide +kernel) (by decide +kernel)
theorem q205 : (.fieldLink "LivesAhead" (16 : Nat) "LivesAhead" "snapshot" "LLivesAhead$Desk;" : Cond) ∈ lw_g := lw_gm (i := 205) (by decide +kernel) (by decide +kernel)
theorem q206 : (.fieldLink "LivesAhead" (211 : Nat) "LivesAhead" "hasSnapshot" "Z" : Cond) ∈ lw_g := lw_gm (i := 206) (by decide +kernel) (by decide +kernel)
theorem q207 : (.fieldLink "LivesAhead" (22 : Nat) "LivesAhead" "history" "LLivesAhead$History;" : Cond) ∈ lw_g := lw_gm (i := 207) (by decide +kernel) (by decide +kernel)
theorem q208 : (.fieldLink "LivesAhead" (29 : Nat) "LivesAhead" "text" "LLivesAhead$PersonsText;" : Cond) ∈ lw_g := lw_gm (i := 208) (by decide +kernel) (by decide +kernel)
theorem q209 : (.fieldLink "LivesAhead" (36 : Nat) "LivesAhead" "urgencies" "LLivesAhead$Ranking;" : Cond) ∈ lw_g := lw_gm (i := 209) (by decide +kernel) (by decide +kernel)
theorem q210 : (.fieldLink "LivesAhead" (43 : Nat) "LivesAhead" "nextPage" "LLivesAhead$Page;" : Cond) ∈ lw_g := lw_gm (i := 210) (by decide +kernel) (by decide +kernel)
theorem q211 : (.laysFinal "LivesAhead" "LivesAhead" "desk" "LLivesAhead$Desk;" : Cond) ∈ lw_g := lw_gm (i := 211) (by decide +kernel) (by decide +kernel)
theorem q213 : (.laysFinal "LivesAhead" "LivesAhead" "snapshot" "LLivesAhead$Desk;" : Cond) ∈ lw_g := lw_gm (i := 213) (by decide +kernel) (by decide +kernel)
theorem q215 : (.lays "LivesAhead" "LivesAhead" "hasSnapshot" "Z" : Cond) ∈ lw_g := lw_gm (i := 215) (by decide +kernel) (by decide +kernel)
theorem q217 : (.laysFinal "LivesAhead" "LivesAhead" "history" "LLivesAhead$History;" : Cond) ∈ lw_g := lw_gm (i := 217) (by decide +kernel) (by decide +kernel)
theorem q219 : (.laysFinal "LivesAhead" "LivesAhead" "text" "LLivesAhead$PersonsText;" : Cond) ∈ lw_g := lw_gm (i := 219) (by decide +kernel) (by decide +kernel)
theorem q221 : (.laysFinal "LivesAhead" "LivesAhead" "urgencies" "LLivesAhead$Ranking;" : Cond) ∈ lw_g := lw_gm (i := 221) (by decide +kernel) (by decide +kernel)
theorem q223 : (.laysFinal "LivesAhead" "LivesAhead" "nextPage" "LLivesAhead$Page;" : Cond) ∈ lw_g := lw_gm (i := 223) (by decide +kernel) (by decide +kernel)
theorem q226 : (.methodLink "LivesAheadLaw" (13 : Nat) ({ cls := "LivesAhead", name := "addPerson", desc := "(II)I" } : Jvm.MethodName) : Cond) ∈ lw_g := lw_gm (i := 226) (by decide +kernel) (by decide +kernel)
theorem q227 : (.instanceMethod ({ cls := "LivesAhead", name := "addPerson", desc := "(II)I" } : Jvm.MethodName) : Cond) ∈ lw_g := lw_gm (i := 227) (by decide +kernel) (by decide +kernel)
theorem q228 : (.selects "LivesAhead" ({ cls := "LivesAhead", name := "addPerson", desc := "(II)I" } : Jvm.MethodName) ({ cls := "LivesAhead", name := "addPerson", desc := "(II)I" } : Jvm.MethodName) : Cond) ∈ lw_g := lw_gm (i := 228) (by decide +kernel) (by decide +kernel)
theorem q229 : (.code ({ cls := "LivesAhead", name := "addPerson", desc := "(II)I" } : Jvm.MethodName) prog_1_method_2_code (3 : Nat) (Option.some .int) : Cond) ∈ lw_g := lw_gm (i := 229) (by decide +kernel) (by decide +kernel)
theorem q230 : (.methodLink "LivesAhead" (47 : Nat) ({ cls := "LivesAhead", name := "isWithin", desc := "(III)Z" } : Jvm.MethodName) : Cond) ∈ lw_g := lw_gm (i := 230) (by decide +kernel) (by decide +kernel)
theorem q231 : (.static ({ cls := "LivesAhead", name := "isWithin", desc := "(III)Z" } : Jvm.MethodName) : Cond) ∈ lw_g := lw_gm (i := 231) (by decide +kernel) (by decide +kernel)
theorem q232 : (.code ({ cls := "LivesAhead", name := "isWithin", desc := "(III)Z" } : Jvm.MethodName) prog_1_method_27_code (3 : Nat) (Option.some .boolean) : Cond) ∈ lw_g := lw_gm (i := 232) (by decide +kernel) (by decide +kernel)
theorem q233 : (.methodLink "LivesAhead" (51 : Nat) ({ cls := "LivesAhead$Desk", name := "roomForPersons", desc := "()I" } : Jvm.MethodName) : Cond) ∈ lw_g := lw_gm (i := 233) (by decide +kernel) (by decide +kernel)
theorem q234 : (.instanceMethod ({ cls := "LivesAhead$Desk", name := "roomForPersons", desc := "()I" } : Jvm.MethodName) : Cond) ∈ lw_g := lw_gm (i := 234) (by decide +kernel) (by decide +kernel)
theorem q235 : (.selects "LivesAhead$Desk" ({ cls := "LivesAhead$Desk", name := "roomForPersons", desc := "()I" } : Jvm.MethodName) ({ cls := "LivesAhead$Desk", name := "roomForPersons", desc := "()I" } : Jvm.MethodName) : Cond) ∈ lw_g := lw_gm (i := 235) (by decide +kernel) (by decide +kernel)
theorem q236 : (.code ({ cls := "LivesAhead$Desk", name := "roomForPersons", desc := "()I" } : Jvm.MethodName) prog_2_method_7_code (1 : Nat) (Option.some .int) : Cond) ∈ lw_g := lw_gm (i := 236) (by decide +kernel) (by decide +kernel)
theorem q237 : (.methodLink "LivesAhead" (55 : Nat) ({ cls := "LivesAhead$History", name := "remember", desc := "(LLivesAhead$Desk;)V" } : Jvm.MethodName) : Cond) ∈ lw_g := lw_gm (i := 237) (by decide +kernel) (by decide +kernel)
theorem q238 : (.instanceMethod ({ cls := "LivesAhead$History", name := "remember", desc := "(LLivesAhead$Desk;)V" } : Jvm.MethodName) : Cond) ∈ lw_g := lw_gm (i := 238) (by decide +kernel) (by decide +kernel)
theorem q239 : (.selects "LivesAhead$History" ({ cls := "LivesAhead$History", name := "remember", desc := "(LLivesAhead$Desk;)V" } : Jvm.MethodName) ({ cls := "LivesAhead$History", name := "remember", desc := "(LLivesAhead$Desk;)V" } : Jvm.MethodName) : Cond) ∈ lw_g := lw_gm (i := 239) (by decide +kernel) (by decide +kernel)
theorem q240 : (.code ({ cls := "LivesAhead$History", name := "remember", desc := "(LLivesAhead$Desk;)V" } : Jvm.MethodName) prog_3_method_3_code (3 : Nat) (Option.none : Option Jvm.ClassFile.FieldType) : Cond) ∈ lw_g := lw_gm (i := 240) (by decide +kernel) (by decide +kernel)
theorem q241 : (.methodLink "LivesAhead$History" (25 : Nat) ({ cls := "LivesAhead$History", name := "stateAt", desc := "(I)LLivesAhead$Desk;" } : Jvm.MethodName) : Cond) ∈ lw_g := lw_gm (i := 241) (by decide +kernel) (by decide +kernel)
theorem q243 : (.instanceMethod ({ cls := "LivesAhead$History", name := "stateAt", desc := "(I)LLivesAhead$Desk;" } : Jvm.MethodName) : Cond) ∈ lw_g := lw_gm (i := 243) (by decide +kernel) (by decide +kernel)
theorem q244 : (.code ({ cls := "LivesAhead$History", name := "stateAt", desc := "(I)LLivesAhead$Desk;" } : Jvm.MethodName) prog_3_method_5_code (3 : Nat) (Option.some (.object "LivesAhead$Desk")) : Cond) ∈ lw_g := lw_gm (i := 244) (by decide +kernel) (by decide +kernel)
theorem q245 : (.methodLink "LivesAhead$History" (29 : Nat) ({ cls := "LivesAhead$Desk", name := "copyFrom", desc := "(LLivesAhead$Desk;)V" } : Jvm.MethodName) : Cond) ∈ lw_g := lw_gm (i := 245) (by decide +kernel) (by decide +kernel)
theorem q246 : (.instanceMethod ({ cls := "LivesAhead$Desk", name := "copyFrom", desc := "(LLivesAhead$Desk;)V" } : Jvm.MethodName) : Cond) ∈ lw_g := lw_gm (i := 246) (by decide +kernel) (by decide +kernel)
theorem q247 : (.selects "LivesAhead$Desk" ({ cls := "LivesAhead$Desk", name := "copyFrom", desc := "(LLivesAhead$Desk;)V" } : Jvm.MethodName) ({ cls := "LivesAhead$Desk", name := "copyFrom", desc := "(LLivesAhead$Desk;)V" } : Jvm.MethodName) : Cond) ∈ lw_g := lw_gm (i := 247) (by decide +kernel) (by decide +kernel)
theorem q248 : (.code ({ cls := "LivesAhead$Desk", name := "copyFrom", desc := "(LLivesAhead$Desk;)V" } : Jvm.MethodName) prog_2_method_2_code (5 : Nat) (Option.none : Option Jvm.ClassFile.FieldType) : Cond) ∈ lw_g := lw_gm (i := 248) (by decide +kernel) (by decide +kernel)
theorem q249 : (.methodLink "LivesAhead$Desk" (29 : Nat) ({ cls := "java/lang/System", name := "arraycopy", desc := "(Ljava/lang/Object;ILjava/lang/Object;II)V" } : Jvm.MethodName) : Cond) ∈ lw_g := lw_gm (i := 249) (by decide +kernel) (by decide +kernel)
theorem q250 : (.static ({ cls := "java/lang/System", name := "arraycopy", desc := "(Ljava/lang/Object;ILjava/lang/Object;II)V" } : Jvm.MethodName) : Cond) ∈ lw_g := lw_gm (i := 250) (by decide +kernel) (by decide +kernel)
theorem q251 : (.native ({ cls := "java/lang/System", name := "arraycopy", desc := "(Ljava/lang/Object;ILjava/lang/Object;II)V" } : Jvm.MethodName) : Cond) ∈ lw_g := lw_gm (i := 251) (by decide +kernel) (by decide +kernel)
theorem q252 : (.methodLink "LivesAhead$Desk" (44 : Nat) ({ cls := "LivesAhead$Desk", name := "lifeOf", desc := "(I)LLivesAhead$Life;" } : Jvm.MethodName) : Cond) ∈ lw_g := lw_gm (i := 252) (by decide +kernel) (by decide +kernel)
theorem q253 : (.instanceMethod ({ cls := "LivesAhead$Desk", name := "lifeOf", desc := "(I)LLivesAhead$Life;" } : Jvm.MethodName) : Cond) ∈ lw_g := lw_gm (i := 253) (by decide +kernel) (by decide +kernel)
theorem q254 : (.selects "LivesAhead$Desk" ({ cls := "LivesAhead$Desk", name := "lifeOf", desc := "(I)LLivesAhead$Life;" } : Jvm.MethodName) ({ cls := "LivesAhead$Desk", name := "lifeOf", desc := "(I)LLivesAhead$Life;" } : Jvm.MethodName) : Cond) ∈ lw_g := lw_gm (i := 254) (by decide +kernel) (by decide +kernel)
theorem q255 : (.code ({ cls := "LivesAhead$Desk", name := "lifeOf", desc := "(I)LLivesAhead$Life;" } : Jvm.MethodName) prog_2_method_8_code (2 : Nat) (Option.some (.object "LivesAhead$Life")) : Cond) ∈ lw_g := lw_gm (i := 255) (by decide +kernel) (by decide +kernel)
theorem q256 : (.methodLink "LivesAhead$Desk" (48 : Nat) ({ cls := "LivesAhead$Life", name := "copyLife", desc := "(LLivesAhead$Life;)V" } : Jvm.MethodName) : Cond) ∈ lw_g := lw_gm (i := 256) (by decide +kernel) (by decide +kernel)
theorem q257 : (.instanceMethod ({ cls := "LivesAhead$Life", name := "copyLife", desc := "(LLivesAhead$Life;)V" } : Jvm.MethodName) : Cond) ∈ lw_g := lw_gm (i := 257) (by decide +kernel) (by decide +kernel)
theorem q258 : (.selects "LivesAhead$Life" ({ cls := "LivesAhead$Life", name := "copyLife", desc := "(LLivesAhead$Life;)V" } : Jvm.MethodName) ({ cls := "LivesAhead$Life", name := "copyLife", desc := "(LLivesAhead$Life;)V" } : Jvm.MethodName) : Cond) ∈ lw_g := lw_gm (i := 258) (by decide +kernel) (by decide +kernel)
theorem q259 : (.code ({ cls := "LivesAhead$Life", name := "copyLife", desc := "(LLivesAhead$Life;)V" } : Jvm.MethodName) prog_4_method_3_code (2 : Nat) (Option.none : Option Jvm.ClassFile.FieldType) : Cond) ∈ lw_g := lw_gm (i := 259) (by decide +kernel) (by decide +kernel)
theorem q260 : (.methodLink "LivesAhead$Life" (46 : Nat) ({ cls := "java/lang/System", name := "arraycopy", desc := "(Ljava/lang/Object;ILjava/lang/Object;II)V" } : Jvm.MethodName) : Cond) ∈ lw_g := lw_gm (i := 260) (by decide +kernel) (by decide +kernel)
theorem q261 : (.methodLink "LivesAhead" (59 : Nat) ({ cls := "LivesAhead$Desk", name := "join", desc := "(II)I" } : Jvm.MethodName) : Cond) ∈ lw_g := lw_gm (i := 261) (by decide +kernel) (by decide +kernel)
theorem q262 : (.instanceMethod ({ cls := "LivesAhead$Desk", name := "join", desc := "(II)I" } : Jvm.MethodName) : Cond) ∈ lw_g := lw_gm (i := 262) (by decide +kernel) (by decide +kernel)
theorem q263 : (.selects "LivesAhead$Desk" ({ cls := "LivesAhead$Desk", name := "join", desc := "(II)I" } : Jvm.MethodName) ({ cls := "LivesAhead$Desk", name := "join", desc := "(II)I" } : Jvm.MethodName) : Cond) ∈ lw_g := lw_gm (i := 263) (by decide +kernel) (by decide +kernel)
theorem q264 : (.code ({ cls := "LivesAhead$Desk", name := "join", desc := "(II)I" } : Jvm.MethodName) prog_2_method_9_code (4 : Nat) (Option.some .int) : Cond) ∈ lw_g := lw_gm (i := 264) (by decide +kernel) (by decide +kernel)
theorem q265 : (.methodLink "LivesAhead$Desk" (52 : Nat) ({ cls := "LivesAhead$Desk", name := "roomForPersons", desc := "()I" } : Jvm.MethodName) : Cond) ∈ lw_g := lw_gm (i := 265) (by decide +kernel) (by decide +kernel)
theorem q266 : (.methodLink "LivesAhead$Desk" (56 : Nat) ({ cls := "LivesAhead$Life", name := "begin", desc := "(II)V" } : Jvm.MethodName) : Cond) ∈ lw_g := lw_gm (i := 266) (by decide +kernel) (by decide +kernel)
theorem q267 : (.instanceMethod ({ cls := "LivesAhead$Life", name := "begin", desc := "(II)V" } : Jvm.MethodName) : Cond) ∈ lw_g := lw_gm (i := 267) (by decide +kernel) (by decide +kernel)
theorem q268 : (.selects "LivesAhead$Life" ({ cls := "LivesAhead$Life", name := "begin", desc := "(II)V" } : Jvm.MethodName) ({ cls := "LivesAhead$Life", name := "begin", desc := "(II)V" } : Jvm.MethodName) : Cond) ∈ lw_g := lw_gm (i := 268) (by decide +kernel) (by decide +kernel)
theorem q269 : (.code ({ cls := "LivesAhead$Life", name := "begin", desc := "(II)V" } : Jvm.MethodName) prog_4_method_2_code (3 : Nat) (Option.none : Option Jvm.ClassFile.FieldType) : Cond) ∈ lw_g := lw_gm (i := 269) (by decide +kernel) (by decide +kernel)
theorem q270 : (.methodLink "LivesAhead$Life" (40 : Nat) ({ cls := "LivesAhead$Life", name := "takeBackDeath", desc := "()V" } : Jvm.MethodName) : Cond) ∈ lw_g := lw_gm (i := 270) (by decide +kernel) (by decide +kernel)
theorem q271 : (.instanceMethod ({ cls := "LivesAhead$Life", name := "takeBackDeath", desc := "()V" } : Jvm.MethodName) : Cond) ∈ lw_g := lw_gm (i := 271) (by decide +kernel) (by decide +kernel)
theorem q272 : (.selects "LivesAhead$Life" ({ cls := "LivesAhead$Life", name := "takeBackDeath", desc := "()V" } : Jvm.MethodName) ({ cls := "LivesAhead$Life", name := "takeBackDeath", desc := "()V" } : Jvm.MethodName) : Cond) ∈ lw_g := lw_gm (i := 272) (by decide +kernel) (by decide +kernel)
theorem q273 : (.code ({ cls := "LivesAhead$Life", name := "takeBackDeath", desc := "()V" } : Jvm.MethodName) prog_4_method_14_code (1 : Nat) (Option.none : Option Jvm.ClassFile.FieldType) : Cond) ∈ lw_g := lw_gm (i := 273) (by decide +kernel) (by decide +kernel)
theorem q274 : (.methodLink "LivesAheadLaw" (18 : Nat) ({ cls := "LivesAhead", name := "addPersons", desc := "()I" } : Jvm.MethodName) : Cond) ∈ lw_g := lw_gm (i := 274) (by decide +kernel) (by decide +kernel)
theorem q275 : (.instanceMethod ({ cls := "LivesAhead", name := "addPersons", desc := "()I" } : Jvm.MethodName) : Cond) ∈ lw_g := lw_gm (i := 275) (by decide +kernel) (by decide +kernel)
theorem q276 : (.selects "LivesAhead" ({ cls := "LivesAhead", name := "addPersons", desc := "()I" } : Jvm.MethodName) ({ cls := "LivesAhead", name := "addPersons", desc := "()I" } : Jvm.MethodName) : Cond) ∈ lw_g := lw_gm (i := 276) (by decide +kernel) (by decide +kernel)
theorem q277 : (.code ({ cls := "LivesAhead", name := "addPersons", desc := "()I" } : Jvm.MethodName) prog_1_method_3_code (3 : Nat) (Option.some .int) : Cond) ∈ lw_g := lw_gm (i := 277) (by decide +kernel) (by decide +kernel)
theorem q278 : (.methodLink "LivesAhead" (63 : Nat) ({ cls := "LivesAhead$Desk", name := "today", desc := "()I" } : Jvm.MethodName) : Cond) ∈ lw_g := lw_gm (i := 278) (by decide +kernel) (by decide +kernel)
theorem q279 : (.instanceMethod ({ cls := "LivesAhead$Desk", name := "today", desc := "()I" } : Jvm.MethodName) : Cond) ∈ lw_g := lw_gm (i := 279) (by decide +kernel) (by decide +kernel)
theorem q280 : (.selects "LivesAhead$Desk" ({ cls := "LivesAhead$Desk", name := "today", desc := "()I" } : Jvm.MethodName) ({ cls := "LivesAhead$Desk", name := "today", desc := "()I" } : Jvm.MethodName) : Cond) ∈ lw_g := lw_gm (i := 280) (by decide +kernel) (by decide +kernel)
theorem q281 : (.code ({ cls := "LivesAhead$Desk", name := "today", desc := "()I" } : Jvm.MethodName) prog_2_method_3_code (1 : Nat) (Option.some .int) : Cond) ∈ lw_g := lw_gm (i := 281) (by decide +kernel) (by decide +kernel)
theorem q282 : (.methodLink "LivesAhead" (66 : Nat) ({ cls := "LivesAhead$PersonsText", name := "readPersons", desc := "(I)Z" } : Jvm.MethodName) : Cond) ∈ lw_g := lw_gm (i := 282) (by decide +kernel) (by decide +kernel)
theorem q283 : (.instanceMethod ({ cls := "LivesAhead$PersonsText", name := "readPersons", desc := "(I)Z" } : Jvm.MethodName) : Cond) ∈ lw_g := lw_gm (i := 283) (by decide +kernel) (by decide +kernel)
theorem q284 : (.selects "LivesAhead$PersonsText" ({ cls := "LivesAhead$PersonsText", name := "readPersons", desc := "(I)Z" } : Jvm.MethodName) ({ cls := "LivesAhead$PersonsText", name := "readPersons", desc := "(I)Z" } : Jvm.MethodName) : Cond) ∈ lw_g := lw_gm (i := 284) (by decide +kernel) (by decide +kernel)
theorem q285 : (.code ({ cls := "LivesAhead$PersonsText", name := "readPersons", desc := "(I)Z" } : Jvm.MethodName) prog_6_method_8_code (3 : Nat) (Option.some .boolean) : Cond) ∈ lw_g := lw_gm (i := 285) (by decide +kernel) (by decide +kernel)
theorem q286 : (.methodLink "LivesAhead$PersonsText" (32 : Nat) ({ cls := "LivesAhead$PersonsText", name := "readLife", desc := "(I)LLivesAhead$Life;" } : Jvm.MethodName) : Cond) ∈ lw_g := lw_gm (i := 286) (by decide +kernel) (by decide +kernel)
theorem q287 : (.instanceMethod ({ cls := "LivesAhead$PersonsText", name := "readLife", desc := "(I)LLivesAhead$Life;" } : Jvm.MethodName) : Cond) ∈ lw_g := lw_gm (i := 287) (by decide +kernel) (by decide +kernel)
theorem q288 : (.selects "LivesAhead$PersonsText" ({ cls := "LivesAhead$PersonsText", name := "readLife", desc := "(I)LLivesAhead$Life;" } : Jvm.MethodName) ({ cls := "LivesAhead$PersonsText", name := "readLife", desc := "(I)LLivesAhead$Life;" } : Jvm.MethodName) : Cond) ∈ lw_g := lw_gm (i := 288) (by decide +kernel) (by decide +kernel)
theorem q289 : (.code ({ cls := "LivesAhead$PersonsText", name := "readLife", desc := "(I)LLivesAhead$Life;" } : Jvm.MethodName) prog_6_method_7_code (2 : Nat) (Option.some (.object "LivesAhead$Life")) : Cond) ∈ lw_g := lw_gm (i := 289) (by decide +kernel) (by decide +kernel)
theorem q290 : (.methodLink "LivesAhead$PersonsText" (36 : Nat) ({ cls := "LivesAhead$PersonsText", name := "readPerson", desc := "(LLivesAhead$Life;I)Z" } : Jvm.MethodName) : Cond) ∈ lw_g := lw_gm (i := 290) (by decide +kernel) (by decide +kernel)
theorem q292 : (.instanceMethod ({ cls := "LivesAhead$PersonsText", name := "readPerson", desc := "(LLivesAhead$Life;I)Z" } : Jvm.MethodName) : Cond) ∈ lw_g := lw_gm (i := 292) (by decide +kernel) (by decide +kernel)
theorem q293 : (.code ({ cls := "LivesAhead$PersonsText", name := "readPerson", desc := "(LLivesAhead$Life;I)Z" } : Jvm.MethodName) prog_6_method_9_code (6 : Nat) (Option.some .boolean) : Cond) ∈ lw_g := lw_gm (i := 293) (by decide +kernel) (by decide +kernel)
theorem q294 : (.methodLink "LivesAhead$PersonsText" (44 : Nat) ({ cls := "LivesAhead$PersonsText", name := "takeAge", desc := "()I" } : Jvm.MethodName) : Cond) ∈ lw_g := lw_gm (i := 294) (by decide +kernel) (by decide +kernel)
theorem q296 : (.instanceMethod ({ cls := "LivesAhead$PersonsText", name := "takeAge", desc := "()I" } : Jvm.MethodName) : Cond) ∈ lw_g := lw_gm (i := 296) (by decide +kernel) (by decide +kernel)
theorem q297 : (.code ({ cls := "LivesAhead$PersonsText", name := "takeAge", desc := "()I" } : Jvm.MethodName) prog_6_method_11_code (5 : Nat) (Option.some .int) : Cond) ∈ lw_g := lw_gm (i := 297) (by decide +kernel) (by decide +kernel)
theorem q298 : (.methodLink "LivesAhead$PersonsText" (48 : Nat) ({ cls := "LivesAhead$PersonsText", name := "takeDigit", desc := "(II)I" } : Jvm.MethodName) : Cond) ∈ lw_g := lw_gm (i := 298) (by decide +kernel) (by decide +kernel)
theorem q300 : (.instanceMethod ({ cls := "LivesAhead$PersonsText", name := "takeDigit", desc := "(II)I" } : Jvm.MethodName) : Cond) ∈ lw_g := lw_gm (i := 300) (by decide +kernel) (by decide +kernel)
theorem q301 : (.code ({ cls := "LivesAhead$PersonsText", name := "takeDigit", desc := "(II)I" } : Jvm.MethodName) prog_6_method_12_code (4 : Nat) (Option.some .int) : Cond) ∈ lw_g := lw_gm (i := 301) (by decide +kernel) (by decide +kernel)
theorem q303 : (.methodLink "LivesAhead$PersonsText" (63 : Nat) ({ cls := "java/lang/Math", name := "min", desc := "(II)I" } : Jvm.MethodName) : Cond) ∈ lw_g := lw_gm (i := 303) (by decide +kernel) (by decide +kernel)
theorem q304 : (.static ({ cls := "java/lang/Math", name := "min", desc := "(II)I" } : Jvm.MethodName) : Cond) ∈ lw_g := lw_gm (i := 304) (by decide +kernel) (by decide +kernel)
theorem q305 : (.code ({ cls := "java/lang/Math", name := "min", desc := "(II)I" } : Jvm.MethodName) prog_12_method_69_code (2 : Nat) (Option.some .int) : Cond) ∈ lw_g := lw_gm (i := 305) (by decide +kernel) (by decide +kernel)
theorem q306 : (.methodLink "LivesAhead$PersonsText" (40 : Nat) ({ cls := "LivesAhead$PersonsText", name := "takes", desc := "(C)Z" } : Jvm.MethodName) : Cond) ∈ lw_g := lw_gm (i := 306) (by decide +kernel) (by decide +kernel)
theorem q308 : (.instanceMethod ({ cls := "LivesAhead$PersonsText", name := "takes", desc := "(C)Z" } : Jvm.MethodName) : Cond) ∈ lw_g := lw_gm (i := 308) (by decide +kernel) (by decide +kernel)
theorem q309 : (.code ({ cls := "LivesAhead$PersonsText", name := "takes", desc := "(C)Z" } : Jvm.MethodName) prog_6_method_13_code (2 : Nat) (Option.some .boolean) : Cond) ∈ lw_g := lw_gm (i := 309) (by decide +kernel) (by decide +kernel)
theorem q310 : (.methodLink "LivesAhead$PersonsText" (52 : Nat) ({ cls := "LivesAhead$Life", name := "begin", desc := "(II)V" } : Jvm.MethodName) : Cond) ∈ lw_g := lw_gm (i := 310) (by decide +kernel) (by decide +kernel)
theorem q311 : (.methodLink "LivesAhead$PersonsText" (56 : Nat) ({ cls := "LivesAhead$PersonsText", name := "readFact", desc := "(LLivesAhead$Life;I)Z" } : Jvm.MethodName) : Cond) ∈ lw_g := lw_gm (i := 311) (by decide +kernel) (by decide +kernel)
theorem q313 : (.instanceMethod ({ cls := "LivesAhead$PersonsText", name := "readFact", desc := "(LLivesAhead$Life;I)Z" } : Jvm.MethodName) : Cond) ∈ lw_g := lw_gm (i := 313) (by decide +kernel) (by decide +kernel)
theorem q314 : (.code ({ cls := "LivesAhead$PersonsText", name := "readFact", desc := "(LLivesAhead$Life;I)Z" } : Jvm.MethodName) prog_6_method_10_code (5 : Nat) (Option.some .boolean) : Cond) ∈ lw_g := lw_gm (i := 314) (by decide +kernel) (by decide +kernel)
theorem q315 : (.methodLink "LivesAhead$PersonsText" (59 : Nat) ({ cls := "LivesAhead$Life", name := "addFact", desc := "(III)I" } : Jvm.MethodName) : Cond) ∈ lw_g := lw_gm (i := 315) (by decide +kernel) (by decide +kernel)
theorem q316 : (.instanceMethod ({ cls := "LivesAhead$Life", name := "addFact", desc := "(III)I" } : Jvm.MethodName) : Cond) ∈ lw_g := lw_gm (i := 316) (by decide +kernel) (by decide +kernel)
theorem q317 : (.selects "LivesAhead$Life" ({ cls := "LivesAhead$Life", name := "addFact", desc := "(III)I" } : Jvm.MethodName) ({ cls := "LivesAhead$Life", name := "addFact", desc := "(III)I" } : Jvm.MethodName) : Cond) ∈ lw_g := lw_gm (i := 317) (by decide +kernel) (by decide +kernel)
theorem q318 : (.code ({ cls := "LivesAhead$Life", name := "addFact", desc := "(III)I" } : Jvm.MethodName) prog_4_method_20_code (4 : Nat) (Option.some .int) : Cond) ∈ lw_g := lw_gm (i := 318) (by decide +kernel) (by decide +kernel)
theorem q319 : (.methodLink "LivesAhead" (70 : Nat) ({ cls := "LivesAhead$PersonsText", name := "fault", desc := "()I" } : Jvm.MethodName) : Cond) ∈ lw_g := lw_gm (i := 319) (by decide +kernel) (by decide +kernel)
theorem q320 : (.instanceMethod ({ cls := "LivesAhead$PersonsText", name := "fault", desc := "()I" } : Jvm.MethodName) : Cond) ∈ lw_g := lw_gm (i := 320) (by decide +kernel) (by decide +kernel)
theorem q321 : (.selects "LivesAhead$PersonsText" ({ cls := "LivesAhead$PersonsText", name := "fault", desc := "()I" } : Jvm.MethodName) ({ cls := "LivesAhead$PersonsText", name := "fault", desc := "()I" } : Jvm.MethodName) : Cond) ∈ lw_g := lw_gm (i := 321) (by decide +kernel) (by decide +kernel)
theorem q322 : (.code ({ cls := "LivesAhead$PersonsText", name := "fault", desc := "()I" } : Jvm.MethodName) prog_6_method_5_code (1 : Nat) (Option.some .int) : Cond) ∈ lw_g := lw_gm (i := 322) (by decide +kernel) (by decide +kernel)
theorem q323 : (.methodLink "LivesAhead" (73 : Nat) ({ cls := "LivesAhead$PersonsText", name := "personsRead", desc := "()I" } : Jvm.MethodName) : Cond) ∈ lw_g := lw_gm (i := 323) (by decide +kernel) (by decide +kernel)
theorem q324 : (.instanceMethod ({ cls := "LivesAhead$PersonsText", name := "personsRead", desc := "()I" } : Jvm.MethodName) : Cond) ∈ lw_g := lw_gm (i := 324) (by decide +kernel) (by decide +kernel)
theorem q325 : (.selects "LivesAhead$PersonsText" ({ cls := "LivesAhead$PersonsText", name := "personsRead", desc := "()I" } : Jvm.MethodName) ({ cls := "LivesAhead$PersonsText", name := "personsRead", desc := "()I" } : Jvm.MethodName) : Cond) ∈ lw_g := lw_gm (i := 325) (by decide +kernel) (by decide +kernel)
theorem q326 : (.code ({ cls := "LivesAhead$PersonsText", name := "personsRead", desc := "()I" } : Jvm.MethodName) prog_6_method_6_code (1 : Nat) (Option.some .int) : Cond) ∈ lw_g := lw_gm (i := 326) (by decide +kernel) (by decide +kernel)
theorem q327 : (.methodLink "LivesAhead" (76 : Nat) ({ cls := "LivesAhead$PersonsText", name := "readLife", desc := "(I)LLivesAhead$Life;" } : Jvm.MethodName) : Cond) ∈ lw_g := lw_gm (i := 327) (by decide +kernel) (by decide +kernel)
theorem q328 : (.methodLink "LivesAhead" (80 : Nat) ({ cls := "LivesAhead$Desk", name := "joinLike", desc := "(LLivesAhead$Life;)V" } : Jvm.MethodName) : Cond) ∈ lw_g := lw_gm (i := 328) (by decide +kernel) (by decide +kernel)
theorem q329 : (.instanceMethod ({ cls := "LivesAhead$Desk", name := "joinLike", desc := "(LLivesAhead$Life;)V" } : Jvm.MethodName) : Cond) ∈ lw_g := lw_gm (i := 329) (by decide +kernel) (by decide +kernel)
theorem q330 : (.selects "LivesAhead$Desk" ({ cls := "LivesAhead$Desk", name := "joinLike", desc := "(LLivesAhead$Life;)V" } : Jvm.MethodName) ({ cls := "LivesAhead$Desk", name := "joinLike", desc := "(LLivesAhead$Life;)V" } : Jvm.MethodName) : Cond) ∈ lw_g := lw_gm (i := 330) (by decide +kernel) (by decide +kernel)
theorem q331 : (.code ({ cls := "LivesAhead$Desk", name := "joinLike", desc := "(LLivesAhead$Life;)V" } : Jvm.MethodName) prog_2_method_10_code (3 : Nat) (Option.none : Option Jvm.ClassFile.FieldType) : Cond) ∈ lw_g := lw_gm (i := 331) (by decide +kernel) (by decide +kernel)
theorem q332 : (.methodLink "LivesAhead$Desk" (60 : Nat) ({ cls := "LivesAhead$Life", name := "age", desc := "()I" } : Jvm.MethodName) : Cond) ∈ lw_g := lw_gm (i := 332) (by decide +kernel) (by decide +kernel)
theorem q333 : (.instanceMethod ({ cls := "LivesAhead$Life", name := "age", desc := "()I" } : Jvm.MethodName) : Cond) ∈ lw_g := lw_gm (i := 333) (by decide +kernel) (by decide +kernel)
theorem q334 : (.selects "LivesAhead$Life" ({ cls := "LivesAhead$Life", name := "age", desc := "()I" } : Jvm.MethodName) ({ cls := "LivesAhead$Life", name := "age", desc := "()I" } : Jvm.MethodName) : Cond) ∈ lw_g := lw_gm (i := 334) (by decide +kernel) (by decide +kernel)
theorem q335 : (.code ({ cls := "LivesAhead$Life", name := "age", desc := "()I" } : Jvm.MethodName) prog_4_method_4_code (1 : Nat) (Option.some .int) : Cond) ∈ lw_g := lw_gm (i := 335) (by decide +kernel) (by decide +kernel)
theorem q336 : (.methodLink "LivesAhead$Desk" (63 : Nat) ({ cls := "LivesAhead$Life", name := "rank", desc := "()I" } : Jvm.MethodName) : Cond) ∈ lw_g := lw_gm (i := 336) (by decide +kernel) (by decide +kernel)
theorem q337 : (.instanceMethod ({ cls := "LivesAhead$Life", name := "rank", desc := "()I" } : Jvm.MethodName) : Cond) ∈ lw_g := lw_gm (i := 337) (by decide +kernel) (by decide +kernel)
theorem q338 : (.selects "LivesAhead$Life" ({ cls := "LivesAhead$Life", name := "rank", desc := "()I" } : Jvm.MethodName) ({ cls := "LivesAhead$Life", name := "rank", desc := "()I" } : Jvm.MethodName) : Cond) ∈ lw_g := lw_gm (i := 338) (by decide +kernel) (by decide +kernel)
theorem q339 : (.code ({ cls := "LivesAhead$Life", name := "rank", desc := "()I" } : Jvm.MethodName) prog_4_method_5_code (1 : Nat) (Option.some .int) : Cond) ∈ lw_g := lw_gm (i := 339) (by decide +kernel) (by decide +kernel)
theorem q340 : (.methodLink "LivesAhead$Desk" (66 : Nat) ({ cls := "LivesAhead$Desk", name := "join", desc := "(II)I" } : Jvm.MethodName) : Cond) ∈ lw_g := lw_gm (i := 340) (by decide +kernel) (by decide +kernel)
theorem q341 : (.methodLink "LivesAheadLaw" (23 : Nat) ({ cls := "LivesAhead", name := "write", desc := "(III)I" } : Jvm.MethodName) : Cond) ∈ lw_g := lw_gm (i := 341) (by decide +kernel) (by decide +kernel)
theorem q342 : (.instanceMethod ({ cls := "LivesAhead", name := "write", desc := "(III)I" } : Jvm.MethodName) : Cond) ∈ lw_g := lw_gm (i := 342) (by decide +kernel) (by decide +kernel)
theorem q343 : (.selects "LivesAhead" ({ cls := "LivesAhead", name := "write", desc := "(III)I" } : Jvm.MethodName) ({ cls := "LivesAhead", name := "write", desc := "(III)I" } : Jvm.MethodName) : Cond) ∈ lw_g := lw_gm (i := 343) (by decide +kernel) (by decide +kernel)
theorem q344 : (.code ({ cls := "LivesAhead", name := "write", desc := "(III)I" } : Jvm.MethodName) prog_1_method_4_code (5 : Nat) (Option.some .int) : Cond) ∈ lw_g := lw_gm (i := 344) (by decide +kernel) (by decide +kernel)
theorem q345 : (.methodLink "LivesAhead" (84 : Nat) ({ cls := "LivesAhead$Desk", name := "lifeOf", desc := "(I)LLivesAhead$Life;" } : Jvm.MethodName) : Cond) ∈ lw_g := lw_gm (i := 345) (by decide +kernel) (by decide +kernel)
theorem q346 : (.methodLink "LivesAhead" (87 : Nat) ({ cls := "LivesAhead", name := "isSource", desc := "(I)Z" } : Jvm.MethodName) : Cond) ∈ lw_g := lw_gm (i := 346) (by decide +kernel) (by decide +kernel)
theorem q347 : (.static ({ cls := "LivesAhead", name := "isSource", desc := "(I)Z" } : Jvm.MethodName) : Cond) ∈ lw_g := lw_gm (i := 347) (by decide +kernel) (by decide +kernel)
theorem q348 : (.code ({ cls := "LivesAhead", name := "isSource", desc := "(I)Z" } : Jvm.MethodName) prog_1_method_28_code (1 : Nat) (Option.some .boolean) : Cond) ∈ lw_g := lw_gm (i := 348) (by decide +kernel) (by decide +kernel)
theorem q349 : (.methodLink "LivesAhead" (90 : Nat) ({ cls := "LivesAhead$Life", name := "isIn", desc := "(I)Z" } : Jvm.MethodName) : Cond) ∈ lw_g := lw_gm (i := 349) (by decide +kernel) (by decide +kernel)
theorem q350 : (.instanceMethod ({ cls := "LivesAhead$Life", name := "isIn", desc := "(I)Z" } : Jvm.MethodName) : Cond) ∈ lw_g := lw_gm (i := 350) (by decide +kernel) (by decide +kernel)
theorem q351 : (.selects "LivesAhead$Life" ({ cls := "LivesAhead$Life", name := "isIn", desc := "(I)Z" } : Jvm.MethodName) ({ cls := "LivesAhead$Life", name := "isIn", desc := "(I)Z" } : Jvm.MethodName) : Cond) ∈ lw_g := lw_gm (i := 351) (by decide +kernel) (by decide +kernel)
theorem q352 : (.code ({ cls := "LivesAhead$Life", name := "isIn", desc := "(I)Z" } : Jvm.MethodName) prog_4_method_7_code (2 : Nat) (Option.some .boolean) : Cond) ∈ lw_g := lw_gm (i := 352) (by decide +kernel) (by decide +kernel)
theorem q353 : (.methodLink "LivesAhead" (95 : Nat) ({ cls := "LivesAhead$Life", name := "size", desc := "()I" } : Jvm.MethodName) : Cond) ∈ lw_g := lw_gm (i := 353) (by decide +kernel) (by decide +kernel)
theorem q354 : (.instanceMethod ({ cls := "LivesAhead$Life", name := "size", desc := "()I" } : Jvm.MethodName) : Cond) ∈ lw_g := lw_gm (i := 354) (by decide +kernel) (by decide +kernel)
theorem q355 : (.selects "LivesAhead$Life" ({ cls := "LivesAhead$Life", name := "size", desc := "()I" } : Jvm.MethodName) ({ cls := "LivesAhead$Life", name := "size", desc := "()I" } : Jvm.MethodName) : Cond) ∈ lw_g := lw_gm (i := 355) (by decide +kernel) (by decide +kernel)
theorem q356 : (.code ({ cls := "LivesAhead$Life", name := "size", desc := "()I" } : Jvm.MethodName) prog_4_method_11_code (1 : Nat) (Option.some .int) : Cond) ∈ lw_g := lw_gm (i := 356) (by decide +kernel) (by decide +kernel)
theorem q357 : (.methodLink "LivesAhead" (98 : Nat) ({ cls := "LivesAhead$Desk", name := "hoursLeft", desc := "()I" } : Jvm.MethodName) : Cond) ∈ lw_g := lw_gm (i := 357) (by decide +kernel) (by decide +kernel)
theorem q358 : (.instanceMethod ({ cls := "LivesAhead$Desk", name := "hoursLeft", desc := "()I" } : Jvm.MethodName) : Cond) ∈ lw_g := lw_gm (i := 358) (by decide +kernel) (by decide +kernel)
theorem q359 : (.selects "LivesAhead$Desk" ({ cls := "LivesAhead$Desk", name := "hoursLeft", desc := "()I" } : Jvm.MethodName) ({ cls := "LivesAhead$Desk", name := "hoursLeft", desc := "()I" } : Jvm.MethodName) : Cond) ∈ lw_g := lw_gm (i := 359) (by decide +kernel) (by decide +kernel)
theorem q360 : (.code ({ cls := "LivesAhead$Desk", name := "hoursLeft", desc := "()I" } : Jvm.MethodName) prog_2_method_4_code (1 : Nat) (Option.some .int) : Cond) ∈ lw_g := lw_gm (i := 360) (by decide +kernel) (by decide +kernel)
theorem q361 : (.methodLink "LivesAhead" (101 : Nat) ({ cls := "LivesAhead$Desk", name := "spendHours", desc := "(I)V" } : Jvm.MethodName) : Cond) ∈ lw_g := lw_gm (i := 361) (by decide +kernel) (by decide +kernel)
theorem q362 : (.instanceMethod ({ cls := "LivesAhead$Desk", name := "spendHours", desc := "(I)V" } : Jvm.MethodName) : Cond) ∈ lw_g := lw_gm (i := 362) (by decide +kernel) (by decide +kernel)
theorem q363 : (.selects "LivesAhead$Desk" ({ cls := "LivesAhead$Desk", name := "spendHours", desc := "(I)V" } : Jvm.MethodName) ({ cls := "LivesAhead$Desk", name := "spendHours", desc := "(I)V" } : Jvm.MethodName) : Cond) ∈ lw_g := lw_gm (i := 363) (by decide +kernel) (by decide +kernel)
theorem q364 : (.code ({ cls := "LivesAhead$Desk", name := "spendHours", desc := "(I)V" } : Jvm.MethodName) prog_2_method_11_code (2 : Nat) (Option.none : Option Jvm.ClassFile.FieldType) : Cond) ∈ lw_g := lw_gm (i := 364) (by decide +kernel) (by decide +kernel)
theorem q365 : (.methodLink "LivesAhead" (105 : Nat) ({ cls := "LivesAhead$Life", name := "addFact", desc := "(III)I" } : Jvm.MethodName) : Cond) ∈ lw_g := lw_gm (i := 365) (by decide +kernel) (by decide +kernel)
theorem q366 : (.methodLink "LivesAheadLaw" (28 : Nat) ({ cls := "LivesAhead", name := "check", desc := "(II)I" } : Jvm.MethodName) : Cond) ∈ lw_g := lw_gm (i := 366) (by decide +kernel) (by decide +kernel)
theorem q367 : (.instanceMethod ({ cls := "LivesAhead", name := "check", desc := "(II)I" } : Jvm.MethodName) : Cond) ∈ lw_g := lw_gm (i := 367) (by decide +kernel) (by decide +kernel)
theorem q368 : (.selects "LivesAhead" ({ cls := "LivesAhead", name := "check", desc := "(II)I" } : Jvm.MethodName) ({ cls := "LivesAhead", name := "check", desc := "(II)I" } : Jvm.MethodName) : Cond) ∈ lw_g := lw_gm (i := 368) (by decide +kernel) (by decide +kernel)
theorem q369 : (.code ({ cls := "LivesAhead", name := "check", desc := "(II)I" } : Jvm.MethodName) prog_1_method_5_code (4 : Nat) (Option.some .int) : Cond) ∈ lw_g := lw_gm (i := 369) (by decide +kernel) (by decide +kernel)
theorem q370 : (.methodLink "LivesAhead" (109 : Nat) ({ cls := "LivesAhead$Life", name := "hasFact", desc := "(I)Z" } : Jvm.MethodName) : Cond) ∈ lw_g := lw_gm (i := 370) (by decide +kernel) (by decide +kernel)
theorem q371 : (.instanceMethod ({ cls := "LivesAhead$Life", name := "hasFact", desc := "(I)Z" } : Jvm.MethodName) : Cond) ∈ lw_g := lw_gm (i := 371) (by decide +kernel) (by decide +kernel)
theorem q372 : (.selects "LivesAhead$Life" ({ cls := "LivesAhead$Life", name := "hasFact", desc := "(I)Z" } : Jvm.MethodName) ({ cls := "LivesAhead$Life", name := "hasFact", desc := "(I)Z" } : Jvm.MethodName) : Cond) ∈ lw_g := lw_gm (i := 372) (by decide +kernel) (by decide +kernel)
theorem q373 : (.code ({ cls := "LivesAhead$Life", name := "hasFact", desc := "(I)Z" } : Jvm.MethodName) prog_4_method_16_code (2 : Nat) (Option.some .boolean) : Cond) ∈ lw_g := lw_gm (i := 373) (by decide +kernel) (by decide +kernel)
theorem q374 : (.methodLink "LivesAhead" (112 : Nat) ({ cls := "LivesAhead$Life", name := "dayOf", desc := "(I)I" } : Jvm.MethodName) : Cond) ∈ lw_g := lw_gm (i := 374) (by decide +kernel) (by decide +kernel)
theorem q375 : (.instanceMethod ({ cls := "LivesAhead$Life", name := "dayOf", desc := "(I)I" } : Jvm.MethodName) : Cond) ∈ lw_g := lw_gm (i := 375) (by decide +kernel) (by decide +kernel)
theorem q376 : (.selects "LivesAhead$Life" ({ cls := "LivesAhead$Life", name := "dayOf", desc := "(I)I" } : Jvm.MethodName) ({ cls := "LivesAhead$Life", name := "dayOf", desc := "(I)I" } : Jvm.MethodName) : Cond) ∈ lw_g := lw_gm (i := 376) (by decide +kernel) (by decide +kernel)
theorem q377 : (.code ({ cls := "LivesAhead$Life", name := "dayOf", desc := "(I)I" } : Jvm.MethodName) prog_4_method_19_code (2 : Nat) (Option.some .int) : Cond) ∈ lw_g := lw_gm (i := 377) (by decide +kernel) (by decide +kernel)
theorem q378 : (.methodLink "LivesAhead$Life" (52 : Nat) ({ cls := "LivesAhead$Life", name := "hasFact", desc := "(I)Z" } : Jvm.MethodName) : Cond) ∈ lw_g := lw_gm (i := 378) (by decide +kernel) (by decide +kernel)
theorem q379 : (.methodLink "LivesAhead" (116 : Nat) ({ cls := "LivesAhead$Desk", name := "checkToday", desc := "(LLivesAhead$Life;I)V" } : Jvm.MethodName) : Cond) ∈ lw_g := lw_gm (i := 379) (by decide +kernel) (by decide +kernel)
theorem q380 : (.instanceMethod ({ cls := "LivesAhead$Desk", name := "checkToday", desc := "(LLivesAhead$Life;I)V" } : Jvm.MethodName) : Cond) ∈ lw_g := lw_gm (i := 380) (by decide +kernel) (by decide +kernel)
theorem q381 : (.selects "LivesAhead$Desk" ({ cls := "LivesAhead$Desk", name := "checkToday", desc := "(LLivesAhead$Life;I)V" } : Jvm.MethodName) ({ cls := "LivesAhead$Desk", name := "checkToday", desc := "(LLivesAhead$Life;I)V" } : Jvm.MethodName) : Cond) ∈ lw_g := lw_gm (i := 381) (by decide +kernel) (by decide +kernel)
theorem q382 : (.code ({ cls := "LivesAhead$Desk", name := "checkToday", desc := "(LLivesAhead$Life;I)V" } : Jvm.MethodName) prog_2_method_32_code (3 : Nat) (Option.none : Option Jvm.ClassFile.FieldType) : Cond) ∈ lw_g := lw_gm (i := 382) (by decide +kernel) (by decide +kernel)
theorem q383 : (.methodLink "LivesAhead$Desk" (132 : Nat) ({ cls := "LivesAhead$Life", name := "changeDay", desc := "(II)V" } : Jvm.MethodName) : Cond) ∈ lw_g := lw_gm (i := 383) (by decide +kernel) (by decide +kernel)
theorem q384 : (.instanceMethod ({ cls := "LivesAhead$Life", name := "changeDay", desc := "(II)V" } : Jvm.MethodName) : Cond) ∈ lw_g := lw_gm (i := 384) (by decide +kernel) (by decide +kernel)
theorem q385 : (.selects "LivesAhead$Life" ({ cls := "LivesAhead$Life", name := "changeDay", desc := "(II)V" } : Jvm.MethodName) ({ cls := "LivesAhead$Life", name := "changeDay", desc := "(II)V" } : Jvm.MethodName) : Cond) ∈ lw_g := lw_gm (i := 385) (by decide +kernel) (by decide +kernel)
theorem q386 : (.code ({ cls := "LivesAhead$Life", name := "changeDay", desc := "(II)V" } : Jvm.MethodName) prog_4_method_23_code (3 : Nat) (Option.none : Option Jvm.ClassFile.FieldType) : Cond) ∈ lw_g := lw_gm (i := 386) (by decide +kernel) (by decide +kernel)
theorem q387 : (.methodLink "LivesAhead$Desk" (135 : Nat) ({ cls := "LivesAhead$Desk", name := "spendHours", desc := "(I)V" } : Jvm.MethodName) : Cond) ∈ lw_g := lw_gm (i := 387) (by decide +kernel) (by decide +kernel)
theorem q388 : (.methodLink "LivesAheadLaw" (32 : Nat) ({ cls := "LivesAhead", name := "strike", desc := "(II)I" } : Jvm.MethodName) : Cond) ∈ lw_g := lw_gm (i := 388) (by decide +kernel) (by decide +kernel)
theorem q389 : (.instanceMethod ({ cls := "LivesAhead", name := "strike", desc := "(II)I" } : Jvm.MethodName) : Cond) ∈ lw_g := lw_gm (i := 389) (by decide +kernel) (by decide +kernel)
theorem q390 : (.selects "LivesAhead" ({ cls := "LivesAhead", name := "strike", desc := "(II)I" } : Jvm.MethodName) ({ cls := "LivesAhead", name := "strike", desc := "(II)I" } : Jvm.MethodName) : Cond) ∈ lw_g := lw_gm (i := 390) (by decide +kernel) (by decide +kernel)
theorem q391 : (.code ({ cls := "LivesAhead", name := "strike", desc := "(II)I" } : Jvm.MethodName) prog_1_method_6_code (4 : Nat) (Option.some .int) : Cond) ∈ lw_g := lw_gm (i := 391) (by decide +kernel) (by decide +kernel)
theorem q392 : (.methodLink "LivesAhead" (120 : Nat) ({ cls := "LivesAhead$Life", name := "removeFact", desc := "(I)V" } : Jvm.MethodName) : Cond) ∈ lw_g := lw_gm (i := 392) (by decide +kernel) (by decide +kernel)
theorem q393 : (.instanceMethod ({ cls := "LivesAhead$Life", name := "removeFact", desc := "(I)V" } : Jvm.MethodName) : Cond) ∈ lw_g := lw_gm (i := 393) (by decide +kernel) (by decide +kernel)
theorem q394 : (.selects "LivesAhead$Life" ({ cls := "LivesAhead$Life", name := "removeFact", desc := "(I)V" } : Jvm.MethodName) ({ cls := "LivesAhead$Life", name := "removeFact", desc := "(I)V" } : Jvm.MethodName) : Cond) ∈ lw_g := lw_gm (i := 394) (by decide +kernel) (by decide +kernel)
theorem q395 : (.code ({ cls := "LivesAhead$Life", name := "removeFact", desc := "(I)V" } : Jvm.MethodName) prog_4_method_21_code (3 : Nat) (Option.none : Option Jvm.ClassFile.FieldType) : Cond) ∈ lw_g := lw_gm (i := 395) (by decide +kernel) (by decide +kernel)
theorem q396 : (.methodLink "LivesAheadLaw" (36 : Nat) ({ cls := "LivesAhead", name := "checkUrgent", desc := "()I" } : Jvm.MethodName) : Cond) ∈ lw_g := lw_gm (i := 396) (by decide +kernel) (by decide +kernel)
theorem q397 : (.instanceMethod ({ cls := "LivesAhead", name := "checkUrgent", desc := "()I" } : Jvm.MethodName) : Cond) ∈ lw_g := lw_gm (i := 397) (by decide +kernel) (by decide +kernel)
theorem q398 : (.selects "LivesAhead" ({ cls := "LivesAhead", name := "checkUrgent", desc := "()I" } : Jvm.MethodName) ({ cls := "LivesAhead", name := "checkUrgent", desc := "()I" } : Jvm.MethodName) : Cond) ∈ lw_g := lw_gm (i := 398) (by decide +kernel) (by decide +kernel)
theorem q399 : (.code ({ cls := "LivesAhead", name := "checkUrgent", desc := "()I" } : Jvm.MethodName) prog_1_method_7_code (3 : Nat) (Option.some .int) : Cond) ∈ lw_g := lw_gm (i := 399) (by decide +kernel) (by decide +kernel)
theorem q400 : (.methodLink "LivesAhead" (123 : Nat) ({ cls := "LivesAhead$Desk", name := "mostUrgentToCheck", desc := "()LLivesAhead$Life;" } : Jvm.MethodName) : Cond) ∈ lw_g := lw_gm (i := 400) (by decide +kernel) (by decide +kernel)
theorem q401 : (.instanceMethod ({ cls := "LivesAhead$Desk", name := "mostUrgentToCheck", desc := "()LLivesAhead$Life;" } : Jvm.MethodName) : Cond) ∈ lw_g := lw_gm (i := 401) (by decide +kernel) (by decide +kernel)
theorem q402 : (.selects "LivesAhead$Desk" ({ cls := "LivesAhead$Desk", name := "mostUrgentToCheck", desc := "()LLivesAhead$Life;" } : Jvm.MethodName) ({ cls := "LivesAhead$Desk", name := "mostUrgentToCheck", desc := "()LLivesAhead$Life;" } : Jvm.MethodName) : Cond) ∈ lw_g := lw_gm (i := 402) (by decide +kernel) (by decide +kernel)
theorem q403 : (.code ({ cls := "LivesAhead$Desk", name := "mostUrgentToCheck", desc := "()LLivesAhead$Life;" } : Jvm.MethodName) prog_2_method_31_code (6 : Nat) (Option.some (.object "LivesAhead$Life")) : Cond) ∈ lw_g := lw_gm (i := 403) (by decide +kernel) (by decide +kernel)
theorem q404 : (.methodLink "LivesAhead$Desk" (77 : Nat) ({ cls := "LivesAhead$Life", name := "isIn", desc := "(I)Z" } : Jvm.MethodName) : Cond) ∈ lw_g := lw_gm (i := 404) (by decide +kernel) (by decide +kernel)
theorem q405 : (.methodLink "LivesAhead$Desk" (129 : Nat) ({ cls := "LivesAhead$Desk", name := "firstToCheck", desc := "(LLivesAhead$Life;)I" } : Jvm.MethodName) : Cond) ∈ lw_g := lw_gm (i := 405) (by decide +kernel) (by decide +kernel)
theorem q406 : (.instanceMethod ({ cls := "LivesAhead$Desk", name := "firstToCheck", desc := "(LLivesAhead$Life;)I" } : Jvm.MethodName) : Cond) ∈ lw_g := lw_gm (i := 406) (by decide +kernel) (by decide +kernel)
theorem q407 : (.selects "LivesAhead$Desk" ({ cls := "LivesAhead$Desk", name := "firstToCheck", desc := "(LLivesAhead$Life;)I" } : Jvm.MethodName) ({ cls := "LivesAhead$Desk", name := "firstToCheck", desc := "(LLivesAhead$Life;)I" } : Jvm.MethodName) : Cond) ∈ lw_g := lw_gm (i := 407) (by decide +kernel) (by decide +kernel)
theorem q408 : (.code ({ cls := "LivesAhead$Desk", name := "firstToCheck", desc := "(LLivesAhead$Life;)I" } : Jvm.MethodName) prog_2_method_30_code (3 : Nat) (Option.some .int) : Cond) ∈ lw_g := lw_gm (i := 408) (by decide +kernel) (by decide +kernel)
theorem q409 : (.methodLink "LivesAhead$Desk" (80 : Nat) ({ cls := "LivesAhead$Life", name := "size", desc := "()I" } : Jvm.MethodName) : Cond) ∈ lw_g := lw_gm (i := 409) (by decide +kernel) (by decide +kernel)
theorem q410 : (.methodLink "LivesAhead$Desk" (91 : Nat) ({ cls := "LivesAhead$Life", name := "dayOf", desc := "(I)I" } : Jvm.MethodName) : Cond) ∈ lw_g := lw_gm (i := 410) (by decide +kernel) (by decide +kernel)
theorem q411 : (.methodLink "LivesAhead$Desk" (113 : Nat) ({ cls := "LivesAhead$Desk", name := "isStale", desc := "(LLivesAhead$Life;I)Z" } : Jvm.MethodName) : Cond) ∈ lw_g := lw_gm (i := 411) (by decide +kernel) (by decide +kernel)
theorem q412 : (.instanceMethod ({ cls := "LivesAhead$Desk", name := "isStale", desc := "(LLivesAhead$Life;I)Z" } : Jvm.MethodName) : Cond) ∈ lw_g := lw_gm (i := 412) (by decide +kernel) (by decide +kernel)
theorem q413 : (.selects "LivesAhead$Desk" ({ cls := "LivesAhead$Desk", name := "isStale", desc := "(LLivesAhead$Life;I)Z" } : Jvm.MethodName) ({ cls := "LivesAhead$Desk", name := "isStale", desc := "(LLivesAhead$Life;I)Z" } : Jvm.MethodName) : Cond) ∈ lw_g := lw_gm (i := 413) (by decide +kernel) (by decide +kernel)
theorem q414 : (.code ({ cls := "LivesAhead$Desk", name := "isStale", desc := "(LLivesAhead$Life;I)Z" } : Jvm.MethodName) prog_2_method_22_code (3 : Nat) (Option.some .boolean) : Cond) ∈ lw_g := lw_gm (i := 414) (by decide +kernel) (by decide +kernel)
theorem q415 : (.methodLink "LivesAhead$Desk" (95 : Nat) ({ cls := "LivesAhead$Desk", name := "worthOf", desc := "(LLivesAhead$Life;II)F" } : Jvm.MethodName) : Cond) ∈ lw_g := lw_gm (i := 415) (by decide +kernel) (by decide +kernel)
theorem q416 : (.instanceMethod ({ cls := "LivesAhead$Desk", name := "worthOf", desc := "(LLivesAhead$Life;II)F" } : Jvm.MethodName) : Cond) ∈ lw_g := lw_gm (i := 416) (by decide +kernel) (by decide +kernel)
theorem q417 : (.selects "LivesAhead$Desk" ({ cls := "LivesAhead$Desk", name := "worthOf", desc := "(LLivesAhead$Life;II)F" } : Jvm.MethodName) ({ cls := "LivesAhead$Desk", name := "worthOf", desc := "(LLivesAhead$Life;II)F" } : Jvm.MethodName) : Cond) ∈ lw_g := lw_gm (i := 417) (by decide +kernel) (by decide +kernel)
theorem q418 : (.code ({ cls := "LivesAhead$Desk", name := "worthOf", desc := "(LLivesAhead$Life;II)F" } : Jvm.MethodName) prog_2_method_19_code (7 : Nat) (Option.some .float) : Cond) ∈ lw_g := lw_gm (i := 418) (by decide +kernel) (by decide +kernel)
theorem q419 : (.methodLink "LivesAhead$Desk" (83 : Nat) ({ cls := "LivesAhead$Life", name := "sourceOf", desc := "(I)I" } : Jvm.MethodName) : Cond) ∈ lw_g := lw_gm (i := 419) (by decide +kernel) (by decide +kernel)
theorem q420 : (.instanceMethod ({ cls := "LivesAhead$Life", name := "sourceOf", desc := "(I)I" } : Jvm.MethodName) : Cond) ∈ lw_g := lw_gm (i := 420) (by decide +kernel) (by decide +kernel)
theorem q421 : (.selects "LivesAhead$Life" ({ cls := "LivesAhead$Life", name := "sourceOf", desc := "(I)I" } : Jvm.MethodName) ({ cls := "LivesAhead$Life", name := "sourceOf", desc := "(I)I" } : Jvm.MethodName) : Cond) ∈ lw_g := lw_gm (i := 421) (by decide +kernel) (by decide +kernel)
theorem q422 : (.code ({ cls := "LivesAhead$Life", name := "sourceOf", desc := "(I)I" } : Jvm.MethodName) prog_4_method_17_code (2 : Nat) (Option.some .int) : Cond) ∈ lw_g := lw_gm (i := 422) (by decide +kernel) (by decide +kernel)
theorem q423 : (.methodLink "LivesAhead$Desk" (87 : Nat) ({ cls := "LivesAhead$Desk", name := "trustOf", desc := "(I)I" } : Jvm.MethodName) : Cond) ∈ lw_g := lw_gm (i := 423) (by decide +kernel) (by decide +kernel)
theorem q424 : (.instanceMethod ({ cls := "LivesAhead$Desk", name := "trustOf", desc := "(I)I" } : Jvm.MethodName) : Cond) ∈ lw_g := lw_gm (i := 424) (by decide +kernel) (by decide +kernel)
theorem q425 : (.selects "LivesAhead$Desk" ({ cls := "LivesAhead$Desk", name := "trustOf", desc := "(I)I" } : Jvm.MethodName) ({ cls := "LivesAhead$Desk", name := "trustOf", desc := "(I)I" } : Jvm.MethodName) : Cond) ∈ lw_g := lw_gm (i := 425) (by decide +kernel) (by decide +kernel)
theorem q426 : (.code ({ cls := "LivesAhead$Desk", name := "trustOf", desc := "(I)I" } : Jvm.MethodName) prog_2_method_14_code (2 : Nat) (Option.some .int) : Cond) ∈ lw_g := lw_gm (i := 426) (by decide +kernel) (by decide +kernel)
theorem q428 : (.constantFloat "LivesAhead$Desk" (90 : Nat) (1120403456 : UInt32) : Cond) ∈ lw_g := lw_gm (i := 428) (by decide +kernel) (by decide +kernel)
theorem q429 : (.constantFloat "LivesAhead$Desk" (94 : Nat) (1063675494 : UInt32) : Cond) ∈ lw_g := lw_gm (i := 429) (by decide +kernel) (by decide +kernel)
theorem q430 : (.methodLink "LivesAhead$Desk" (105 : Nat) ({ cls := "LivesAhead$Desk", name := "bound", desc := "()F" } : Jvm.MethodName) : Cond) ∈ lw_g := lw_gm (i := 430) (by decide +kernel) (by decide +kernel)
theorem q431 : (.instanceMethod ({ cls := "LivesAhead$Desk", name := "bound", desc := "()F" } : Jvm.MethodName) : Cond) ∈ lw_g := lw_gm (i := 431) (by decide +kernel) (by decide +kernel)
theorem q432 : (.selects "LivesAhead$Desk" ({ cls := "LivesAhead$Desk", name := "bound", desc := "()F" } : Jvm.MethodName) ({ cls := "LivesAhead$Desk", name := "bound", desc := "()F" } : Jvm.MethodName) : Cond) ∈ lw_g := lw_gm (i := 432) (by decide +kernel) (by decide +kernel)
theorem q433 : (.code ({ cls := "LivesAhead$Desk", name := "bound", desc := "()F" } : Jvm.MethodName) prog_2_method_21_code (1 : Nat) (Option.some .float) : Cond) ∈ lw_g := lw_gm (i := 433) (by decide +kernel) (by decide +kernel)
theorem q434 : (.methodLink "LivesAhead$Desk" (102 : Nat) ({ cls := "LivesAhead$Desk", name := "setting", desc := "(I)I" } : Jvm.MethodName) : Cond) ∈ lw_g := lw_gm (i := 434) (by decide +kernel) (by decide +kernel)
theorem q435 : (.instanceMethod ({ cls := "LivesAhead$Desk", name := "setting", desc := "(I)I" } : Jvm.MethodName) : Cond) ∈ lw_g := lw_gm (i := 435) (by decide +kernel) (by decide +kernel)
theorem q436 : (.selects "LivesAhead$Desk" ({ cls := "LivesAhead$Desk", name := "setting", desc := "(I)I" } : Jvm.MethodName) ({ cls := "LivesAhead$Desk", name := "setting", desc := "(I)I" } : Jvm.MethodName) : Cond) ∈ lw_g := lw_gm (i := 436) (by decide +kernel) (by decide +kernel)
theorem q437 : (.code ({ cls := "LivesAhead$Desk", name := "setting", desc := "(I)I" } : Jvm.MethodName) prog_2_method_12_code (2 : Nat) (Option.some .int) : Cond) ∈ lw_g := lw_gm (i := 437) (by decide +kernel) (by decide +kernel)
theorem q439 : (.static ({ cls := "LivesAhead", name := "isSetting", desc := "(I)Z" } : Jvm.MethodName) : Cond) ∈ lw_g := lw_gm (i := 439) (by decide +kernel) (by decide +kernel)
theorem q440 : (.code ({ cls := "LivesAhead", name := "isSetting", desc := "(I)Z" } : Jvm.MethodName) prog_1_method_29_code (1 : Nat) (Option.some .boolean) : Cond) ∈ lw_g := lw_gm (i := 440) (by decide +kernel) (by decide +kernel)
theorem q441 : (.methodLink "LivesAhead$Desk" (122 : Nat) ({ cls := "LivesAhead$Desk", name := "urgencyOf", desc := "(LLivesAhead$Life;)I" } : Jvm.MethodName) : Cond) ∈ lw_g := lw_gm (i := 441) (by decide +kernel) (by decide +kernel)
theorem q442 : (.instanceMethod ({ cls := "LivesAhead$Desk", name := "urgencyOf", desc := "(LLivesAhead$Life;)I" } : Jvm.MethodName) : Cond) ∈ lw_g := lw_gm (i := 442) (by decide +kernel) (by decide +kernel)
theorem q443 : (.selects "LivesAhead$Desk" ({ cls := "LivesAhead$Desk", name := "urgencyOf", desc := "(LLivesAhead$Life;)I" } : Jvm.MethodName) ({ cls := "LivesAhead$Desk", name := "urgencyOf", desc := "(LLivesAhead$Life;)I" } : Jvm.MethodName) : Cond) ∈ lw_g := lw_gm (i := 443) (by decide +kernel) (by decide +kernel)
theorem q444 : (.code ({ cls := "LivesAhead$Desk", name := "urgencyOf", desc := "(LLivesAhead$Life;)I" } : Jvm.MethodName) prog_2_method_28_code (3 : Nat) (Option.some .int) : Cond) ∈ lw_g := lw_gm (i := 444) (by decide +kernel) (by decide +kernel)
theorem q445 : (.methodLink "LivesAhead$Desk" (109 : Nat) ({ cls := "LivesAhead$Desk", name := "staleFactsOf", desc := "(LLivesAhead$Life;I)I" } : Jvm.MethodName) : Cond) ∈ lw_g := lw_gm (i := 445) (by decide +kernel) (by decide +kernel)
theorem q446 : (.instanceMethod ({ cls := "LivesAhead$Desk", name := "staleFactsOf", desc := "(LLivesAhead$Life;I)I" } : Jvm.MethodName) : Cond) ∈ lw_g := lw_gm (i := 446) (by decide +kernel) (by decide +kernel)
theorem q447 : (.selects "LivesAhead$Desk" ({ cls := "LivesAhead$Desk", name := "staleFactsOf", desc := "(LLivesAhead$Life;I)I" } : Jvm.MethodName) ({ cls := "LivesAhead$Desk", name := "staleFactsOf", desc := "(LLivesAhead$Life;I)I" } : Jvm.MethodName) : Cond) ∈ lw_g := lw_gm (i := 447) (by decide +kernel) (by decide +kernel)
theorem q448 : (.code ({ cls := "LivesAhead$Desk", name := "staleFactsOf", desc := "(LLivesAhead$Life;I)I" } : Jvm.MethodName) prog_2_method_23_code (6 : Nat) (Option.some .int) : Cond) ∈ lw_g := lw_gm (i := 448) (by decide +kernel) (by decide +kernel)
theorem q449 : (.methodLink "LivesAhead" (127 : Nat) ({ cls := "LivesAhead$Desk", name := "firstToCheck", desc := "(LLivesAhead$Life;)I" } : Jvm.MethodName) : Cond) ∈ lw_g := lw_gm (i := 449) (by decide +kernel) (by decide +kernel)
theorem q450 : (.methodLink "LivesAheadLaw" (40 : Nat) ({ cls := "LivesAhead", name := "trust", desc := "(II)I" } : Jvm.MethodName) : Cond) ∈ lw_g := lw_gm (i := 450) (by decide +kernel) (by decide +kernel)
theorem q451 : (.instanceMethod ({ cls := "LivesAhead", name := "trust", desc := "(II)I" } : Jvm.MethodName) : Cond) ∈ lw_g := lw_gm (i := 451) (by decide +kernel) (by decide +kernel)
theorem q452 : (.selects "LivesAhead" ({ cls := "LivesAhead", name := "trust", desc := "(II)I" } : Jvm.MethodName) ({ cls := "LivesAhead", name := "trust", desc := "(II)I" } : Jvm.MethodName) : Cond) ∈ lw_g := lw_gm (i := 452) (by decide +kernel) (by decide +kernel)
theorem q453 : (.code ({ cls := "LivesAhead", name := "trust", desc := "(II)I" } : Jvm.MethodName) prog_1_method_8_code (4 : Nat) (Option.some .int) : Cond) ∈ lw_g := lw_gm (i := 453) (by decide +kernel) (by decide +kernel)
theorem q454 : (.methodLink "LivesAhead" (131 : Nat) ({ cls := "LivesAhead$Desk", name := "trustOf", desc := "(I)I" } : Jvm.MethodName) : Cond) ∈ lw_g := lw_gm (i := 454) (by decide +kernel) (by decide +kernel)
theorem q455 : (.methodLink "LivesAhead" (134 : Nat) ({ cls := "LivesAhead$Desk", name := "changeTrust", desc := "(II)V" } : Jvm.MethodName) : Cond) ∈ lw_g := lw_gm (i := 455) (by decide +kernel) (by decide +kernel)
theorem q456 : (.instanceMethod ({ cls := "LivesAhead$Desk", name := "changeTrust", desc := "(II)V" } : Jvm.MethodName) : Cond) ∈ lw_g := lw_gm (i := 456) (by decide +kernel) (by decide +kernel)
theorem q457 : (.selects "LivesAhead$Desk" ({ cls := "LivesAhead$Desk", name := "changeTrust", desc := "(II)V" } : Jvm.MethodName) ({ cls := "LivesAhead$Desk", name := "changeTrust", desc := "(II)V" } : Jvm.MethodName) : Cond) ∈ lw_g := lw_gm (i := 457) (by decide +kernel) (by decide +kernel)
theorem q458 : (.code ({ cls := "LivesAhead$Desk", name := "changeTrust", desc := "(II)V" } : Jvm.MethodName) prog_2_method_15_code (3 : Nat) (Option.none : Option Jvm.ClassFile.FieldType) : Cond) ∈ lw_g := lw_gm (i := 458) (by decide +kernel) (by decide +kernel)
theorem q459 : (.methodLink "LivesAheadLaw" (44 : Nat) ({ cls := "LivesAhead", name := "set", desc := "(II)I" } : Jvm.MethodName) : Cond) ∈ lw_g := lw_gm (i := 459) (by decide +kernel) (by decide +kernel)
theorem q460 : (.instanceMethod ({ cls := "LivesAhead", name := "set", desc := "(II)I" } : Jvm.MethodName) : Cond) ∈ lw_g := lw_gm (i := 460) (by decide +kernel) (by decide +kernel)
theorem q461 : (.selects "LivesAhead" ({ cls := "LivesAhead", name := "set", desc := "(II)I" } : Jvm.MethodName) ({ cls := "LivesAhead", name := "set", desc := "(II)I" } : Jvm.MethodName) : Cond) ∈ lw_g := lw_gm (i := 461) (by decide +kernel) (by decide +kernel)
theorem q462 : (.code ({ cls := "LivesAhead", name := "set", desc := "(II)I" } : Jvm.MethodName) prog_1_method_9_code (4 : Nat) (Option.some .int) : Cond) ∈ lw_g := lw_gm (i := 462) (by decide +kernel) (by decide +kernel)
theorem q463 : (.methodLink "LivesAhead" (138 : Nat) ({ cls := "LivesAhead", name := "isSetting", desc := "(I)Z" } : Jvm.MethodName) : Cond) ∈ lw_g := lw_gm (i := 463) (by decide +kernel) (by decide +kernel)
theorem q464 : (.fieldLink "LivesAhead" (141 : Nat) "LivesAhead" "LEAST_OF_SETTING" "[I" : Cond) ∈ lw_g := lw_gm (i := 464) (by decide +kernel) (by decide +kernel)
theorem q466 : (.fieldLink "LivesAhead" (145 : Nat) "LivesAhead" "MOST_OF_SETTING" "[I" : Cond) ∈ lw_g := lw_gm (i := 466) (by decide +kernel) (by decide +kernel)
theorem q468 : (.methodLink "LivesAhead" (148 : Nat) ({ cls := "LivesAhead$Desk", name := "setting", desc := "(I)I" } : Jvm.MethodName) : Cond) ∈ lw_g := lw_gm (i := 468) (by decide +kernel) (by decide +kernel)
theorem q469 : (.methodLink "LivesAhead" (151 : Nat) ({ cls := "LivesAhead$Desk", name := "changeSetting", desc := "(II)V" } : Jvm.MethodName) : Cond) ∈ lw_g := lw_gm (i := 469) (by decide +kernel) (by decide +kernel)
theorem q470 : (.instanceMethod ({ cls := "LivesAhead$Desk", name := "changeSetting", desc := "(II)V" } : Jvm.MethodName) : Cond) ∈ lw_g := lw_gm (i := 470) (by decide +kernel) (by decide +kernel)
theorem q471 : (.selects "LivesAhead$Desk" ({ cls := "LivesAhead$Desk", name := "changeSetting", desc := "(II)V" } : Jvm.MethodName) ({ cls := "LivesAhead$Desk", name := "changeSetting", desc := "(II)V" } : Jvm.MethodName) : Cond) ∈ lw_g := lw_gm (i := 471) (by decide +kernel) (by decide +kernel)
theorem q472 : (.code ({ cls := "LivesAhead$Desk", name := "changeSetting", desc := "(II)V" } : Jvm.MethodName) prog_2_method_13_code (3 : Nat) (Option.none : Option Jvm.ClassFile.FieldType) : Cond) ∈ lw_g := lw_gm (i := 472) (by decide +kernel) (by decide +kernel)
theorem q473 : (.methodLink "LivesAheadLaw" (48 : Nat) ({ cls := "LivesAhead", name := "tellDeath", desc := "(II)I" } : Jvm.MethodName) : Cond) ∈ lw_g := lw_gm (i := 473) (by decide +kernel) (by decide +kernel)
theorem q474 : (.instanceMethod ({ cls := "LivesAhead", name := "tellDeath", desc := "(II)I" } : Jvm.MethodName) : Cond) ∈ lw_g := lw_gm (i := 474) (by decide +kernel) (by decide +kernel)
theorem q475 : (.selects "LivesAhead" ({ cls := "LivesAhead", name := "tellDeath", desc := "(II)I" } : Jvm.MethodName) ({ cls := "LivesAhead", name := "tellDeath", desc := "(II)I" } : Jvm.MethodName) : Cond) ∈ lw_g := lw_gm (i := 475) (by decide +kernel) (by decide +kernel)
theorem q476 : (.code ({ cls := "LivesAhead", name := "tellDeath", desc := "(II)I" } : Jvm.MethodName) prog_1_method_10_code (5 : Nat) (Option.some .int) : Cond) ∈ lw_g := lw_gm (i := 476) (by decide +kernel) (by decide +kernel)
theorem q477 : (.methodLink "LivesAhead" (154 : Nat) ({ cls := "LivesAhead$Life", name := "teller", desc := "()I" } : Jvm.MethodName) : Cond) ∈ lw_g := lw_gm (i := 477) (by decide +kernel) (by decide +kernel)
theorem q478 : (.instanceMethod ({ cls := "LivesAhead$Life", name := "teller", desc := "()I" } : Jvm.MethodName) : Cond) ∈ lw_g := lw_gm (i := 478) (by decide +kernel) (by decide +kernel)
theorem q479 : (.selects "LivesAhead$Life" ({ cls := "LivesAhead$Life", name := "teller", desc := "()I" } : Jvm.MethodName) ({ cls := "LivesAhead$Life", name := "teller", desc := "()I" } : Jvm.MethodName) : Cond) ∈ lw_g := lw_gm (i := 479) (by decide +kernel) (by decide +kernel)
theorem q480 : (.code ({ cls := "LivesAhead$Life", name := "teller", desc := "()I" } : Jvm.MethodName) prog_4_method_8_code (1 : Nat) (Option.some .int) : Cond) ∈ lw_g := lw_gm (i := 480) (by decide +kernel) (by decide +kernel)
theorem q481 : (.methodLink "LivesAhead" (157 : Nat) ({ cls := "LivesAhead$Life", name := "confirmDeath", desc := "(I)V" } : Jvm.MethodName) : Cond) ∈ lw_g := lw_gm (i := 481) (by decide +kernel) (by decide +kernel)
theorem q482 : (.instanceMethod ({ cls := "LivesAhead$Life", name := "confirmDeath", desc := "(I)V" } : Jvm.MethodName) : Cond) ∈ lw_g := lw_gm (i := 482) (by decide +kernel) (by decide +kernel)
theorem q483 : (.selects "LivesAhead$Life" ({ cls := "LivesAhead$Life", name := "confirmDeath", desc := "(I)V" } : Jvm.MethodName) ({ cls := "LivesAhead$Life", name := "confirmDeath", desc := "(I)V" } : Jvm.MethodName) : Cond) ∈ lw_g := lw_gm (i := 483) (by decide +kernel) (by decide +kernel)
theorem q484 : (.code ({ cls := "LivesAhead$Life", name := "confirmDeath", desc := "(I)V" } : Jvm.MethodName) prog_4_method_13_code (2 : Nat) (Option.none : Option Jvm.ClassFile.FieldType) : Cond) ∈ lw_g := lw_gm (i := 484) (by decide +kernel) (by decide +kernel)
theorem q485 : (.methodLink "LivesAhead" (160 : Nat) ({ cls := "LivesAhead$Life", name := "tellDead", desc := "(II)V" } : Jvm.MethodName) : Cond) ∈ lw_g := lw_gm (i := 485) (by decide +kernel) (by decide +kernel)
theorem q486 : (.instanceMethod ({ cls := "LivesAhead$Life", name := "tellDead", desc := "(II)V" } : Jvm.MethodName) : Cond) ∈ lw_g := lw_gm (i := 486) (by decide +kernel) (by decide +kernel)
theorem q487 : (.selects "LivesAhead$Life" ({ cls := "LivesAhead$Life", name := "tellDead", desc := "(II)V" } : Jvm.MethodName) ({ cls := "LivesAhead$Life", name := "tellDead", desc := "(II)V" } : Jvm.MethodName) : Cond) ∈ lw_g := lw_gm (i := 487) (by decide +kernel) (by decide +kernel)
theorem q488 : (.code ({ cls := "LivesAhead$Life", name := "tellDead", desc := "(II)V" } : Jvm.MethodName) prog_4_method_12_code (3 : Nat) (Option.none : Option Jvm.ClassFile.FieldType) : Cond) ∈ lw_g := lw_gm (i := 488) (by decide +kernel) (by decide +kernel)
theorem q489 : (.methodLink "LivesAheadLaw" (52 : Nat) ({ cls := "LivesAhead", name := "decide", desc := "(IZ)I" } : Jvm.MethodName) : Cond) ∈ lw_g := lw_gm (i := 489) (by decide +kernel) (by decide +kernel)
theorem q490 : (.instanceMethod ({ cls := "LivesAhead", name := "decide", desc := "(IZ)I" } : Jvm.MethodName) : Cond) ∈ lw_g := lw_gm (i := 490) (by decide +kernel) (by decide +kernel)
theorem q491 : (.selects "LivesAhead" ({ cls := "LivesAhead", name := "decide", desc := "(IZ)I" } : Jvm.MethodName) ({ cls := "LivesAhead", name := "decide", desc := "(IZ)I" } : Jvm.MethodName) : Cond) ∈ lw_g := lw_gm (i := 491) (by decide +kernel) (by decide +kernel)
theorem q492 : (.code ({ cls := "LivesAhead", name := "decide", desc := "(IZ)I" } : Jvm.MethodName) prog_1_method_11_code (4 : Nat) (Option.some .int) : Cond) ∈ lw_g := lw_gm (i := 492) (by decide +kernel) (by decide +kernel)
theorem q493 : (.methodLink "LivesAhead" (163 : Nat) ({ cls := "LivesAhead$Life", name := "takeBackDeath", desc := "()V" } : Jvm.MethodName) : Cond) ∈ lw_g := lw_gm (i := 493) (by decide +kernel) (by decide +kernel)
theorem q494 : (.methodLink "LivesAhead" (166 : Nat) ({ cls := "LivesAhead$Desk", name := "personsIn", desc := "(I)I" } : Jvm.MethodName) : Cond) ∈ lw_g := lw_gm (i := 494) (by decide +kernel) (by decide +kernel)
theorem q495 : (.instanceMethod ({ cls := "LivesAhead$Desk", name := "personsIn", desc := "(I)I" } : Jvm.MethodName) : Cond) ∈ lw_g := lw_gm (i := 495) (by decide +kernel) (by decide +kernel)
theorem q496 : (.selects "LivesAhead$Desk" ({ cls := "LivesAhead$Desk", name := "personsIn", desc := "(I)I" } : Jvm.MethodName) ({ cls := "LivesAhead$Desk", name := "personsIn", desc := "(I)I" } : Jvm.MethodName) : Cond) ∈ lw_g := lw_gm (i := 496) (by decide +kernel) (by decide +kernel)
theorem q497 : (.code ({ cls := "LivesAhead$Desk", name := "personsIn", desc := "(I)I" } : Jvm.MethodName) prog_2_method_17_code (5 : Nat) (Option.some .int) : Cond) ∈ lw_g := lw_gm (i := 497) (by decide +kernel) (by decide +kernel)
theorem q498 : (.methodLink "LivesAheadLaw" (57 : Nat) ({ cls := "LivesAhead", name := "print", desc := "()I" } : Jvm.MethodName) : Cond) ∈ lw_g := lw_gm (i := 498) (by decide +kernel) (by decide +kernel)
theorem q499 : (.instanceMethod ({ cls := "LivesAhead", name := "print", desc := "()I" } : Jvm.MethodName) : Cond) ∈ lw_g := lw_gm (i := 499) (by decide +kernel) (by decide +kernel)
theorem q500 : (.selects "LivesAhead" ({ cls := "LivesAhead", name := "print", desc := "()I" } : Jvm.MethodName) ({ cls := "LivesAhead", name := "print", desc := "()I" } : Jvm.MethodName) : Cond) ∈ lw_g := lw_gm (i := 500) (by decide +kernel) (by decide +kernel)
theorem q501 : (.code ({ cls := "LivesAhead", name := "print", desc := "()I" } : Jvm.MethodName) prog_1_method_12_code (3 : Nat) (Option.some .int) : Cond) ∈ lw_g := lw_gm (i := 501) (by decide +kernel) (by decide +kernel)
theorem q502 : (.methodLink "LivesAhead" (169 : Nat) ({ cls := "LivesAhead$Page", name := "lay", desc := "(LLivesAhead$Desk;)V" } : Jvm.MethodName) : Cond) ∈ lw_g := lw_gm (i := 502) (by decide +kernel) (by decide +kernel)
theorem q503 : (.instanceMethod ({ cls := "LivesAhead$Page", name := "lay", desc := "(LLivesAhead$Desk;)V" } : Jvm.MethodName) : Cond) ∈ lw_g := lw_gm (i := 503) (by decide +kernel) (by decide +kernel)
theorem q504 : (.selects "LivesAhead$Page" ({ cls := "LivesAhead$Page", name := "lay", desc := "(LLivesAhead$Desk;)V" } : Jvm.MethodName) ({ cls := "LivesAhead$Page", name := "lay", desc := "(LLivesAhead$Desk;)V" } : Jvm.MethodName) : Cond) ∈ lw_g := lw_gm (i := 504) (by decide +kernel) (by decide +kernel)
theorem q505 : (.code ({ cls := "LivesAhead$Page", name := "lay", desc := "(LLivesAhead$Desk;)V" } : Jvm.MethodName) prog_5_method_2_code (5 : Nat) (Option.none : Option Jvm.ClassFile.FieldType) : Cond) ∈ lw_g := lw_gm (i := 505) (by decide +kernel) (by decide +kernel)
theorem q506 : (.methodLink "LivesAhead$Page" (22 : Nat) ({ cls := "LivesAhead$Page", name := "queueDead", desc := "(LLivesAhead$Desk;)V" } : Jvm.MethodName) : Cond) ∈ lw_g := lw_gm (i := 506) (by decide +kernel) (by decide +kernel)
theorem q508 : (.instanceMethod ({ cls := "LivesAhead$Page", name := "queueDead", desc := "(LLivesAhead$Desk;)V" } : Jvm.MethodName) : Cond) ∈ lw_g := lw_gm (i := 508) (by decide +kernel) (by decide +kernel)
theorem q509 : (.code ({ cls := "LivesAhead$Page", name := "queueDead", desc := "(LLivesAhead$Desk;)V" } : Jvm.MethodName) prog_5_method_5_code (5 : Nat) (Option.none : Option Jvm.ClassFile.FieldType) : Cond) ∈ lw_g := lw_gm (i := 509) (by decide +kernel) (by decide +kernel)
theorem q510 : (.methodLink "LivesAhead$Page" (58 : Nat) ({ cls := "LivesAhead$Ranking", name := "clear", desc := "()V" } : Jvm.MethodName) : Cond) ∈ lw_g := lw_gm (i := 510) (by decide +kernel) (by decide +kernel)
theorem q511 : (.instanceMethod ({ cls := "LivesAhead$Ranking", name := "clear", desc := "()V" } : Jvm.MethodName) : Cond) ∈ lw_g := lw_gm (i := 511) (by decide +kernel) (by decide +kernel)
theorem q512 : (.selects "LivesAhead$Ranking" ({ cls := "LivesAhead$Ranking", name := "clear", desc := "()V" } : Jvm.MethodName) ({ cls := "LivesAhead$Ranking", name := "clear", desc := "()V" } : Jvm.MethodName) : Cond) ∈ lw_g := lw_gm (i := 512) (by decide +kernel) (by decide +kernel)
theorem q513 : (.code ({ cls := "LivesAhead$Ranking", name := "clear", desc := "()V" } : Jvm.MethodName) prog_7_method_2_code (1 : Nat) (Option.none : Option Jvm.ClassFile.FieldType) : Cond) ∈ lw_g := lw_gm (i := 513) (by decide +kernel) (by decide +kernel)
theorem q514 : (.methodLink "LivesAhead$Page" (61 : Nat) ({ cls := "LivesAhead$Desk", name := "persons", desc := "()I" } : Jvm.MethodName) : Cond) ∈ lw_g := lw_gm (i := 514) (by decide +kernel) (by decide +kernel)
theorem q515 : (.instanceMethod ({ cls := "LivesAhead$Desk", name := "persons", desc := "()I" } : Jvm.MethodName) : Cond) ∈ lw_g := lw_gm (i := 515) (by decide +kernel) (by decide +kernel)
theorem q516 : (.selects "LivesAhead$Desk" ({ cls := "LivesAhead$Desk", name := "persons", desc := "()I" } : Jvm.MethodName) ({ cls := "LivesAhead$Desk", name := "persons", desc := "()I" } : Jvm.MethodName) : Cond) ∈ lw_g := lw_gm (i := 516) (by decide +kernel) (by decide +kernel)
theorem q517 : (.code ({ cls := "LivesAhead$Desk", name := "persons", desc := "()I" } : Jvm.MethodName) prog_2_method_5_code (1 : Nat) (Option.some .int) : Cond) ∈ lw_g := lw_gm (i := 517) (by decide +kernel) (by decide +kernel)
theorem q518 : (.methodLink "LivesAhead$Page" (45 : Nat) ({ cls := "LivesAhead$Desk", name := "lifeOf", desc := "(I)LLivesAhead$Life;" } : Jvm.MethodName) : Cond) ∈ lw_g := lw_gm (i := 518) (by decide +kernel) (by decide +kernel)
theorem q519 : (.methodLink "LivesAhead$Page" (63 : Nat) ({ cls := "LivesAhead$Life", name := "isIn", desc := "(I)Z" } : Jvm.MethodName) : Cond) ∈ lw_g := lw_gm (i := 519) (by decide +kernel) (by decide +kernel)
theorem q520 : (.methodLink "LivesAhead$Page" (67 : Nat) ({ cls := "LivesAhead$Life", name := "deathDay", desc := "()I" } : Jvm.MethodName) : Cond) ∈ lw_g := lw_gm (i := 520) (by decide +kernel) (by decide +kernel)
theorem q521 : (.instanceMethod ({ cls := "LivesAhead$Life", name := "deathDay", desc := "()I" } : Jvm.MethodName) : Cond) ∈ lw_g := lw_gm (i := 521) (by decide +kernel) (by decide +kernel)
theorem q522 : (.selects "LivesAhead$Life" ({ cls := "LivesAhead$Life", name := "deathDay", desc := "()I" } : Jvm.MethodName) ({ cls := "LivesAhead$Life", name := "deathDay", desc := "()I" } : Jvm.MethodName) : Cond) ∈ lw_g := lw_gm (i := 522) (by decide +kernel) (by decide +kernel)
theorem q523 : (.code ({ cls := "LivesAhead$Life", name := "deathDay", desc := "()I" } : Jvm.MethodName) prog_4_method_9_code (1 : Nat) (Option.some .int) : Cond) ∈ lw_g := lw_gm (i := 523) (by decide +kernel) (by decide +kernel)
theorem q524 : (.methodLink "LivesAhead$Page" (70 : Nat) ({ cls := "LivesAhead$Life", name := "rank", desc := "()I" } : Jvm.MethodName) : Cond) ∈ lw_g := lw_gm (i := 524) (by decide +kernel) (by decide +kernel)
theorem q525 : (.methodLink "LivesAhead$Page" (73 : Nat) ({ cls := "LivesAhead$Ranking", name := "enter", desc := "(II)V" } : Jvm.MethodName) : Cond) ∈ lw_g := lw_gm (i := 525) (by decide +kernel) (by decide +kernel)
theorem q526 : (.instanceMethod ({ cls := "LivesAhead$Ranking", name := "enter", desc := "(II)V" } : Jvm.MethodName) : Cond) ∈ lw_g := lw_gm (i := 526) (by decide +kernel) (by decide +kernel)
theorem q527 : (.selects "LivesAhead$Ranking" ({ cls := "LivesAhead$Ranking", name := "enter", desc := "(II)V" } : Jvm.MethodName) ({ cls := "LivesAhead$Ranking", name := "enter", desc := "(II)V" } : Jvm.MethodName) : Cond) ∈ lw_g := lw_gm (i := 527) (by decide +kernel) (by decide +kernel)
theorem q528 : (.code ({ cls := "LivesAhead$Ranking", name := "enter", desc := "(II)V" } : Jvm.MethodName) prog_7_method_4_code (4 : Nat) (Option.none : Option Jvm.ClassFile.FieldType) : Cond) ∈ lw_g := lw_gm (i := 528) (by decide +kernel) (by decide +kernel)
theorem q529 : (.methodLink "LivesAhead$Page" (30 : Nat) ({ cls := "LivesAhead$Desk", name := "setting", desc := "(I)I" } : Jvm.MethodName) : Cond) ∈ lw_g := lw_gm (i := 529) (by decide +kernel) (by decide +kernel)
theorem q530 : (.methodLink "LivesAhead$Page" (39 : Nat) ({ cls := "LivesAhead$Ranking", name := "size", desc := "()I" } : Jvm.MethodName) : Cond) ∈ lw_g := lw_gm (i := 530) (by decide +kernel) (by decide +kernel)
theorem q531 : (.instanceMethod ({ cls := "LivesAhead$Ranking", name := "size", desc := "()I" } : Jvm.MethodName) : Cond) ∈ lw_g := lw_gm (i := 531) (by decide +kernel) (by decide +kernel)
theorem q532 : (.selects "LivesAhead$Ranking" ({ cls := "LivesAhead$Ranking", name := "size", desc := "()I" } : Jvm.MethodName) ({ cls := "LivesAhead$Ranking", name := "size", desc := "()I" } : Jvm.MethodName) : Cond) ∈ lw_g := lw_gm (i := 532) (by decide +kernel) (by decide +kernel)
theorem q533 : (.code ({ cls := "LivesAhead$Ranking", name := "size", desc := "()I" } : Jvm.MethodName) prog_7_method_3_code (1 : Nat) (Option.some .int) : Cond) ∈ lw_g := lw_gm (i := 533) (by decide +kernel) (by decide +kernel)
theorem q534 : (.methodLink "LivesAhead$Page" (42 : Nat) ({ cls := "LivesAhead$Ranking", name := "personAt", desc := "(I)I" } : Jvm.MethodName) : Cond) ∈ lw_g := lw_gm (i := 534) (by decide +kernel) (by decide +kernel)
theorem q535 : (.instanceMethod ({ cls := "LivesAhead$Ranking", name := "personAt", desc := "(I)I" } : Jvm.MethodName) : Cond) ∈ lw_g := lw_gm (i := 535) (by decide +kernel) (by decide +kernel)
theorem q536 : (.selects "LivesAhead$Ranking" ({ cls := "LivesAhead$Ranking", name := "personAt", desc := "(I)I" } : Jvm.MethodName) ({ cls := "LivesAhead$Ranking", name := "personAt", desc := "(I)I" } : Jvm.MethodName) : Cond) ∈ lw_g := lw_gm (i := 536) (by decide +kernel) (by decide +kernel)
theorem q537 : (.code ({ cls := "LivesAhead$Ranking", name := "personAt", desc := "(I)I" } : Jvm.MethodName) prog_7_method_5_code (2 : Nat) (Option.some .int) : Cond) ∈ lw_g := lw_gm (i := 537) (by decide +kernel) (by decide +kernel)
theorem q538 : (.methodLink "LivesAhead$Page" (49 : Nat) ({ cls := "LivesAhead$Desk", name := "couldPrint", desc := "(LLivesAhead$Life;)Z" } : Jvm.MethodName) : Cond) ∈ lw_g := lw_gm (i := 538) (by decide +kernel) (by decide +kernel)
theorem q539 : (.instanceMethod ({ cls := "LivesAhead$Desk", name := "couldPrint", desc := "(LLivesAhead$Life;)Z" } : Jvm.MethodName) : Cond) ∈ lw_g := lw_gm (i := 539) (by decide +kernel) (by decide +kernel)
theorem q540 : (.selects "LivesAhead$Desk" ({ cls := "LivesAhead$Desk", name := "couldPrint", desc := "(LLivesAhead$Life;)Z" } : Jvm.MethodName) ({ cls := "LivesAhead$Desk", name := "couldPrint", desc := "(LLivesAhead$Life;)Z" } : Jvm.MethodName) : Cond) ∈ lw_g := lw_gm (i := 540) (by decide +kernel) (by decide +kernel)
theorem q541 : (.code ({ cls := "LivesAhead$Desk", name := "couldPrint", desc := "(LLivesAhead$Life;)Z" } : Jvm.MethodName) prog_2_method_33_code (2 : Nat) (Option.some .boolean) : Cond) ∈ lw_g := lw_gm (i := 541) (by decide +kernel) (by decide +kernel)
theorem q542 : (.methodLink "LivesAhead$Desk" (139 : Nat) ({ cls := "LivesAhead$Life", name := "differentSources", desc := "()I" } : Jvm.MethodName) : Cond) ∈ lw_g := lw_gm (i := 542) (by decide +kernel) (by decide +kernel)
theorem q543 : (.instanceMethod ({ cls := "LivesAhead$Life", name := "differentSources", desc := "()I" } : Jvm.MethodName) : Cond) ∈ lw_g := lw_gm (i := 543) (by decide +kernel) (by decide +kernel)
theorem q544 : (.selects "LivesAhead$Life" ({ cls := "LivesAhead$Life", name := "differentSources", desc := "()I" } : Jvm.MethodName) ({ cls := "LivesAhead$Life", name := "differentSources", desc := "()I" } : Jvm.MethodName) : Cond) ∈ lw_g := lw_gm (i := 544) (by decide +kernel) (by decide +kernel)
theorem q545 : (.code ({ cls := "LivesAhead$Life", name := "differentSources", desc := "()I" } : Jvm.MethodName) prog_4_method_25_code (3 : Nat) (Option.some .int) : Cond) ∈ lw_g := lw_gm (i := 545) (by decide +kernel) (by decide +kernel)
theorem q546 : (.methodLink "LivesAhead$Life" (60 : Nat) ({ cls := "LivesAhead$Life", name := "sourceOf", desc := "(I)I" } : Jvm.MethodName) : Cond) ∈ lw_g := lw_gm (i := 546) (by decide +kernel) (by decide +kernel)
theorem q547 : (.methodLink "LivesAhead$Life" (63 : Nat) ({ cls := "java/lang/Integer", name := "bitCount", desc := "(I)I" } : Jvm.MethodName) : Cond) ∈ lw_g := lw_gm (i := 547) (by decide +kernel) (by decide +kernel)
theorem q548 : (.static ({ cls := "java/lang/Integer", name := "bitCount", desc := "(I)I" } : Jvm.MethodName) : Cond) ∈ lw_g := lw_gm (i := 548) (by decide +kernel) (by decide +kernel)
theorem q549 : (.code ({ cls := "java/lang/Integer", name := "bitCount", desc := "(I)I" } : Jvm.MethodName) prog_11_method_49_code (1 : Nat) (Option.some .int) : Cond) ∈ lw_g := lw_gm (i := 549) (by decide +kernel) (by decide +kernel)
theorem q550 : (.constant "java/lang/Integer" (265 : Nat) (1431655765 : Int32) : Cond) ∈ lw_g := lw_gm (i := 550) (by decide +kernel) (by decide +kernel)
theorem q551 : (.constant "java/lang/Integer" (266 : Nat) (858993459 : Int32) : Cond) ∈ lw_g := lw_gm (i := 551) (by decide +kernel) (by decide +kernel)
theorem q552 : (.constant "java/lang/Integer" (267 : Nat) (252645135 : Int32) : Cond) ∈ lw_g := lw_gm (i := 552) (by decide +kernel) (by decide +kernel)
theorem q553 : (.methodLink "LivesAhead$Page" (53 : Nat) ({ cls := "LivesAhead$Life", name := "length", desc := "()I" } : Jvm.MethodName) : Cond) ∈ lw_g := lw_gm (i := 553) (by decide +kernel) (by decide +kernel)
theorem q554 : (.instanceMethod ({ cls := "LivesAhead$Life", name := "length", desc := "()I" } : Jvm.MethodName) : Cond) ∈ lw_g := lw_gm (i := 554) (by decide +kernel) (by decide +kernel)
theorem q555 : (.selects "LivesAhead$Life" ({ cls := "LivesAhead$Life", name := "length", desc := "()I" } : Jvm.MethodName) ({ cls := "LivesAhead$Life", name := "length", desc := "()I" } : Jvm.MethodName) : Cond) ∈ lw_g := lw_gm (i := 555) (by decide +kernel) (by decide +kernel)
theorem q556 : (.code ({ cls := "LivesAhead$Life", name := "length", desc := "()I" } : Jvm.MethodName) prog_4_method_24_code (3 : Nat) (Option.some .int) : Cond) ∈ lw_g := lw_gm (i := 556) (by decide +kernel) (by decide +kernel)
theorem q557 : (.methodLink "LivesAhead$Life" (56 : Nat) ({ cls := "LivesAhead$Life", name := "linesOf", desc := "(I)I" } : Jvm.MethodName) : Cond) ∈ lw_g := lw_gm (i := 557) (by decide +kernel) (by decide +kernel)
theorem q558 : (.instanceMethod ({ cls := "LivesAhead$Life", name := "linesOf", desc := "(I)I" } : Jvm.MethodName) : Cond) ∈ lw_g := lw_gm (i := 558) (by decide +kernel) (by decide +kernel)
theorem q559 : (.selects "LivesAhead$Life" ({ cls := "LivesAhead$Life", name := "linesOf", desc := "(I)I" } : Jvm.MethodName) ({ cls := "LivesAhead$Life", name := "linesOf", desc := "(I)I" } : Jvm.MethodName) : Cond) ∈ lw_g := lw_gm (i := 559) (by decide +kernel) (by decide +kernel)
theorem q560 : (.code ({ cls := "LivesAhead$Life", name := "linesOf", desc := "(I)I" } : Jvm.MethodName) prog_4_method_18_code (2 : Nat) (Option.some .int) : Cond) ∈ lw_g := lw_gm (i := 560) (by decide +kernel) (by decide +kernel)
theorem q561 : (.methodLink "LivesAhead" (172 : Nat) ({ cls := "LivesAhead$Page", name := "size", desc := "()I" } : Jvm.MethodName) : Cond) ∈ lw_g := lw_gm (i := 561) (by decide +kernel) (by decide +kernel)
theorem q562 : (.instanceMethod ({ cls := "LivesAhead$Page", name := "size", desc := "()I" } : Jvm.MethodName) : Cond) ∈ lw_g := lw_gm (i := 562) (by decide +kernel) (by decide +kernel)
theorem q563 : (.selects "LivesAhead$Page" ({ cls := "LivesAhead$Page", name := "size", desc := "()I" } : Jvm.MethodName) ({ cls := "LivesAhead$Page", name := "size", desc := "()I" } : Jvm.MethodName) : Cond) ∈ lw_g := lw_gm (i := 563) (by decide +kernel) (by decide +kernel)
theorem q564 : (.code ({ cls := "LivesAhead$Page", name := "size", desc := "()I" } : Jvm.MethodName) prog_5_method_3_code (1 : Nat) (Option.some .int) : Cond) ∈ lw_g := lw_gm (i := 564) (by decide +kernel) (by decide +kernel)
theorem q565 : (.methodLink "LivesAhead" (173 : Nat) ({ cls := "LivesAhead$Page", name := "personAt", desc := "(I)I" } : Jvm.MethodName) : Cond) ∈ lw_g := lw_gm (i := 565) (by decide +kernel) (by decide +kernel)
theorem q566 : (.instanceMethod ({ cls := "LivesAhead$Page", name := "personAt", desc := "(I)I" } : Jvm.MethodName) : Cond) ∈ lw_g := lw_gm (i := 566) (by decide +kernel) (by decide +kernel)
theorem q567 : (.selects "LivesAhead$Page" ({ cls := "LivesAhead$Page", name := "personAt", desc := "(I)I" } : Jvm.MethodName) ({ cls := "LivesAhead$Page", name := "personAt", desc := "(I)I" } : Jvm.MethodName) : Cond) ∈ lw_g := lw_gm (i := 567) (by decide +kernel) (by decide +kernel)
theorem q568 : (.code ({ cls := "LivesAhead$Page", name := "personAt", desc := "(I)I" } : Jvm.MethodName) prog_5_method_6_code (2 : Nat) (Option.some .int) : Cond) ∈ lw_g := lw_gm (i := 568) (by decide +kernel) (by decide +kernel)
theorem q569 : (.methodLink "LivesAhead" (176 : Nat) ({ cls := "LivesAhead$Desk", name := "markPrinted", desc := "(I)V" } : Jvm.MethodName) : Cond) ∈ lw_g := lw_gm (i := 569) (by decide +kernel) (by decide +kernel)
theorem q570 : (.instanceMethod ({ cls := "LivesAhead$Desk", name := "markPrinted", desc := "(I)V" } : Jvm.MethodName) : Cond) ∈ lw_g := lw_gm (i := 570) (by decide +kernel) (by decide +kernel)
theorem q571 : (.selects "LivesAhead$Desk" ({ cls := "LivesAhead$Desk", name := "markPrinted", desc := "(I)V" } : Jvm.MethodName) ({ cls := "LivesAhead$Desk", name := "markPrinted", desc := "(I)V" } : Jvm.MethodName) : Cond) ∈ lw_g := lw_gm (i := 571) (by decide +kernel) (by decide +kernel)
theorem q572 : (.code ({ cls := "LivesAhead$Desk", name := "markPrinted", desc := "(I)V" } : Jvm.MethodName) prog_2_method_34_code (3 : Nat) (Option.none : Option Jvm.ClassFile.FieldType) : Cond) ∈ lw_g := lw_gm (i := 572) (by decide +kernel) (by decide +kernel)
theorem q573 : (.methodLink "LivesAhead$Desk" (142 : Nat) ({ cls := "LivesAhead$Life", name := "becomePrinted", desc := "(I)V" } : Jvm.MethodName) : Cond) ∈ lw_g := lw_gm (i := 573) (by decide +kernel) (by decide +kernel)
theorem q574 : (.instanceMethod ({ cls := "LivesAhead$Life", name := "becomePrinted", desc := "(I)V" } : Jvm.MethodName) : Cond) ∈ lw_g := lw_gm (i := 574) (by decide +kernel) (by decide +kernel)
theorem q575 : (.selects "LivesAhead$Life" ({ cls := "LivesAhead$Life", name := "becomePrinted", desc := "(I)V" } : Jvm.MethodName) ({ cls := "LivesAhead$Life", name := "becomePrinted", desc := "(I)V" } : Jvm.MethodName) : Cond) ∈ lw_g := lw_gm (i := 575) (by decide +kernel) (by decide +kernel)
theorem q576 : (.code ({ cls := "LivesAhead$Life", name := "becomePrinted", desc := "(I)V" } : Jvm.MethodName) prog_4_method_15_code (2 : Nat) (Option.none : Option Jvm.ClassFile.FieldType) : Cond) ∈ lw_g := lw_gm (i := 576) (by decide +kernel) (by decide +kernel)
theorem q577 : (.methodLink "LivesAhead" (179 : Nat) ({ cls := "LivesAhead$Desk", name := "takeBackOldDeaths", desc := "()V" } : Jvm.MethodName) : Cond) ∈ lw_g := lw_gm (i := 577) (by decide +kernel) (by decide +kernel)
theorem q578 : (.instanceMethod ({ cls := "LivesAhead$Desk", name := "takeBackOldDeaths", desc := "()V" } : Jvm.MethodName) : Cond) ∈ lw_g := lw_gm (i := 578) (by decide +kernel) (by decide +kernel)
theorem q579 : (.selects "LivesAhead$Desk" ({ cls := "LivesAhead$Desk", name := "takeBackOldDeaths", desc := "()V" } : Jvm.MethodName) ({ cls := "LivesAhead$Desk", name := "takeBackOldDeaths", desc := "()V" } : Jvm.MethodName) : Cond) ∈ lw_g := lw_gm (i := 579) (by decide +kernel) (by decide +kernel)
theorem q580 : (.code ({ cls := "LivesAhead$Desk", name := "takeBackOldDeaths", desc := "()V" } : Jvm.MethodName) prog_2_method_35_code (3 : Nat) (Option.none : Option Jvm.ClassFile.FieldType) : Cond) ∈ lw_g := lw_gm (i := 580) (by decide +kernel) (by decide +kernel)
theorem q581 : (.methodLink "LivesAhead$Desk" (145 : Nat) ({ cls := "LivesAhead$Life", name := "deathDay", desc := "()I" } : Jvm.MethodName) : Cond) ∈ lw_g := lw_gm (i := 581) (by decide +kernel) (by decide +kernel)
theorem q582 : (.methodLink "LivesAhead$Desk" (148 : Nat) ({ cls := "LivesAhead$Life", name := "takeBackDeath", desc := "()V" } : Jvm.MethodName) : Cond) ∈ lw_g := lw_gm (i := 582) (by decide +kernel) (by decide +kernel)
theorem q583 : (.methodLink "LivesAhead" (182 : Nat) ({ cls := "LivesAhead$Desk", name := "beginNextDay", desc := "()V" } : Jvm.MethodName) : Cond) ∈ lw_g := lw_gm (i := 583) (by decide +kernel) (by decide +kernel)
theorem q584 : (.instanceMethod ({ cls := "LivesAhead$Desk", name := "beginNextDay", desc := "()V" } : Jvm.MethodName) : Cond) ∈ lw_g := lw_gm (i := 584) (by decide +kernel) (by decide +kernel)
theorem q585 : (.selects "LivesAhead$Desk" ({ cls := "LivesAhead$Desk", name := "beginNextDay", desc := "()V" } : Jvm.MethodName) ({ cls := "LivesAhead$Desk", name := "beginNextDay", desc := "()V" } : Jvm.MethodName) : Cond) ∈ lw_g := lw_gm (i := 585) (by decide +kernel) (by decide +kernel)
theorem q586 : (.code ({ cls := "LivesAhead$Desk", name := "beginNextDay", desc := "()V" } : Jvm.MethodName) prog_2_method_36_code (1 : Nat) (Option.none : Option Jvm.ClassFile.FieldType) : Cond) ∈ lw_g := lw_gm (i := 586) (by decide +kernel) (by decide +kernel)
theorem q587 : (.methodLink "LivesAheadLaw" (61 : Nat) ({ cls := "LivesAhead", name := "correct", desc := "(III)I" } : Jvm.MethodName) : Cond) ∈ lw_g := lw_gm (i := 587) (by decide +kernel) (by decide +kernel)
theorem q588 : (.instanceMethod ({ cls := "LivesAhead", name := "correct", desc := "(III)I" } : Jvm.MethodName) : Cond) ∈ lw_g := lw_gm (i := 588) (by decide +kernel) (by decide +kernel)
theorem q589 : (.selects "LivesAhead" ({ cls := "LivesAhead", name := "correct", desc := "(III)I" } : Jvm.MethodName) ({ cls := "LivesAhead", name := "correct", desc := "(III)I" } : Jvm.MethodName) : Cond) ∈ lw_g := lw_gm (i := 589) (by decide +kernel) (by decide +kernel)
theorem q590 : (.code ({ cls := "LivesAhead", name := "correct", desc := "(III)I" } : Jvm.MethodName) prog_1_method_13_code (5 : Nat) (Option.some .int) : Cond) ∈ lw_g := lw_gm (i := 590) (by decide +kernel) (by decide +kernel)
theorem q591 : (.methodLink "LivesAhead" (185 : Nat) ({ cls := "LivesAhead$Life", name := "sourceOf", desc := "(I)I" } : Jvm.MethodName) : Cond) ∈ lw_g := lw_gm (i := 591) (by decide +kernel) (by decide +kernel)
theorem q592 : (.methodLink "LivesAhead" (188 : Nat) ({ cls := "LivesAhead$Life", name := "changeSource", desc := "(II)V" } : Jvm.MethodName) : Cond) ∈ lw_g := lw_gm (i := 592) (by decide +kernel) (by decide +kernel)
theorem q593 : (.instanceMethod ({ cls := "LivesAhead$Life", name := "changeSource", desc := "(II)V" } : Jvm.MethodName) : Cond) ∈ lw_g := lw_gm (i := 593) (by decide +kernel) (by decide +kernel)
theorem q594 : (.selects "LivesAhead$Life" ({ cls := "LivesAhead$Life", name := "changeSource", desc := "(II)V" } : Jvm.MethodName) ({ cls := "LivesAhead$Life", name := "changeSource", desc := "(II)V" } : Jvm.MethodName) : Cond) ∈ lw_g := lw_gm (i := 594) (by decide +kernel) (by decide +kernel)
theorem q595 : (.code ({ cls := "LivesAhead$Life", name := "changeSource", desc := "(II)V" } : Jvm.MethodName) prog_4_method_22_code (3 : Nat) (Option.none : Option Jvm.ClassFile.FieldType) : Cond) ∈ lw_g := lw_gm (i := 595) (by decide +kernel) (by decide +kernel)
theorem q596 : (.methodLink "LivesAhead" (191 : Nat) ({ cls := "LivesAhead$Desk", name := "countCorrection", desc := "()I" } : Jvm.MethodName) : Cond) ∈ lw_g := lw_gm (i := 596) (by decide +kernel) (by decide +kernel)
theorem q597 : (.instanceMethod ({ cls := "LivesAhead$Desk", name := "countCorrection", desc := "()I" } : Jvm.MethodName) : Cond) ∈ lw_g := lw_gm (i := 597) (by decide +kernel) (by decide +kernel)
theorem q598 : (.selects "LivesAhead$Desk" ({ cls := "LivesAhead$Desk", name := "countCorrection", desc := "()I" } : Jvm.MethodName) ({ cls := "LivesAhead$Desk", name := "countCorrection", desc := "()I" } : Jvm.MethodName) : Cond) ∈ lw_g := lw_gm (i := 598) (by decide +kernel) (by decide +kernel)
theorem q599 : (.code ({ cls := "LivesAhead$Desk", name := "countCorrection", desc := "()I" } : Jvm.MethodName) prog_2_method_16_code (1 : Nat) (Option.some .int) : Cond) ∈ lw_g := lw_gm (i := 599) (by decide +kernel) (by decide +kernel)
theorem q600 : (.methodLink "LivesAheadLaw" (65 : Nat) ({ cls := "LivesAhead", name := "type", desc := "(C)I" } : Jvm.MethodName) : Cond) ∈ lw_g := lw_gm (i := 600) (by decide +kernel) (by decide +kernel)
theorem q601 : (.instanceMethod ({ cls := "LivesAhead", name := "type", desc := "(C)I" } : Jvm.MethodName) : Cond) ∈ lw_g := lw_gm (i := 601) (by decide +kernel) (by decide +kernel)
theorem q602 : (.selects "LivesAhead" ({ cls := "LivesAhead", name := "type", desc := "(C)I" } : Jvm.MethodName) ({ cls := "LivesAhead", name := "type", desc := "(C)I" } : Jvm.MethodName) : Cond) ∈ lw_g := lw_gm (i := 602) (by decide +kernel) (by decide +kernel)
theorem q603 : (.code ({ cls := "LivesAhead", name := "type", desc := "(C)I" } : Jvm.MethodName) prog_1_method_14_code (2 : Nat) (Option.some .int) : Cond) ∈ lw_g := lw_gm (i := 603) (by decide +kernel) (by decide +kernel)
theorem q604 : (.methodLink "LivesAhead" (194 : Nat) ({ cls := "LivesAhead$PersonsText", name := "append", desc := "(C)Z" } : Jvm.MethodName) : Cond) ∈ lw_g := lw_gm (i := 604) (by decide +kernel) (by decide +kernel)
theorem q605 : (.instanceMethod ({ cls := "LivesAhead$PersonsText", name := "append", desc := "(C)Z" } : Jvm.MethodName) : Cond) ∈ lw_g := lw_gm (i := 605) (by decide +kernel) (by decide +kernel)
theorem q606 : (.selects "LivesAhead$PersonsText" ({ cls := "LivesAhead$PersonsText", name := "append", desc := "(C)Z" } : Jvm.MethodName) ({ cls := "LivesAhead$PersonsText", name := "append", desc := "(C)Z" } : Jvm.MethodName) : Cond) ∈ lw_g := lw_gm (i := 606) (by decide +kernel) (by decide +kernel)
theorem q607 : (.code ({ cls := "LivesAhead$PersonsText", name := "append", desc := "(C)Z" } : Jvm.MethodName) prog_6_method_3_code (2 : Nat) (Option.some .boolean) : Cond) ∈ lw_g := lw_gm (i := 607) (by decide +kernel) (by decide +kernel)
theorem q608 : (.methodLink "LivesAhead" (198 : Nat) ({ cls := "LivesAhead$PersonsText", name := "length", desc := "()I" } : Jvm.MethodName) : Cond) ∈ lw_g := lw_gm (i := 608) (by decide +kernel) (by decide +kernel)
theorem q609 : (.instanceMethod ({ cls := "LivesAhead$PersonsText", name := "length", desc := "()I" } : Jvm.MethodName) : Cond) ∈ lw_g := lw_gm (i := 609) (by decide +kernel) (by decide +kernel)
theorem q610 : (.selects "LivesAhead$PersonsText" ({ cls := "LivesAhead$PersonsText", name := "length", desc := "()I" } : Jvm.MethodName) ({ cls := "LivesAhead$PersonsText", name := "length", desc := "()I" } : Jvm.MethodName) : Cond) ∈ lw_g := lw_gm (i := 610) (by decide +kernel) (by decide +kernel)
theorem q611 : (.code ({ cls := "LivesAhead$PersonsText", name := "length", desc := "()I" } : Jvm.MethodName) prog_6_method_2_code (1 : Nat) (Option.some .int) : Cond) ∈ lw_g := lw_gm (i := 611) (by decide +kernel) (by decide +kernel)
theorem q612 : (.methodLink "LivesAheadLaw" (70 : Nat) ({ cls := "LivesAhead", name := "clearText", desc := "()I" } : Jvm.MethodName) : Cond) ∈ lw_g := lw_gm (i := 612) (by decide +kernel) (by decide +kernel)
theorem q613 : (.instanceMethod ({ cls := "LivesAhead", name := "clearText", desc := "()I" } : Jvm.MethodName) : Cond) ∈ lw_g := lw_gm (i := 613) (by decide +kernel) (by decide +kernel)
theorem q614 : (.selects "LivesAhead" ({ cls := "LivesAhead", name := "clearText", desc := "()I" } : Jvm.MethodName) ({ cls := "LivesAhead", name := "clearText", desc := "()I" } : Jvm.MethodName) : Cond) ∈ lw_g := lw_gm (i := 614) (by decide +kernel) (by decide +kernel)
theorem q615 : (.code ({ cls := "LivesAhead", name := "clearText", desc := "()I" } : Jvm.MethodName) prog_1_method_15_code (2 : Nat) (Option.some .int) : Cond) ∈ lw_g := lw_gm (i := 615) (by decide +kernel) (by decide +kernel)
theorem q616 : (.methodLink "LivesAhead" (201 : Nat) ({ cls := "LivesAhead$PersonsText", name := "clear", desc := "()V" } : Jvm.MethodName) : Cond) ∈ lw_g := lw_gm (i := 616) (by decide +kernel) (by decide +kernel)
theorem q617 : (.instanceMethod ({ cls := "LivesAhead$PersonsText", name := "clear", desc := "()V" } : Jvm.MethodName) : Cond) ∈ lw_g := lw_gm (i := 617) (by decide +kernel) (by decide +kernel)
theorem q618 : (.selects "LivesAhead$PersonsText" ({ cls := "LivesAhead$PersonsText", name := "clear", desc := "()V" } : Jvm.MethodName) ({ cls := "LivesAhead$PersonsText", name := "clear", desc := "()V" } : Jvm.MethodName) : Cond) ∈ lw_g := lw_gm (i := 618) (by decide +kernel) (by decide +kernel)
theorem q619 : (.code ({ cls := "LivesAhead$PersonsText", name := "clear", desc := "()V" } : Jvm.MethodName) prog_6_method_4_code (1 : Nat) (Option.none : Option Jvm.ClassFile.FieldType) : Cond) ∈ lw_g := lw_gm (i := 619) (by decide +kernel) (by decide +kernel)
theorem q620 : (.methodLink "LivesAheadLaw" (74 : Nat) ({ cls := "LivesAhead", name := "undo", desc := "()I" } : Jvm.MethodName) : Cond) ∈ lw_g := lw_gm (i := 620) (by decide +kernel) (by decide +kernel)
theorem q621 : (.instanceMethod ({ cls := "LivesAhead", name := "undo", desc := "()I" } : Jvm.MethodName) : Cond) ∈ lw_g := lw_gm (i := 621) (by decide +kernel) (by decide +kernel)
theorem q622 : (.selects "LivesAhead" ({ cls := "LivesAhead", name := "undo", desc := "()I" } : Jvm.MethodName) ({ cls := "LivesAhead", name := "undo", desc := "()I" } : Jvm.MethodName) : Cond) ∈ lw_g := lw_gm (i := 622) (by decide +kernel) (by decide +kernel)
theorem q623 : (.code ({ cls := "LivesAhead", name := "undo", desc := "()I" } : Jvm.MethodName) prog_1_method_16_code (1 : Nat) (Option.some .int) : Cond) ∈ lw_g := lw_gm (i := 623) (by decide +kernel) (by decide +kernel)
theorem q624 : (.methodLink "LivesAhead" (204 : Nat) ({ cls := "LivesAhead$History", name := "size", desc := "()I" } : Jvm.MethodName) : Cond) ∈ lw_g := lw_gm (i := 624) (by decide +kernel) (by decide +kernel)
theorem q625 : (.instanceMethod ({ cls := "LivesAhead$History", name := "size", desc := "()I" } : Jvm.MethodName) : Cond) ∈ lw_g := lw_gm (i := 625) (by decide +kernel) (by decide +kernel)
theorem q626 : (.selects "LivesAhead$History" ({ cls := "LivesAhead$History", name := "size", desc := "()I" } : Jvm.MethodName) ({ cls := "LivesAhead$History", name := "size", desc := "()I" } : Jvm.MethodName) : Cond) ∈ lw_g := lw_gm (i := 626) (by decide +kernel) (by decide +kernel)
theorem q627 : (.code ({ cls := "LivesAhead$History", name := "size", desc := "()I" } : Jvm.MethodName) prog_3_method_2_code (1 : Nat) (Option.some .int) : Cond) ∈ lw_g := lw_gm (i := 627) (by decide +kernel) (by decide +kernel)
theorem q628 : (.methodLink "LivesAhead" (205 : Nat) ({ cls := "LivesAhead$History", name := "takeLatest", desc := "(LLivesAhead$Desk;)V" } : Jvm.MethodName) : Cond) ∈ lw_g := lw_gm (i := 628) (by decide +kernel) (by decide +kernel)
theorem q629 : (.instanceMethod ({ cls := "LivesAhead$History", name := "takeLatest", desc := "(LLivesAhead$Desk;)V" } : Jvm.MethodName) : Cond) ∈ lw_g := lw_gm (i := 629) (by decide +kernel) (by decide +kernel)
theorem q630 : (.selects "LivesAhead$History" ({ cls := "LivesAhead$History", name := "takeLatest", desc := "(LLivesAhead$Desk;)V" } : Jvm.MethodName) ({ cls := "LivesAhead$History", name := "takeLatest", desc := "(LLivesAhead$Desk;)V" } : Jvm.MethodName) : Cond) ∈ lw_g := lw_gm (i := 630) (by decide +kernel) (by decide +kernel)
theorem q631 : (.code ({ cls := "LivesAhead$History", name := "takeLatest", desc := "(LLivesAhead$Desk;)V" } : Jvm.MethodName) prog_3_method_4_code (3 : Nat) (Option.none : Option Jvm.ClassFile.FieldType) : Cond) ∈ lw_g := lw_gm (i := 631) (by decide +kernel) (by decide +kernel)
theorem q632 : (.methodLink "LivesAheadLaw" (78 : Nat) ({ cls := "LivesAhead", name := "keep", desc := "()I" } : Jvm.MethodName) : Cond) ∈ lw_g := lw_gm (i := 632) (by decide +kernel) (by decide +kernel)
theorem q633 : (.instanceMethod ({ cls := "LivesAhead", name := "keep", desc := "()I" } : Jvm.MethodName) : Cond) ∈ lw_g := lw_gm (i := 633) (by decide +kernel) (by decide +kernel)
theorem q634 : (.selects "LivesAhead" ({ cls := "LivesAhead", name := "keep", desc := "()I" } : Jvm.MethodName) ({ cls := "LivesAhead", name := "keep", desc := "()I" } : Jvm.MethodName) : Cond) ∈ lw_g := lw_gm (i := 634) (by decide +kernel) (by decide +kernel)
theorem q635 : (.code ({ cls := "LivesAhead", name := "keep", desc := "()I" } : Jvm.MethodName) prog_1_method_17_code (1 : Nat) (Option.some .int) : Cond) ∈ lw_g := lw_gm (i := 635) (by decide +kernel) (by decide +kernel)
theorem q636 : (.methodLink "LivesAhead" (208 : Nat) ({ cls := "LivesAhead$Desk", name := "copyFrom", desc := "(LLivesAhead$Desk;)V" } : Jvm.MethodName) : Cond) ∈ lw_g := lw_gm (i := 636) (by decide +kernel) (by decide +kernel)
theorem q637 : (.methodLink "LivesAheadLaw" (82 : Nat) ({ cls := "LivesAhead", name := "restore", desc := "()I" } : Jvm.MethodName) : Cond) ∈ lw_g := lw_gm (i := 637) (by decide +kernel) (by decide +kernel)
theorem q638 : (.instanceMethod ({ cls := "LivesAhead", name := "restore", desc := "()I" } : Jvm.MethodName) : Cond) ∈ lw_g := lw_gm (i := 638) (by decide +kernel) (by decide +kernel)
theorem q639 : (.selects "LivesAhead" ({ cls := "LivesAhead", name := "restore", desc := "()I" } : Jvm.MethodName) ({ cls := "LivesAhead", name := "restore", desc := "()I" } : Jvm.MethodName) : Cond) ∈ lw_g := lw_gm (i := 639) (by decide +kernel) (by decide +kernel)
theorem q640 : (.code ({ cls := "LivesAhead", name := "restore", desc := "()I" } : Jvm.MethodName) prog_1_method_18_code (1 : Nat) (Option.some .int) : Cond) ∈ lw_g := lw_gm (i := 640) (by decide +kernel) (by decide +kernel)
theorem q641 : (.methodLink "LivesAheadLaw" (86 : Nat) ({ cls := "LivesAhead", name := "person", desc := "(II)I" } : Jvm.MethodName) : Cond) ∈ lw_g := lw_gm (i := 641) (by decide +kernel) (by decide +kernel)
theorem q642 : (.instanceMethod ({ cls := "LivesAhead", name := "person", desc := "(II)I" } : Jvm.MethodName) : Cond) ∈ lw_g := lw_gm (i := 642) (by decide +kernel) (by decide +kernel)
theorem q643 : (.selects "LivesAhead" ({ cls := "LivesAhead", name := "person", desc := "(II)I" } : Jvm.MethodName) ({ cls := "LivesAhead", name := "person", desc := "(II)I" } : Jvm.MethodName) : Cond) ∈ lw_g := lw_gm (i := 643) (by decide +kernel) (by decide +kernel)
theorem q644 : (.code ({ cls := "LivesAhead", name := "person", desc := "(II)I" } : Jvm.MethodName) prog_1_method_19_code (4 : Nat) (Option.some .int) : Cond) ∈ lw_g := lw_gm (i := 644) (by decide +kernel) (by decide +kernel)
theorem q645 : (.methodLink "LivesAhead" (215 : Nat) ({ cls := "LivesAhead$Life", name := "age", desc := "()I" } : Jvm.MethodName) : Cond) ∈ lw_g := lw_gm (i := 645) (by decide +kernel) (by decide +kernel)
theorem q646 : (.methodLink "LivesAhead" (218 : Nat) ({ cls := "LivesAhead$Life", name := "rank", desc := "()I" } : Jvm.MethodName) : Cond) ∈ lw_g := lw_gm (i := 646) (by decide +kernel) (by decide +kernel)
theorem q647 : (.methodLink "LivesAhead" (221 : Nat) ({ cls := "LivesAhead$Life", name := "state", desc := "()I" } : Jvm.MethodName) : Cond) ∈ lw_g := lw_gm (i := 647) (by decide +kernel) (by decide +kernel)
theorem q648 : (.instanceMethod ({ cls := "LivesAhead$Life", name := "state", desc := "()I" } : Jvm.MethodName) : Cond) ∈ lw_g := lw_gm (i := 648) (by decide +kernel) (by decide +kernel)
theorem q649 : (.selects "LivesAhead$Life" ({ cls := "LivesAhead$Life", name := "state", desc := "()I" } : Jvm.MethodName) ({ cls := "LivesAhead$Life", name := "state", desc := "()I" } : Jvm.MethodName) : Cond) ∈ lw_g := lw_gm (i := 649) (by decide +kernel) (by decide +kernel)
theorem q650 : (.code ({ cls := "LivesAhead$Life", name := "state", desc := "()I" } : Jvm.MethodName) prog_4_method_6_code (1 : Nat) (Option.some .int) : Cond) ∈ lw_g := lw_gm (i := 650) (by decide +kernel) (by decide +kernel)
theorem q651 : (.methodLink "LivesAhead" (224 : Nat) ({ cls := "LivesAhead$Life", name := "length", desc := "()I" } : Jvm.MethodName) : Cond) ∈ lw_g := lw_gm (i := 651) (by decide +kernel) (by decide +kernel)
theorem q652 : (.methodLink "LivesAhead" (225 : Nat) ({ cls := "LivesAhead$Desk", name := "staleFactsOf", desc := "(LLivesAhead$Life;I)I" } : Jvm.MethodName) : Cond) ∈ lw_g := lw_gm (i := 652) (by decide +kernel) (by decide +kernel)
theorem q653 : (.methodLink "LivesAhead" (229 : Nat) ({ cls := "LivesAhead$Life", name := "differentSources", desc := "()I" } : Jvm.MethodName) : Cond) ∈ lw_g := lw_gm (i := 653) (by decide +kernel) (by decide +kernel)
theorem q654 : (.methodLink "LivesAhead" (232 : Nat) ({ cls := "LivesAhead$Desk", name := "urgencyOf", desc := "(LLivesAhead$Life;)I" } : Jvm.MethodName) : Cond) ∈ lw_g := lw_gm (i := 654) (by decide +kernel) (by decide +kernel)
theorem q655 : (.methodLink "LivesAhead" (235 : Nat) ({ cls := "LivesAhead$Life", name := "deathDay", desc := "()I" } : Jvm.MethodName) : Cond) ∈ lw_g := lw_gm (i := 655) (by decide +kernel) (by decide +kernel)
theorem q656 : (.methodLink "LivesAhead" (238 : Nat) ({ cls := "LivesAhead$Life", name := "printDay", desc := "()I" } : Jvm.MethodName) : Cond) ∈ lw_g := lw_gm (i := 656) (by decide +kernel) (by decide +kernel)
theorem q657 : (.instanceMethod ({ cls := "LivesAhead$Life", name := "printDay", desc := "()I" } : Jvm.MethodName) : Cond) ∈ lw_g := lw_gm (i := 657) (by decide +kernel) (by decide +kernel)
theorem q658 : (.selects "LivesAhead$Life" ({ cls := "LivesAhead$Life", name := "printDay", desc := "()I" } : Jvm.MethodName) ({ cls := "LivesAhead$Life", name := "printDay", desc := "()I" } : Jvm.MethodName) : Cond) ∈ lw_g := lw_gm (i := 658) (by decide +kernel) (by decide +kernel)
theorem q659 : (.code ({ cls := "LivesAhead$Life", name := "printDay", desc := "()I" } : Jvm.MethodName) prog_4_method_10_code (1 : Nat) (Option.some .int) : Cond) ∈ lw_g := lw_gm (i := 659) (by decide +kernel) (by decide +kernel)
theorem q660 : (.methodLink "LivesAhead" (241 : Nat) ({ cls := "LivesAhead$Desk", name := "couldPrint", desc := "(LLivesAhead$Life;)Z" } : Jvm.MethodName) : Cond) ∈ lw_g := lw_gm (i := 660) (by decide +kernel) (by decide +kernel)
theorem q661 : (.methodLink "LivesAheadLaw" (90 : Nat) ({ cls := "LivesAhead", name := "fact", desc := "(III)I" } : Jvm.MethodName) : Cond) ∈ lw_g := lw_gm (i := 661) (by decide +kernel) (by decide +kernel)
theorem q662 : (.instanceMethod ({ cls := "LivesAhead", name := "fact", desc := "(III)I" } : Jvm.MethodName) : Cond) ∈ lw_g := lw_gm (i := 662) (by decide +kernel) (by decide +kernel)
theorem q663 : (.selects "LivesAhead" ({ cls := "LivesAhead", name := "fact", desc := "(III)I" } : Jvm.MethodName) ({ cls := "LivesAhead", name := "fact", desc := "(III)I" } : Jvm.MethodName) : Cond) ∈ lw_g := lw_gm (i := 663) (by decide +kernel) (by decide +kernel)
theorem q664 : (.code ({ cls := "LivesAhead", name := "fact", desc := "(III)I" } : Jvm.MethodName) prog_1_method_20_code (5 : Nat) (Option.some .int) : Cond) ∈ lw_g := lw_gm (i := 664) (by decide +kernel) (by decide +kernel)
theorem q665 : (.methodLink "LivesAhead" (245 : Nat) ({ cls := "LivesAhead$Life", name := "linesOf", desc := "(I)I" } : Jvm.MethodName) : Cond) ∈ lw_g := lw_gm (i := 665) (by decide +kernel) (by decide +kernel)
theorem q666 : (.methodLink "LivesAhead" (248 : Nat) ({ cls := "LivesAhead$Desk", name := "isStale", desc := "(LLivesAhead$Life;I)Z" } : Jvm.MethodName) : Cond) ∈ lw_g := lw_gm (i := 666) (by decide +kernel) (by decide +kernel)
theorem q667 : (.methodLink "LivesAhead" (252 : Nat) ({ cls := "LivesAhead$Desk", name := "worthOf", desc := "(LLivesAhead$Life;II)F" } : Jvm.MethodName) : Cond) ∈ lw_g := lw_gm (i := 667) (by decide +kernel) (by decide +kernel)
theorem q668 : (.methodLink "LivesAhead" (256 : Nat) ({ cls := "LivesAhead", name := "bitsOf", desc := "(F)I" } : Jvm.MethodName) : Cond) ∈ lw_g := lw_gm (i := 668) (by decide +kernel) (by decide +kernel)
theorem q669 : (.static ({ cls := "LivesAhead", name := "bitsOf", desc := "(F)I" } : Jvm.MethodName) : Cond) ∈ lw_g := lw_gm (i := 669) (by decide +kernel) (by decide +kernel)
theorem q670 : (.code ({ cls := "LivesAhead", name := "bitsOf", desc := "(F)I" } : Jvm.MethodName) prog_1_method_30_code (3 : Nat) (Option.some .int) : Cond) ∈ lw_g := lw_gm (i := 670) (by decide +kernel) (by decide +kernel)
theorem q671 : (.constantFloat "LivesAhead" (294 : Nat) (1258291200 : UInt32) : Cond) ∈ lw_g := lw_gm (i := 671) (by decide +kernel) (by decide +kernel)
theorem q672 : (.methodLink "LivesAheadLaw" (94 : Nat) ({ cls := "LivesAhead", name := "worth", desc := "(I)F" } : Jvm.MethodName) : Cond) ∈ lw_g := lw_gm (i := 672) (by decide +kernel) (by decide +kernel)
theorem q673 : (.instanceMethod ({ cls := "LivesAhead", name := "worth", desc := "(I)F" } : Jvm.MethodName) : Cond) ∈ lw_g := lw_gm (i := 673) (by decide +kernel) (by decide +kernel)
theorem q674 : (.selects "LivesAhead" ({ cls := "LivesAhead", name := "worth", desc := "(I)F" } : Jvm.MethodName) ({ cls := "LivesAhead", name := "worth", desc := "(I)F" } : Jvm.MethodName) : Cond) ∈ lw_g := lw_gm (i := 674) (by decide +kernel) (by decide +kernel)
theorem q675 : (.code ({ cls := "LivesAhead", name := "worth", desc := "(I)F" } : Jvm.MethodName) prog_1_method_21_code (3 : Nat) (Option.some .float) : Cond) ∈ lw_g := lw_gm (i := 675) (by decide +kernel) (by decide +kernel)
theorem q676 : (.constantFloat "LivesAhead" (260 : Nat) (3212836864 : UInt32) : Cond) ∈ lw_g := lw_gm (i := 676) (by decide +kernel) (by decide +kernel)
theorem q677 : (.methodLink "LivesAhead" (261 : Nat) ({ cls := "LivesAhead$Desk", name := "worthOfLife", desc := "(LLivesAhead$Life;)F" } : Jvm.MethodName) : Cond) ∈ lw_g := lw_gm (i := 677) (by decide +kernel) (by decide +kernel)
theorem q678 : (.instanceMethod ({ cls := "LivesAhead$Desk", name := "worthOfLife", desc := "(LLivesAhead$Life;)F" } : Jvm.MethodName) : Cond) ∈ lw_g := lw_gm (i := 678) (by decide +kernel) (by decide +kernel)
theorem q679 : (.selects "LivesAhead$Desk" ({ cls := "LivesAhead$Desk", name := "worthOfLife", desc := "(LLivesAhead$Life;)F" } : Jvm.MethodName) ({ cls := "LivesAhead$Desk", name := "worthOfLife", desc := "(LLivesAhead$Life;)F" } : Jvm.MethodName) : Cond) ∈ lw_g := lw_gm (i := 679) (by decide +kernel) (by decide +kernel)
theorem q680 : (.code ({ cls := "LivesAhead$Desk", name := "worthOfLife", desc := "(LLivesAhead$Life;)F" } : Jvm.MethodName) prog_2_method_20_code (4 : Nat) (Option.some .float) : Cond) ∈ lw_g := lw_gm (i := 680) (by decide +kernel) (by decide +kernel)
theorem q681 : (.methodLink "LivesAhead$Desk" (99 : Nat) ({ cls := "LivesAhead$Life", name := "linesOf", desc := "(I)I" } : Jvm.MethodName) : Cond) ∈ lw_g := lw_gm (i := 681) (by decide +kernel) (by decide +kernel)
theorem q682 : (.methodLink "LivesAheadLaw" (99 : Nat) ({ cls := "LivesAhead", name := "urgent", desc := "(I)I" } : Jvm.MethodName) : Cond) ∈ lw_g := lw_gm (i := 682) (by decide +kernel) (by decide +kernel)
theorem q683 : (.instanceMethod ({ cls := "LivesAhead", name := "urgent", desc := "(I)I" } : Jvm.MethodName) : Cond) ∈ lw_g := lw_gm (i := 683) (by decide +kernel) (by decide +kernel)
theorem q684 : (.selects "LivesAhead" ({ cls := "LivesAhead", name := "urgent", desc := "(I)I" } : Jvm.MethodName) ({ cls := "LivesAhead", name := "urgent", desc := "(I)I" } : Jvm.MethodName) : Cond) ∈ lw_g := lw_gm (i := 684) (by decide +kernel) (by decide +kernel)
theorem q685 : (.code ({ cls := "LivesAhead", name := "urgent", desc := "(I)I" } : Jvm.MethodName) prog_1_method_22_code (2 : Nat) (Option.some .int) : Cond) ∈ lw_g := lw_gm (i := 685) (by decide +kernel) (by decide +kernel)
theorem q686 : (.methodLink "LivesAhead" (265 : Nat) ({ cls := "LivesAhead$Desk", name := "rankUrgencies", desc := "(LLivesAhead$Ranking;)V" } : Jvm.MethodName) : Cond) ∈ lw_g := lw_gm (i := 686) (by decide +kernel) (by decide +kernel)
theorem q687 : (.instanceMethod ({ cls := "LivesAhead$Desk", name := "rankUrgencies", desc := "(LLivesAhead$Ranking;)V" } : Jvm.MethodName) : Cond) ∈ lw_g := lw_gm (i := 687) (by decide +kernel) (by decide +kernel)
theorem q688 : (.selects "LivesAhead$Desk" ({ cls := "LivesAhead$Desk", name := "rankUrgencies", desc := "(LLivesAhead$Ranking;)V" } : Jvm.MethodName) ({ cls := "LivesAhead$Desk", name := "rankUrgencies", desc := "(LLivesAhead$Ranking;)V" } : Jvm.MethodName) : Cond) ∈ lw_g := lw_gm (i := 688) (by decide +kernel) (by decide +kernel)
theorem q689 : (.code ({ cls := "LivesAhead$Desk", name := "rankUrgencies", desc := "(LLivesAhead$Ranking;)V" } : Jvm.MethodName) prog_2_method_29_code (4 : Nat) (Option.none : Option Jvm.ClassFile.FieldType) : Cond) ∈ lw_g := lw_gm (i := 689) (by decide +kernel) (by decide +kernel)
theorem q690 : (.methodLink "LivesAhead$Desk" (117 : Nat) ({ cls := "LivesAhead$Ranking", name := "clear", desc := "()V" } : Jvm.MethodName) : Cond) ∈ lw_g := lw_gm (i := 690) (by decide +kernel) (by decide +kernel)
theorem q691 : (.methodLink "LivesAhead$Desk" (126 : Nat) ({ cls := "LivesAhead$Ranking", name := "enter", desc := "(II)V" } : Jvm.MethodName) : Cond) ∈ lw_g := lw_gm (i := 691) (by decide +kernel) (by decide +kernel)
theorem q692 : (.methodLink "LivesAhead" (269 : Nat) ({ cls := "LivesAhead$Ranking", name := "personAt", desc := "(I)I" } : Jvm.MethodName) : Cond) ∈ lw_g := lw_gm (i := 692) (by decide +kernel) (by decide +kernel)
theorem q693 : (.methodLink "LivesAheadLaw" (104 : Nat) ({ cls := "LivesAhead", name := "page", desc := "(I)I" } : Jvm.MethodName) : Cond) ∈ lw_g := lw_gm (i := 693) (by decide +kernel) (by decide +kernel)
theorem q694 : (.instanceMethod ({ cls := "LivesAhead", name := "page", desc := "(I)I" } : Jvm.MethodName) : Cond) ∈ lw_g := lw_gm (i := 694) (by decide +kernel) (by decide +kernel)
theorem q695 : (.selects "LivesAhead" ({ cls := "LivesAhead", name := "page", desc := "(I)I" } : Jvm.MethodName) ({ cls := "LivesAhead", name := "page", desc := "(I)I" } : Jvm.MethodName) : Cond) ∈ lw_g := lw_gm (i := 695) (by decide +kernel) (by decide +kernel)
theorem q696 : (.code ({ cls := "LivesAhead", name := "page", desc := "(I)I" } : Jvm.MethodName) prog_1_method_23_code (2 : Nat) (Option.some .int) : Cond) ∈ lw_g := lw_gm (i := 696) (by decide +kernel) (by decide +kernel)
theorem q697 : (.methodLink "LivesAheadLaw" (108 : Nat) ({ cls := "LivesAhead", name := "source", desc := "(II)I" } : Jvm.MethodName) : Cond) ∈ lw_g := lw_gm (i := 697) (by decide +kernel) (by decide +kernel)
theorem q698 : (.instanceMethod ({ cls := "LivesAhead", name := "source", desc := "(II)I" } : Jvm.MethodName) : Cond) ∈ lw_g := lw_gm (i := 698) (by decide +kernel) (by decide +kernel)
theorem q699 : (.selects "LivesAhead" ({ cls := "LivesAhead", name := "source", desc := "(II)I" } : Jvm.MethodName) ({ cls := "LivesAhead", name := "source", desc := "(II)I" } : Jvm.MethodName) : Cond) ∈ lw_g := lw_gm (i := 699) (by decide +kernel) (by decide +kernel)
theorem q700 : (.code ({ cls := "LivesAhead", name := "source", desc := "(II)I" } : Jvm.MethodName) prog_1_method_24_code (3 : Nat) (Option.some .int) : Cond) ∈ lw_g := lw_gm (i := 700) (by decide +kernel) (by decide +kernel)
theorem q701 : (.methodLink "LivesAhead" (270 : Nat) ({ cls := "LivesAhead$Desk", name := "factsFrom", desc := "(I)I" } : Jvm.MethodName) : Cond) ∈ lw_g := lw_gm (i := 701) (by decide +kernel) (by decide +kernel)
theorem q702 : (.instanceMethod ({ cls := "LivesAhead$Desk", name := "factsFrom", desc := "(I)I" } : Jvm.MethodName) : Cond) ∈ lw_g := lw_gm (i := 702) (by decide +kernel) (by decide +kernel)
theorem q703 : (.selects "LivesAhead$Desk" ({ cls := "LivesAhead$Desk", name := "factsFrom", desc := "(I)I" } : Jvm.MethodName) ({ cls := "LivesAhead$Desk", name := "factsFrom", desc := "(I)I" } : Jvm.MethodName) : Cond) ∈ lw_g := lw_gm (i := 703) (by decide +kernel) (by decide +kernel)
theorem q704 : (.code ({ cls := "LivesAhead$Desk", name := "factsFrom", desc := "(I)I" } : Jvm.MethodName) prog_2_method_25_code (6 : Nat) (Option.some .int) : Cond) ∈ lw_g := lw_gm (i := 704) (by decide +kernel) (by decide +kernel)
theorem q705 : (.methodLink "LivesAhead" (273 : Nat) ({ cls := "LivesAhead$Desk", name := "staleFactsFrom", desc := "(I)I" } : Jvm.MethodName) : Cond) ∈ lw_g := lw_gm (i := 705) (by decide +kernel) (by decide +kernel)
theorem q706 : (.instanceMethod ({ cls := "LivesAhead$Desk", name := "staleFactsFrom", desc := "(I)I" } : Jvm.MethodName) : Cond) ∈ lw_g := lw_gm (i := 706) (by decide +kernel) (by decide +kernel)
theorem q707 : (.selects "LivesAhead$Desk" ({ cls := "LivesAhead$Desk", name := "staleFactsFrom", desc := "(I)I" } : Jvm.MethodName) ({ cls := "LivesAhead$Desk", name := "staleFactsFrom", desc := "(I)I" } : Jvm.MethodName) : Cond) ∈ lw_g := lw_gm (i := 707) (by decide +kernel) (by decide +kernel)
theorem q708 : (.code ({ cls := "LivesAhead$Desk", name := "staleFactsFrom", desc := "(I)I" } : Jvm.MethodName) prog_2_method_26_code (6 : Nat) (Option.some .int) : Cond) ∈ lw_g := lw_gm (i := 708) (by decide +kernel) (by decide +kernel)
theorem q709 : (.methodLink "LivesAhead" (276 : Nat) ({ cls := "LivesAhead$Desk", name := "linesFrom", desc := "(I)I" } : Jvm.MethodName) : Cond) ∈ lw_g := lw_gm (i := 709) (by decide +kernel) (by decide +kernel)
theorem q710 : (.instanceMethod ({ cls := "LivesAhead$Desk", name := "linesFrom", desc := "(I)I" } : Jvm.MethodName) : Cond) ∈ lw_g := lw_gm (i := 710) (by decide +kernel) (by decide +kernel)
theorem q711 : (.selects "LivesAhead$Desk" ({ cls := "LivesAhead$Desk", name := "linesFrom", desc := "(I)I" } : Jvm.MethodName) ({ cls := "LivesAhead$Desk", name := "linesFrom", desc := "(I)I" } : Jvm.MethodName) : Cond) ∈ lw_g := lw_gm (i := 711) (by decide +kernel) (by decide +kernel)
theorem q712 : (.code ({ cls := "LivesAhead$Desk", name := "linesFrom", desc := "(I)I" } : Jvm.MethodName) prog_2_method_27_code (6 : Nat) (Option.some .int) : Cond) ∈ lw_g := lw_gm (i := 712) (by decide +kernel) (by decide +kernel)
theorem q713 : (.methodLink "LivesAheadLaw" (112 : Nat) ({ cls := "LivesAhead", name := "staleIn", desc := "(I)I" } : Jvm.MethodName) : Cond) ∈ lw_g := lw_gm (i := 713) (by decide +kernel) (by decide +kernel)
theorem q714 : (.instanceMethod ({ cls := "LivesAhead", name := "staleIn", desc := "(I)I" } : Jvm.MethodName) : Cond) ∈ lw_g := lw_gm (i := 714) (by decide +kernel) (by decide +kernel)
theorem q715 : (.selects "LivesAhead" ({ cls := "LivesAhead", name := "staleIn", desc := "(I)I" } : Jvm.MethodName) ({ cls := "LivesAhead", name := "staleIn", desc := "(I)I" } : Jvm.MethodName) : Cond) ∈ lw_g := lw_gm (i := 715) (by decide +kernel) (by decide +kernel)
theorem q716 : (.code ({ cls := "LivesAhead", name := "staleIn", desc := "(I)I" } : Jvm.MethodName) prog_1_method_25_code (2 : Nat) (Option.some .int) : Cond) ∈ lw_g := lw_gm (i := 716) (by decide +kernel) (by decide +kernel)
theorem q717 : (.methodLink "LivesAhead" (279 : Nat) ({ cls := "LivesAhead$Desk", name := "staleFactsOn", desc := "(I)I" } : Jvm.MethodName) : Cond) ∈ lw_g := lw_gm (i := 717) (by decide +kernel) (by decide +kernel)
theorem q718 : (.instanceMethod ({ cls := "LivesAhead$Desk", name := "staleFactsOn", desc := "(I)I" } : Jvm.MethodName) : Cond) ∈ lw_g := lw_gm (i := 718) (by decide +kernel) (by decide +kernel)
theorem q719 : (.selects "LivesAhead$Desk" ({ cls := "LivesAhead$Desk", name := "staleFactsOn", desc := "(I)I" } : Jvm.MethodName) ({ cls := "LivesAhead$Desk", name := "staleFactsOn", desc := "(I)I" } : Jvm.MethodName) : Cond) ∈ lw_g := lw_gm (i := 719) (by decide +kernel) (by decide +kernel)
theorem q720 : (.code ({ cls := "LivesAhead$Desk", name := "staleFactsOn", desc := "(I)I" } : Jvm.MethodName) prog_2_method_24_code (5 : Nat) (Option.some .int) : Cond) ∈ lw_g := lw_gm (i := 720) (by decide +kernel) (by decide +kernel)
theorem q721 : (.methodLink "LivesAheadLaw" (116 : Nat) ({ cls := "LivesAhead", name := "count", desc := "(I)I" } : Jvm.MethodName) : Cond) ∈ lw_g := lw_gm (i := 721) (by decide +kernel) (by decide +kernel)
theorem q722 : (.instanceMethod ({ cls := "LivesAhead", name := "count", desc := "(I)I" } : Jvm.MethodName) : Cond) ∈ lw_g := lw_gm (i := 722) (by decide +kernel) (by decide +kernel)
theorem q723 : (.selects "LivesAhead" ({ cls := "LivesAhead", name := "count", desc := "(I)I" } : Jvm.MethodName) ({ cls := "LivesAhead", name := "count", desc := "(I)I" } : Jvm.MethodName) : Cond) ∈ lw_g := lw_gm (i := 723) (by decide +kernel) (by decide +kernel)
theorem q724 : (.code ({ cls := "LivesAhead", name := "count", desc := "(I)I" } : Jvm.MethodName) prog_1_method_26_code (2 : Nat) (Option.some .int) : Cond) ∈ lw_g := lw_gm (i := 724) (by decide +kernel) (by decide +kernel)
theorem q725 : (.methodLink "LivesAhead" (282 : Nat) ({ cls := "LivesAhead$Desk", name := "persons", desc := "()I" } : Jvm.MethodName) : Cond) ∈ lw_g := lw_gm (i := 725) (by decide +kernel) (by decide +kernel)
theorem q726 : (.methodLink "LivesAhead" (285 : Nat) ({ cls := "LivesAhead$Desk", name := "facts", desc := "()I" } : Jvm.MethodName) : Cond) ∈ lw_g := lw_gm (i := 726) (by decide +kernel) (by decide +kernel)
theorem q727 : (.instanceMethod ({ cls := "LivesAhead$Desk", name := "facts", desc := "()I" } : Jvm.MethodName) : Cond) ∈ lw_g := lw_gm (i := 727) (by decide +kernel) (by decide +kernel)
theorem q728 : (.selects "LivesAhead$Desk" ({ cls := "LivesAhead$Desk", name := "facts", desc := "()I" } : Jvm.MethodName) ({ cls := "LivesAhead$Desk", name := "facts", desc := "()I" } : Jvm.MethodName) : Cond) ∈ lw_g := lw_gm (i := 728) (by decide +kernel) (by decide +kernel)
theorem q729 : (.code ({ cls := "LivesAhead$Desk", name := "facts", desc := "()I" } : Jvm.MethodName) prog_2_method_18_code (4 : Nat) (Option.some .int) : Cond) ∈ lw_g := lw_gm (i := 729) (by decide +kernel) (by decide +kernel)
theorem q730 : (.methodLink "LivesAhead" (288 : Nat) ({ cls := "LivesAhead$Page", name := "linesFree", desc := "()I" } : Jvm.MethodName) : Cond) ∈ lw_g := lw_gm (i := 730) (by decide +kernel) (by decide +kernel)
theorem q731 : (.instanceMethod ({ cls := "LivesAhead$Page", name := "linesFree", desc := "()I" } : Jvm.MethodName) : Cond) ∈ lw_g := lw_gm (i := 731) (by decide +kernel) (by decide +kernel)
theorem q732 : (.selects "LivesAhead$Page" ({ cls := "LivesAhead$Page", name := "linesFree", desc := "()I" } : Jvm.MethodName) ({ cls := "LivesAhead$Page", name := "linesFree", desc := "()I" } : Jvm.MethodName) : Cond) ∈ lw_g := lw_gm (i := 732) (by decide +kernel) (by decide +kernel)
theorem q733 : (.code ({ cls := "LivesAhead$Page", name := "linesFree", desc := "()I" } : Jvm.MethodName) prog_5_method_4_code (1 : Nat) (Option.some .int) : Cond) ∈ lw_g := lw_gm (i := 733) (by decide +kernel) (by decide +kernel)
theorem q734 : (.methodLink "LivesAhead" (291 : Nat) ({ cls := "LivesAhead$Desk", name := "corrections", desc := "()I" } : Jvm.MethodName) : Cond) ∈ lw_g := lw_gm (i := 734) (by decide +kernel) (by decide +kernel)
theorem q735 : (.instanceMethod ({ cls := "LivesAhead$Desk", name := "corrections", desc := "()I" } : Jvm.MethodName) : Cond) ∈ lw_g := lw_gm (i := 735) (by decide +kernel) (by decide +kernel)
theorem q736 : (.selects "LivesAhead$Desk" ({ cls := "LivesAhead$Desk", name := "corrections", desc := "()I" } : Jvm.MethodName) ({ cls := "LivesAhead$Desk", name := "corrections", desc := "()I" } : Jvm.MethodName) : Cond) ∈ lw_g := lw_gm (i := 736) (by decide +kernel) (by decide +kernel)
theorem q737 : (.code ({ cls := "LivesAhead$Desk", name := "corrections", desc := "()I" } : Jvm.MethodName) prog_2_method_6_code (1 : Nat) (Option.some .int) : Cond) ∈ lw_g := lw_gm (i := 737) (by decide +kernel) (by decide +kernel)
theorem q738 : (.classLink "LivesAheadLaw" (10 : Nat) "LivesAheadModel" : Cond) ∈ lw_g := lw_gm (i := 738) (by decide +kernel) (by decide +kernel)
theorem q739 : (.instantiable "LivesAheadModel" (14 : Nat) : Cond) ∈ lw_g := lw_gm (i := 739) (by decide +kernel) (by decide +kernel)
theorem q740 : (.methodLink "LivesAheadLaw" (12 : Nat) ({ cls := "LivesAheadModel", name := "<init>", desc := "()V" } : Jvm.MethodName) : Cond) ∈ lw_g := lw_gm (i := 740) (by decide +kernel) (by decide +kernel)
theorem q741 : (.instanceMethod ({ cls := "LivesAheadModel", name := "<init>", desc := "()V" } : Jvm.MethodName) : Cond) ∈ lw_g := lw_gm (i := 741) (by decide +kernel) (by decide +kernel)
theorem q742 : (.code ({ cls := "LivesAheadModel", name := "<init>", desc := "()V" } : Jvm.MethodName) prog_9_method_1_code (2 : Nat) (Option.none : Option Jvm.ClassFile.FieldType) : Cond) ∈ lw_g := lw_gm (i := 742) (by decide +kernel) (by decide +kernel)
theorem q743 : (.methodLink "LivesAheadModel" (1 : Nat) ({ cls := "java/lang/Object", name := "<init>", desc := "()V" } : Jvm.MethodName) : Cond) ∈ lw_g := lw_gm (i := 743) (by decide +kernel) (by decide +kernel)
theorem q744 : (.fieldLink "LivesAheadModel" (7 : Nat) "LivesAheadModel" "s" "[I" : Cond) ∈ lw_g := lw_gm (i := 744) (by decide +kernel) (by decide +kernel)
theorem q745 : (.fieldLink "LivesAheadModel" (13 : Nat) "LivesAheadModel" "before" "[I" : Cond) ∈ lw_g := lw_gm (i := 745) (by decide +kernel) (by decide +kernel)
theorem q746 : (.fieldLink "LivesAheadModel" (16 : Nat) "LivesAheadModel" "kept" "[I" : Cond) ∈ lw_g := lw_gm (i := 746) (by decide +kernel) (by decide +kernel)
theorem q747 : (.fieldLink "LivesAheadModel" (19 : Nat) "LivesAheadModel" "page" "[I" : Cond) ∈ lw_g := lw_gm (i := 747) (by decide +kernel) (by decide +kernel)
theorem q748 : (.fieldLink "LivesAheadModel" (22 : Nat) "LivesAheadModel" "seen" "[Z" : Cond) ∈ lw_g := lw_gm (i := 748) (by decide +kernel) (by decide +kernel)
theorem q749 : (.fieldLink "LivesAheadModel" (135 : Nat) "LivesAheadModel" "pageMany" "I" : Cond) ∈ lw_g := lw_gm (i := 749) (by decide +kernel) (by decide +kernel)
theorem q750 : (.fieldLink "LivesAheadModel" (138 : Nat) "LivesAheadModel" "free" "I" : Cond) ∈ lw_g := lw_gm (i := 750) (by decide +kernel) (by decide +kernel)
theorem q751 : (.fieldLink "LivesAheadModel" (26 : Nat) "LivesAheadModel" "text" "[C" : Cond) ∈ lw_g := lw_gm (i := 751) (by decide +kernel) (by decide +kernel)
theorem q752 : (.fieldLink "LivesAheadModel" (77 : Nat) "LivesAheadModel" "length" "I" : Cond) ∈ lw_g := lw_gm (i := 752) (by decide +kernel) (by decide +kernel)
theorem q753 : (.fieldLink "LivesAheadModel" (33 : Nat) "LivesAheadModel" "states" "I" : Cond) ∈ lw_g := lw_gm (i := 753) (by decide +kernel) (by decide +kernel)
theorem q754 : (.fieldLink "LivesAheadModel" (153 : Nat) "LivesAheadModel" "isKept" "Z" : Cond) ∈ lw_g := lw_gm (i := 754) (by decide +kernel) (by decide +kernel)
theorem q755 : (.fieldLink "LivesAheadModel" (30 : Nat) "LivesAheadModel" "read" "[I" : Cond) ∈ lw_g := lw_gm (i := 755) (by decide +kernel) (by decide +kernel)
theorem q756 : (.fieldLink "LivesAheadModel" (80 : Nat) "LivesAheadModel" "at" "I" : Cond) ∈ lw_g := lw_gm (i := 756) (by decide +kernel) (by decide +kernel)
theorem q757 : (.fieldLink "LivesAheadModel" (95 : Nat) "LivesAheadModel" "persons" "I" : Cond) ∈ lw_g := lw_gm (i := 757) (by decide +kernel) (by decide +kernel)
theorem q758 : (.laysFinal "LivesAheadModel" "LivesAheadModel" "s" "[I" : Cond) ∈ lw_g := lw_gm (i := 758) (by decide +kernel) (by decide +kernel)
theorem q760 : (.laysFinal "LivesAheadModel" "LivesAheadModel" "before" "[I" : Cond) ∈ lw_g := lw_gm (i := 760) (by decide +kernel) (by decide +kernel)
theorem q762 : (.laysFinal "LivesAheadModel" "LivesAheadModel" "kept" "[I" : Cond) ∈ lw_g := lw_gm (i := 762) (by decide +kernel) (by decide +kernel)
theorem q764 : (.laysFinal "LivesAheadModel" "LivesAheadModel" "page" "[I" : Cond) ∈ lw_g := lw_gm (i := 764) (by decide +kernel) (by decide +kernel)
theorem q766 : (.laysFinal "LivesAheadModel" "LivesAheadModel" "seen" "[Z" : Cond) ∈ lw_g := lw_gm (i := 766) (by decide +kernel) (by decide +kernel)
theorem q768 : (.lays "LivesAheadModel" "LivesAheadModel" "pageMany" "I" : Cond) ∈ lw_g := lw_gm (i := 768) (by decide +kernel) (by decide +kernel)
theorem q770 : (.lays "LivesAheadModel" "LivesAheadModel" "free" "I" : Cond) ∈ lw_g := lw_gm (i := 770) (by decide +kernel) (by decide +kernel)
theorem q772 : (.laysFinal "LivesAheadModel" "LivesAheadModel" "text" "[C" : Cond) ∈ lw_g := lw_gm (i := 772) (by decide +kernel) (by decide +kernel)
theorem q774 : (.lays "LivesAheadModel" "LivesAheadModel" "length" "I" : Cond) ∈ lw_g := lw_gm (i := 774) (by decide +kernel) (by decide +kernel)
theorem q776 : (.lays "LivesAheadModel" "LivesAheadModel" "states" "I" : Cond) ∈ lw_g := lw_gm (i := 776) (by decide +kernel) (by decide +kernel)
theorem q778 : (.lays "LivesAheadModel" "LivesAheadModel" "isKept" "Z" : Cond) ∈ lw_g := lw_gm (i := 778) (by decide +kernel) (by decide +kernel)
theorem q780 : (.laysFinal "LivesAheadModel" "LivesAheadModel" "read" "[I" : Cond) ∈ lw_g := lw_gm (i := 780) (by decide +kernel) (by decide +kernel)
theorem q782 : (.lays "LivesAheadModel" "LivesAheadModel" "at" "I" : Cond) ∈ lw_g := lw_gm (i := 782) (by decide +kernel) (by decide +kernel)
theorem q784 : (.lays "LivesAheadModel" "LivesAheadModel" "persons" "I" : Cond) ∈ lw_g := lw_gm (i := 784) (by decide +kernel) (by decide +kernel)
theorem q787 : (.arrayClass .boolean : Cond) ∈ lw_g := lw_gm (i := 787) (by decide +kernel) (by decide +kernel)
theorem q788 : (.methodLink "LivesAheadLaw" (17 : Nat) ({ cls := "LivesAheadModel", name := "addPerson", desc := "(II)I" } : Jvm.MethodName) : Cond) ∈ lw_g := lw_gm (i := 788) (by decide +kernel) (by decide +kernel)
theorem q789 : (.instanceMethod ({ cls := "LivesAheadModel", name := "addPerson", desc := "(II)I" } : Jvm.MethodName) : Cond) ∈ lw_g := lw_gm (i := 789) (by decide +kernel) (by decide +kernel)
theorem q790 : (.selects "LivesAheadModel" ({ cls := "LivesAheadModel", name := "addPerson", desc := "(II)I" } : Jvm.MethodName) ({ cls := "LivesAheadModel", name := "addPerson", desc := "(II)I" } : Jvm.MethodName) : Cond) ∈ lw_g := lw_gm (i := 790) (by decide +kernel) (by decide +kernel)
theorem q791 : (.code ({ cls := "LivesAheadModel", name := "addPerson", desc := "(II)I" } : Jvm.MethodName) prog_9_method_18_code (3 : Nat) (Option.some .int) : Cond) ∈ lw_g := lw_gm (i := 791) (by decide +kernel) (by decide +kernel)
theorem q792 : (.methodLink "LivesAheadModel" (41 : Nat) ({ cls := "LivesAheadModel", name := "in", desc := "(III)Z" } : Jvm.MethodName) : Cond) ∈ lw_g := lw_gm (i := 792) (by decide +kernel) (by decide +kernel)
theorem q793 : (.static ({ cls := "LivesAheadModel", name := "in", desc := "(III)Z" } : Jvm.MethodName) : Cond) ∈ lw_g := lw_gm (i := 793) (by decide +kernel) (by decide +kernel)
theorem q794 : (.code ({ cls := "LivesAheadModel", name := "in", desc := "(III)Z" } : Jvm.MethodName) prog_9_method_2_code (3 : Nat) (Option.some .boolean) : Cond) ∈ lw_g := lw_gm (i := 794) (by decide +kernel) (by decide +kernel)
theorem q795 : (.methodLink "LivesAheadModel" (71 : Nat) ({ cls := "LivesAheadModel", name := "record", desc := "()V" } : Jvm.MethodName) : Cond) ∈ lw_g := lw_gm (i := 795) (by decide +kernel) (by decide +kernel)
theorem q797 : (.instanceMethod ({ cls := "LivesAheadModel", name := "record", desc := "()V" } : Jvm.MethodName) : Cond) ∈ lw_g := lw_gm (i := 797) (by decide +kernel) (by decide +kernel)
theorem q798 : (.code ({ cls := "LivesAheadModel", name := "record", desc := "()V" } : Jvm.MethodName) prog_9_method_3_code (2 : Nat) (Option.none : Option Jvm.ClassFile.FieldType) : Cond) ∈ lw_g := lw_gm (i := 798) (by decide +kernel) (by decide +kernel)
theorem q799 : (.methodLink "LivesAheadModel" (74 : Nat) ({ cls := "LivesAheadModel", name := "come", desc := "(II)I" } : Jvm.MethodName) : Cond) ∈ lw_g := lw_gm (i := 799) (by decide +kernel) (by decide +kernel)
theorem q801 : (.instanceMethod ({ cls := "LivesAheadModel", name := "come", desc := "(II)I" } : Jvm.MethodName) : Cond) ∈ lw_g := lw_gm (i := 801) (by decide +kernel) (by decide +kernel)
theorem q802 : (.code ({ cls := "LivesAheadModel", name := "come", desc := "(II)I" } : Jvm.MethodName) prog_9_method_16_code (4 : Nat) (Option.some .int) : Cond) ∈ lw_g := lw_gm (i := 802) (by decide +kernel) (by decide +kernel)
theorem q803 : (.methodLink "LivesAheadModel" (37 : Nat) ({ cls := "LivesAheadModel", name := "p", desc := "(I)I" } : Jvm.MethodName) : Cond) ∈ lw_g := lw_gm (i := 803) (by decide +kernel) (by decide +kernel)
theorem q804 : (.static ({ cls := "LivesAheadModel", name := "p", desc := "(I)I" } : Jvm.MethodName) : Cond) ∈ lw_g := lw_gm (i := 804) (by decide +kernel) (by decide +kernel)
theorem q805 : (.code ({ cls := "LivesAheadModel", name := "p", desc := "(I)I" } : Jvm.MethodName) prog_9_method_4_code (1 : Nat) (Option.some .int) : Cond) ∈ lw_g := lw_gm (i := 805) (by decide +kernel) (by decide +kernel)
theorem q806 : (.methodLink "LivesAheadLaw" (22 : Nat) ({ cls := "LivesAheadModel", name := "addPersons", desc := "()I" } : Jvm.MethodName) : Cond) ∈ lw_g := lw_gm (i := 806) (by decide +kernel) (by decide +kernel)
theorem q807 : (.instanceMethod ({ cls := "LivesAheadModel", name := "addPersons", desc := "()I" } : Jvm.MethodName) : Cond) ∈ lw_g := lw_gm (i := 807) (by decide +kernel) (by decide +kernel)
theorem q808 : (.selects "LivesAheadModel" ({ cls := "LivesAheadModel", name := "addPersons", desc := "()I" } : Jvm.MethodName) ({ cls := "LivesAheadModel", name := "addPersons", desc := "()I" } : Jvm.MethodName) : Cond) ∈ lw_g := lw_gm (i := 808) (by decide +kernel) (by decide +kernel)
theorem q809 : (.code ({ cls := "LivesAheadModel", name := "addPersons", desc := "()I" } : Jvm.MethodName) prog_9_method_26_code (5 : Nat) (Option.some .int) : Cond) ∈ lw_g := lw_gm (i := 809) (by decide +kernel) (by decide +kernel)
theorem q810 : (.methodLink "LivesAheadModel" (109 : Nat) ({ cls := "LivesAheadModel", name := "faultOf", desc := "()I" } : Jvm.MethodName) : Cond) ∈ lw_g := lw_gm (i := 810) (by decide +kernel) (by decide +kernel)
theorem q812 : (.instanceMethod ({ cls := "LivesAheadModel", name := "faultOf", desc := "()I" } : Jvm.MethodName) : Cond) ∈ lw_g := lw_gm (i := 812) (by decide +kernel) (by decide +kernel)
theorem q813 : (.code ({ cls := "LivesAheadModel", name := "faultOf", desc := "()I" } : Jvm.MethodName) prog_9_method_25_code (2 : Nat) (Option.some .int) : Cond) ∈ lw_g := lw_gm (i := 813) (by decide +kernel) (by decide +kernel)
theorem q814 : (.methodLink "LivesAheadModel" (105 : Nat) ({ cls := "LivesAheadModel", name := "readsPerson", desc := "()Z" } : Jvm.MethodName) : Cond) ∈ lw_g := lw_gm (i := 814) (by decide +kernel) (by decide +kernel)
theorem q816 : (.instanceMethod ({ cls := "LivesAheadModel", name := "readsPerson", desc := "()Z" } : Jvm.MethodName) : Cond) ∈ lw_g := lw_gm (i := 816) (by decide +kernel) (by decide +kernel)
theorem q817 : (.code ({ cls := "LivesAheadModel", name := "readsPerson", desc := "()Z" } : Jvm.MethodName) prog_9_method_24_code (3 : Nat) (Option.some .boolean) : Cond) ∈ lw_g := lw_gm (i := 817) (by decide +kernel) (by decide +kernel)
theorem q818 : (.methodLink "LivesAheadModel" (98 : Nat) ({ cls := "LivesAheadModel", name := "age", desc := "()I" } : Jvm.MethodName) : Cond) ∈ lw_g := lw_gm (i := 818) (by decide +kernel) (by decide +kernel)
theorem q820 : (.instanceMethod ({ cls := "LivesAheadModel", name := "age", desc := "()I" } : Jvm.MethodName) : Cond) ∈ lw_g := lw_gm (i := 820) (by decide +kernel) (by decide +kernel)
theorem q821 : (.code ({ cls := "LivesAheadModel", name := "age", desc := "()I" } : Jvm.MethodName) prog_9_method_22_code (2 : Nat) (Option.some .int) : Cond) ∈ lw_g := lw_gm (i := 821) (by decide +kernel) (by decide +kernel)
theorem q822 : (.methodLink "LivesAheadModel" (87 : Nat) ({ cls := "LivesAheadModel", name := "digit", desc := "(CC)I" } : Jvm.MethodName) : Cond) ∈ lw_g := lw_gm (i := 822) (by decide +kernel) (by decide +kernel)
theorem q824 : (.instanceMethod ({ cls := "LivesAheadModel", name := "digit", desc := "(CC)I" } : Jvm.MethodName) : Cond) ∈ lw_g := lw_gm (i := 824) (by decide +kernel) (by decide +kernel)
theorem q825 : (.code ({ cls := "LivesAheadModel", name := "digit", desc := "(CC)I" } : Jvm.MethodName) prog_9_method_21_code (3 : Nat) (Option.some .int) : Cond) ∈ lw_g := lw_gm (i := 825) (by decide +kernel) (by decide +kernel)
theorem q826 : (.methodLink "LivesAheadModel" (83 : Nat) ({ cls := "LivesAheadModel", name := "isSign", desc := "(ICC)Z" } : Jvm.MethodName) : Cond) ∈ lw_g := lw_gm (i := 826) (by decide +kernel) (by decide +kernel)
theorem q828 : (.instanceMethod ({ cls := "LivesAheadModel", name := "isSign", desc := "(ICC)Z" } : Jvm.MethodName) : Cond) ∈ lw_g := lw_gm (i := 828) (by decide +kernel) (by decide +kernel)
theorem q829 : (.code ({ cls := "LivesAheadModel", name := "isSign", desc := "(ICC)Z" } : Jvm.MethodName) prog_9_method_19_code (4 : Nat) (Option.some .boolean) : Cond) ∈ lw_g := lw_gm (i := 829) (by decide +kernel) (by decide +kernel)
theorem q830 : (.methodLink "LivesAheadModel" (91 : Nat) ({ cls := "LivesAheadModel", name := "accepts", desc := "(C)Z" } : Jvm.MethodName) : Cond) ∈ lw_g := lw_gm (i := 830) (by decide +kernel) (by decide +kernel)
theorem q832 : (.instanceMethod ({ cls := "LivesAheadModel", name := "accepts", desc := "(C)Z" } : Jvm.MethodName) : Cond) ∈ lw_g := lw_gm (i := 832) (by decide +kernel) (by decide +kernel)
theorem q833 : (.code ({ cls := "LivesAheadModel", name := "accepts", desc := "(C)Z" } : Jvm.MethodName) prog_9_method_20_code (3 : Nat) (Option.some .boolean) : Cond) ∈ lw_g := lw_gm (i := 833) (by decide +kernel) (by decide +kernel)
theorem q834 : (.methodLink "LivesAheadModel" (102 : Nat) ({ cls := "LivesAheadModel", name := "readsFact", desc := "(I)Z" } : Jvm.MethodName) : Cond) ∈ lw_g := lw_gm (i := 834) (by decide +kernel) (by decide +kernel)
theorem q836 : (.instanceMethod ({ cls := "LivesAheadModel", name := "readsFact", desc := "(I)Z" } : Jvm.MethodName) : Cond) ∈ lw_g := lw_gm (i := 836) (by decide +kernel) (by decide +kernel)
theorem q837 : (.code ({ cls := "LivesAheadModel", name := "readsFact", desc := "(I)Z" } : Jvm.MethodName) prog_9_method_23_code (3 : Nat) (Option.some .boolean) : Cond) ∈ lw_g := lw_gm (i := 837) (by decide +kernel) (by decide +kernel)
theorem q838 : (.methodLink "LivesAheadModel" (112 : Nat) ({ cls := "LivesAheadModel", name := "add", desc := "(III)V" } : Jvm.MethodName) : Cond) ∈ lw_g := lw_gm (i := 838) (by decide +kernel) (by decide +kernel)
theorem q840 : (.instanceMethod ({ cls := "LivesAheadModel", name := "add", desc := "(III)V" } : Jvm.MethodName) : Cond) ∈ lw_g := lw_gm (i := 840) (by decide +kernel) (by decide +kernel)
theorem q841 : (.code ({ cls := "LivesAheadModel", name := "add", desc := "(III)V" } : Jvm.MethodName) prog_9_method_17_code (5 : Nat) (Option.none : Option Jvm.ClassFile.FieldType) : Cond) ∈ lw_g := lw_gm (i := 841) (by decide +kernel) (by decide +kernel)
theorem q842 : (.methodLink "LivesAheadModel" (49 : Nat) ({ cls := "LivesAheadModel", name := "of", desc := "(II)I" } : Jvm.MethodName) : Cond) ∈ lw_g := lw_gm (i := 842) (by decide +kernel) (by decide +kernel)
theorem q844 : (.instanceMethod ({ cls := "LivesAheadModel", name := "of", desc := "(II)I" } : Jvm.MethodName) : Cond) ∈ lw_g := lw_gm (i := 844) (by decide +kernel) (by decide +kernel)
theorem q845 : (.code ({ cls := "LivesAheadModel", name := "of", desc := "(II)I" } : Jvm.MethodName) prog_9_method_6_code (3 : Nat) (Option.some .int) : Cond) ∈ lw_g := lw_gm (i := 845) (by decide +kernel) (by decide +kernel)
theorem q846 : (.methodLink "LivesAheadModel" (53 : Nat) ({ cls := "LivesAheadModel", name := "f", desc := "(II)I" } : Jvm.MethodName) : Cond) ∈ lw_g := lw_gm (i := 846) (by decide +kernel) (by decide +kernel)
theorem q847 : (.static ({ cls := "LivesAheadModel", name := "f", desc := "(II)I" } : Jvm.MethodName) : Cond) ∈ lw_g := lw_gm (i := 847) (by decide +kernel) (by decide +kernel)
theorem q848 : (.code ({ cls := "LivesAheadModel", name := "f", desc := "(II)I" } : Jvm.MethodName) prog_9_method_5_code (2 : Nat) (Option.some .int) : Cond) ∈ lw_g := lw_gm (i := 848) (by decide +kernel) (by decide +kernel)
theorem q849 : (.methodLink "LivesAheadLaw" (27 : Nat) ({ cls := "LivesAheadModel", name := "write", desc := "(III)I" } : Jvm.MethodName) : Cond) ∈ lw_g := lw_gm (i := 849) (by decide +kernel) (by decide +kernel)
theorem q850 : (.instanceMethod ({ cls := "LivesAheadModel", name := "write", desc := "(III)I" } : Jvm.MethodName) : Cond) ∈ lw_g := lw_gm (i := 850) (by decide +kernel) (by decide +kernel)
theorem q851 : (.selects "LivesAheadModel" ({ cls := "LivesAheadModel", name := "write", desc := "(III)I" } : Jvm.MethodName) ({ cls := "LivesAheadModel", name := "write", desc := "(III)I" } : Jvm.MethodName) : Cond) ∈ lw_g := lw_gm (i := 851) (by decide +kernel) (by decide +kernel)
theorem q852 : (.code ({ cls := "LivesAheadModel", name := "write", desc := "(III)I" } : Jvm.MethodName) prog_9_method_27_code (4 : Nat) (Option.some .int) : Cond) ∈ lw_g := lw_gm (i := 852) (by decide +kernel) (by decide +kernel)
theorem q853 : (.methodLink "LivesAheadModel" (45 : Nat) ({ cls := "LivesAheadModel", name := "isPerson", desc := "(I)Z" } : Jvm.MethodName) : Cond) ∈ lw_g := lw_gm (i := 853) (by decide +kernel) (by decide +kernel)
theorem q855 : (.instanceMethod ({ cls := "LivesAheadModel", name := "isPerson", desc := "(I)Z" } : Jvm.MethodName) : Cond) ∈ lw_g := lw_gm (i := 855) (by decide +kernel) (by decide +kernel)
theorem q856 : (.code ({ cls := "LivesAheadModel", name := "isPerson", desc := "(I)Z" } : Jvm.MethodName) prog_9_method_7_code (2 : Nat) (Option.some .boolean) : Cond) ∈ lw_g := lw_gm (i := 856) (by decide +kernel) (by decide +kernel)
theorem q857 : (.methodLink "LivesAheadLaw" (31 : Nat) ({ cls := "LivesAheadModel", name := "check", desc := "(II)I" } : Jvm.MethodName) : Cond) ∈ lw_g := lw_gm (i := 857) (by decide +kernel) (by decide +kernel)
theorem q858 : (.instanceMethod ({ cls := "LivesAheadModel", name := "check", desc := "(II)I" } : Jvm.MethodName) : Cond) ∈ lw_g := lw_gm (i := 858) (by decide +kernel) (by decide +kernel)
theorem q859 : (.selects "LivesAheadModel" ({ cls := "LivesAheadModel", name := "check", desc := "(II)I" } : Jvm.MethodName) ({ cls := "LivesAheadModel", name := "check", desc := "(II)I" } : Jvm.MethodName) : Cond) ∈ lw_g := lw_gm (i := 859) (by decide +kernel) (by decide +kernel)
theorem q860 : (.code ({ cls := "LivesAheadModel", name := "check", desc := "(II)I" } : Jvm.MethodName) prog_9_method_28_code (3 : Nat) (Option.some .int) : Cond) ∈ lw_g := lw_gm (i := 860) (by decide +kernel) (by decide +kernel)
theorem q861 : (.methodLink "LivesAheadModel" (116 : Nat) ({ cls := "LivesAheadModel", name := "isFact", desc := "(II)Z" } : Jvm.MethodName) : Cond) ∈ lw_g := lw_gm (i := 861) (by decide +kernel) (by decide +kernel)
theorem q863 : (.instanceMethod ({ cls := "LivesAheadModel", name := "isFact", desc := "(II)Z" } : Jvm.MethodName) : Cond) ∈ lw_g := lw_gm (i := 863) (by decide +kernel) (by decide +kernel)
theorem q864 : (.code ({ cls := "LivesAheadModel", name := "isFact", desc := "(II)Z" } : Jvm.MethodName) prog_9_method_8_code (3 : Nat) (Option.some .boolean) : Cond) ∈ lw_g := lw_gm (i := 864) (by decide +kernel) (by decide +kernel)
theorem q865 : (.methodLink "LivesAheadLaw" (35 : Nat) ({ cls := "LivesAheadModel", name := "strike", desc := "(II)I" } : Jvm.MethodName) : Cond) ∈ lw_g := lw_gm (i := 865) (by decide +kernel) (by decide +kernel)
theorem q866 : (.instanceMethod ({ cls := "LivesAheadModel", name := "strike", desc := "(II)I" } : Jvm.MethodName) : Cond) ∈ lw_g := lw_gm (i := 866) (by decide +kernel) (by decide +kernel)
theorem q867 : (.selects "LivesAheadModel" ({ cls := "LivesAheadModel", name := "strike", desc := "(II)I" } : Jvm.MethodName) ({ cls := "LivesAheadModel", name := "strike", desc := "(II)I" } : Jvm.MethodName) : Cond) ∈ lw_g := lw_gm (i := 867) (by decide +kernel) (by decide +kernel)
theorem q868 : (.code ({ cls := "LivesAheadModel", name := "strike", desc := "(II)I" } : Jvm.MethodName) prog_9_method_29_code (4 : Nat) (Option.some .int) : Cond) ∈ lw_g := lw_gm (i := 868) (by decide +kernel) (by decide +kernel)
theorem q869 : (.methodLink "LivesAheadLaw" (39 : Nat) ({ cls := "LivesAheadModel", name := "checkUrgent", desc := "()I" } : Jvm.MethodName) : Cond) ∈ lw_g := lw_gm (i := 869) (by decide +kernel) (by decide +kernel)
theorem q870 : (.instanceMethod ({ cls := "LivesAheadModel", name := "checkUrgent", desc := "()I" } : Jvm.MethodName) : Cond) ∈ lw_g := lw_gm (i := 870) (by decide +kernel) (by decide +kernel)
theorem q871 : (.selects "LivesAheadModel" ({ cls := "LivesAheadModel", name := "checkUrgent", desc := "()I" } : Jvm.MethodName) ({ cls := "LivesAheadModel", name := "checkUrgent", desc := "()I" } : Jvm.MethodName) : Cond) ∈ lw_g := lw_gm (i := 871) (by decide +kernel) (by decide +kernel)
theorem q872 : (.code ({ cls := "LivesAheadModel", name := "checkUrgent", desc := "()I" } : Jvm.MethodName) prog_9_method_32_code (3 : Nat) (Option.some .int) : Cond) ∈ lw_g := lw_gm (i := 872) (by decide +kernel) (by decide +kernel)
theorem q873 : (.methodLink "LivesAheadModel" (126 : Nat) ({ cls := "LivesAheadModel", name := "mostUrgent", desc := "()I" } : Jvm.MethodName) : Cond) ∈ lw_g := lw_gm (i := 873) (by decide +kernel) (by decide +kernel)
theorem q875 : (.instanceMethod ({ cls := "LivesAheadModel", name := "mostUrgent", desc := "()I" } : Jvm.MethodName) : Cond) ∈ lw_g := lw_gm (i := 875) (by decide +kernel) (by decide +kernel)
theorem q876 : (.code ({ cls := "LivesAheadModel", name := "mostUrgent", desc := "()I" } : Jvm.MethodName) prog_9_method_31_code (4 : Nat) (Option.some .int) : Cond) ∈ lw_g := lw_gm (i := 876) (by decide +kernel) (by decide +kernel)
theorem q877 : (.methodLink "LivesAheadModel" (120 : Nat) ({ cls := "LivesAheadModel", name := "due", desc := "(I)I" } : Jvm.MethodName) : Cond) ∈ lw_g := lw_gm (i := 877) (by decide +kernel) (by decide +kernel)
theorem q879 : (.instanceMethod ({ cls := "LivesAheadModel", name := "due", desc := "(I)I" } : Jvm.MethodName) : Cond) ∈ lw_g := lw_gm (i := 879) (by decide +kernel) (by decide +kernel)
theorem q880 : (.code ({ cls := "LivesAheadModel", name := "due", desc := "(I)I" } : Jvm.MethodName) prog_9_method_30_code (4 : Nat) (Option.some .int) : Cond) ∈ lw_g := lw_gm (i := 880) (by decide +kernel) (by decide +kernel)
theorem q881 : (.methodLink "LivesAheadModel" (62 : Nat) ({ cls := "LivesAheadModel", name := "isStaleOn", desc := "(III)Z" } : Jvm.MethodName) : Cond) ∈ lw_g := lw_gm (i := 881) (by decide +kernel) (by decide +kernel)
theorem q883 : (.instanceMethod ({ cls := "LivesAheadModel", name := "isStaleOn", desc := "(III)Z" } : Jvm.MethodName) : Cond) ∈ lw_g := lw_gm (i := 883) (by decide +kernel) (by decide +kernel)
theorem q884 : (.code ({ cls := "LivesAheadModel", name := "isStaleOn", desc := "(III)Z" } : Jvm.MethodName) prog_9_method_10_code (4 : Nat) (Option.some .boolean) : Cond) ∈ lw_g := lw_gm (i := 884) (by decide +kernel) (by decide +kernel)
theorem q885 : (.methodLink "LivesAheadModel" (58 : Nat) ({ cls := "LivesAheadModel", name := "worthOn", desc := "(III)F" } : Jvm.MethodName) : Cond) ∈ lw_g := lw_gm (i := 885) (by decide +kernel) (by decide +kernel)
theorem q887 : (.instanceMethod ({ cls := "LivesAheadModel", name := "worthOn", desc := "(III)F" } : Jvm.MethodName) : Cond) ∈ lw_g := lw_gm (i := 887) (by decide +kernel) (by decide +kernel)
theorem q888 : (.code ({ cls := "LivesAheadModel", name := "worthOn", desc := "(III)F" } : Jvm.MethodName) prog_9_method_9_code (7 : Nat) (Option.some .float) : Cond) ∈ lw_g := lw_gm (i := 888) (by decide +kernel) (by decide +kernel)
theorem q889 : (.constantFloat "LivesAheadModel" (56 : Nat) (1120403456 : UInt32) : Cond) ∈ lw_g := lw_gm (i := 889) (by decide +kernel) (by decide +kernel)
theorem q890 : (.constantFloat "LivesAheadModel" (57 : Nat) (1063675494 : UInt32) : Cond) ∈ lw_g := lw_gm (i := 890) (by decide +kernel) (by decide +kernel)
theorem q891 : (.methodLink "LivesAheadModel" (123 : Nat) ({ cls := "LivesAheadModel", name := "urgency", desc := "(I)I" } : Jvm.MethodName) : Cond) ∈ lw_g := lw_gm (i := 891) (by decide +kernel) (by decide +kernel)
theorem q893 : (.instanceMethod ({ cls := "LivesAheadModel", name := "urgency", desc := "(I)I" } : Jvm.MethodName) : Cond) ∈ lw_g := lw_gm (i := 893) (by decide +kernel) (by decide +kernel)
theorem q894 : (.code ({ cls := "LivesAheadModel", name := "urgency", desc := "(I)I" } : Jvm.MethodName) prog_9_method_15_code (2 : Nat) (Option.some .int) : Cond) ∈ lw_g := lw_gm (i := 894) (by decide +kernel) (by decide +kernel)
theorem q895 : (.methodLink "LivesAheadModel" (68 : Nat) ({ cls := "LivesAheadModel", name := "stale", desc := "(II)I" } : Jvm.MethodName) : Cond) ∈ lw_g := lw_gm (i := 895) (by decide +kernel) (by decide +kernel)
theorem q897 : (.instanceMethod ({ cls := "LivesAheadModel", name := "stale", desc := "(II)I" } : Jvm.MethodName) : Cond) ∈ lw_g := lw_gm (i := 897) (by decide +kernel) (by decide +kernel)
theorem q898 : (.code ({ cls := "LivesAheadModel", name := "stale", desc := "(II)I" } : Jvm.MethodName) prog_9_method_11_code (5 : Nat) (Option.some .int) : Cond) ∈ lw_g := lw_gm (i := 898) (by decide +kernel) (by decide +kernel)
theorem q899 : (.methodLink "LivesAheadLaw" (43 : Nat) ({ cls := "LivesAheadModel", name := "trust", desc := "(II)I" } : Jvm.MethodName) : Cond) ∈ lw_g := lw_gm (i := 899) (by decide +kernel) (by decide +kernel)
theorem q900 : (.instanceMethod ({ cls := "LivesAheadModel", name := "trust", desc := "(II)I" } : Jvm.MethodName) : Cond) ∈ lw_g := lw_gm (i := 900) (by decide +kernel) (by decide +kernel)
theorem q901 : (.selects "LivesAheadModel" ({ cls := "LivesAheadModel", name := "trust", desc := "(II)I" } : Jvm.MethodName) ({ cls := "LivesAheadModel", name := "trust", desc := "(II)I" } : Jvm.MethodName) : Cond) ∈ lw_g := lw_gm (i := 901) (by decide +kernel) (by decide +kernel)
theorem q902 : (.code ({ cls := "LivesAheadModel", name := "trust", desc := "(II)I" } : Jvm.MethodName) prog_9_method_33_code (4 : Nat) (Option.some .int) : Cond) ∈ lw_g := lw_gm (i := 902) (by decide +kernel) (by decide +kernel)
theorem q903 : (.methodLink "LivesAheadLaw" (47 : Nat) ({ cls := "LivesAheadModel", name := "set", desc := "(II)I" } : Jvm.MethodName) : Cond) ∈ lw_g := lw_gm (i := 903) (by decide +kernel) (by decide +kernel)
theorem q904 : (.instanceMethod ({ cls := "LivesAheadModel", name := "set", desc := "(II)I" } : Jvm.MethodName) : Cond) ∈ lw_g := lw_gm (i := 904) (by decide +kernel) (by decide +kernel)
theorem q905 : (.selects "LivesAheadModel" ({ cls := "LivesAheadModel", name := "set", desc := "(II)I" } : Jvm.MethodName) ({ cls := "LivesAheadModel", name := "set", desc := "(II)I" } : Jvm.MethodName) : Cond) ∈ lw_g := lw_gm (i := 905) (by decide +kernel) (by decide +kernel)
theorem q906 : (.code ({ cls := "LivesAheadModel", name := "set", desc := "(II)I" } : Jvm.MethodName) prog_9_method_35_code (4 : Nat) (Option.some .int) : Cond) ∈ lw_g := lw_gm (i := 906) (by decide +kernel) (by decide +kernel)
theorem q907 : (.methodLink "LivesAheadModel" (129 : Nat) ({ cls := "LivesAheadModel", name := "isSetting", desc := "(II)Z" } : Jvm.MethodName) : Cond) ∈ lw_g := lw_gm (i := 907) (by decide +kernel) (by decide +kernel)
theorem q908 : (.static ({ cls := "LivesAheadModel", name := "isSetting", desc := "(II)Z" } : Jvm.MethodName) : Cond) ∈ lw_g := lw_gm (i := 908) (by decide +kernel) (by decide +kernel)
theorem q909 : (.code ({ cls := "LivesAheadModel", name := "isSetting", desc := "(II)Z" } : Jvm.MethodName) prog_9_method_34_code (2 : Nat) (Option.some .boolean) : Cond) ∈ lw_g := lw_gm (i := 909) (by decide +kernel) (by decide +kernel)
theorem q910 : (.methodLink "LivesAheadLaw" (51 : Nat) ({ cls := "LivesAheadModel", name := "tellDeath", desc := "(II)I" } : Jvm.MethodName) : Cond) ∈ lw_g := lw_gm (i := 910) (by decide +kernel) (by decide +kernel)
theorem q911 : (.instanceMethod ({ cls := "LivesAheadModel", name := "tellDeath", desc := "(II)I" } : Jvm.MethodName) : Cond) ∈ lw_g := lw_gm (i := 911) (by decide +kernel) (by decide +kernel)
theorem q912 : (.selects "LivesAheadModel" ({ cls := "LivesAheadModel", name := "tellDeath", desc := "(II)I" } : Jvm.MethodName) ({ cls := "LivesAheadModel", name := "tellDeath", desc := "(II)I" } : Jvm.MethodName) : Cond) ∈ lw_g := lw_gm (i := 912) (by decide +kernel) (by decide +kernel)
theorem q913 : (.code ({ cls := "LivesAheadModel", name := "tellDeath", desc := "(II)I" } : Jvm.MethodName) prog_9_method_37_code (4 : Nat) (Option.some .int) : Cond) ∈ lw_g := lw_gm (i := 913) (by decide +kernel) (by decide +kernel)
theorem q914 : (.methodLink "LivesAheadLaw" (56 : Nat) ({ cls := "LivesAheadModel", name := "decide", desc := "(IZ)I" } : Jvm.MethodName) : Cond) ∈ lw_g := lw_gm (i := 914) (by decide +kernel) (by decide +kernel)
theorem q915 : (.instanceMethod ({ cls := "LivesAheadModel", name := "decide", desc := "(IZ)I" } : Jvm.MethodName) : Cond) ∈ lw_g := lw_gm (i := 915) (by decide +kernel) (by decide +kernel)
theorem q916 : (.selects "LivesAheadModel" ({ cls := "LivesAheadModel", name := "decide", desc := "(IZ)I" } : Jvm.MethodName) ({ cls := "LivesAheadModel", name := "decide", desc := "(IZ)I" } : Jvm.MethodName) : Cond) ∈ lw_g := lw_gm (i := 916) (by decide +kernel) (by decide +kernel)
theorem q917 : (.code ({ cls := "LivesAheadModel", name := "decide", desc := "(IZ)I" } : Jvm.MethodName) prog_9_method_38_code (4 : Nat) (Option.some .int) : Cond) ∈ lw_g := lw_gm (i := 917) (by decide +kernel) (by decide +kernel)
theorem q918 : (.methodLink "LivesAheadModel" (132 : Nat) ({ cls := "LivesAheadModel", name := "inState", desc := "(I)I" } : Jvm.MethodName) : Cond) ∈ lw_g := lw_gm (i := 918) (by decide +kernel) (by decide +kernel)
theorem q920 : (.instanceMethod ({ cls := "LivesAheadModel", name := "inState", desc := "(I)I" } : Jvm.MethodName) : Cond) ∈ lw_g := lw_gm (i := 920) (by decide +kernel) (by decide +kernel)
theorem q921 : (.code ({ cls := "LivesAheadModel", name := "inState", desc := "(I)I" } : Jvm.MethodName) prog_9_method_36_code (4 : Nat) (Option.some .int) : Cond) ∈ lw_g := lw_gm (i := 921) (by decide +kernel) (by decide +kernel)
theorem q922 : (.methodLink "LivesAheadLaw" (60 : Nat) ({ cls := "LivesAheadModel", name := "print", desc := "()I" } : Jvm.MethodName) : Cond) ∈ lw_g := lw_gm (i := 922) (by decide +kernel) (by decide +kernel)
theorem q923 : (.instanceMethod ({ cls := "LivesAheadModel", name := "print", desc := "()I" } : Jvm.MethodName) : Cond) ∈ lw_g := lw_gm (i := 923) (by decide +kernel) (by decide +kernel)
theorem q924 : (.selects "LivesAheadModel" ({ cls := "LivesAheadModel", name := "print", desc := "()I" } : Jvm.MethodName) ({ cls := "LivesAheadModel", name := "print", desc := "()I" } : Jvm.MethodName) : Cond) ∈ lw_g := lw_gm (i := 924) (by decide +kernel) (by decide +kernel)
theorem q925 : (.code ({ cls := "LivesAheadModel", name := "print", desc := "()I" } : Jvm.MethodName) prog_9_method_41_code (3 : Nat) (Option.some .int) : Cond) ∈ lw_g := lw_gm (i := 925) (by decide +kernel) (by decide +kernel)
theorem q926 : (.methodLink "LivesAheadModel" (150 : Nat) ({ cls := "LivesAheadModel", name := "layPage", desc := "()V" } : Jvm.MethodName) : Cond) ∈ lw_g := lw_gm (i := 926) (by decide +kernel) (by decide +kernel)
theorem q928 : (.instanceMethod ({ cls := "LivesAheadModel", name := "layPage", desc := "()V" } : Jvm.MethodName) : Cond) ∈ lw_g := lw_gm (i := 928) (by decide +kernel) (by decide +kernel)
theorem q929 : (.code ({ cls := "LivesAheadModel", name := "layPage", desc := "()V" } : Jvm.MethodName) prog_9_method_40_code (4 : Nat) (Option.none : Option Jvm.ClassFile.FieldType) : Cond) ∈ lw_g := lw_gm (i := 929) (by decide +kernel) (by decide +kernel)
theorem q930 : (.methodLink "LivesAheadModel" (141 : Nat) ({ cls := "LivesAheadModel", name := "isReady", desc := "(I)Z" } : Jvm.MethodName) : Cond) ∈ lw_g := lw_gm (i := 930) (by decide +kernel) (by decide +kernel)
theorem q932 : (.instanceMethod ({ cls := "LivesAheadModel", name := "isReady", desc := "(I)Z" } : Jvm.MethodName) : Cond) ∈ lw_g := lw_gm (i := 932) (by decide +kernel) (by decide +kernel)
theorem q933 : (.code ({ cls := "LivesAheadModel", name := "isReady", desc := "(I)Z" } : Jvm.MethodName) prog_9_method_14_code (2 : Nat) (Option.some .boolean) : Cond) ∈ lw_g := lw_gm (i := 933) (by decide +kernel) (by decide +kernel)
theorem q934 : (.methodLink "LivesAheadModel" (65 : Nat) ({ cls := "LivesAheadModel", name := "sources", desc := "(I)I" } : Jvm.MethodName) : Cond) ∈ lw_g := lw_gm (i := 934) (by decide +kernel) (by decide +kernel)
theorem q936 : (.instanceMethod ({ cls := "LivesAheadModel", name := "sources", desc := "(I)I" } : Jvm.MethodName) : Cond) ∈ lw_g := lw_gm (i := 936) (by decide +kernel) (by decide +kernel)
theorem q937 : (.code ({ cls := "LivesAheadModel", name := "sources", desc := "(I)I" } : Jvm.MethodName) prog_9_method_13_code (5 : Nat) (Option.some .int) : Cond) ∈ lw_g := lw_gm (i := 937) (by decide +kernel) (by decide +kernel)
theorem q938 : (.methodLink "LivesAheadModel" (144 : Nat) ({ cls := "LivesAheadModel", name := "isAhead", desc := "(II)Z" } : Jvm.MethodName) : Cond) ∈ lw_g := lw_gm (i := 938) (by decide +kernel) (by decide +kernel)
theorem q940 : (.instanceMethod ({ cls := "LivesAheadModel", name := "isAhead", desc := "(II)Z" } : Jvm.MethodName) : Cond) ∈ lw_g := lw_gm (i := 940) (by decide +kernel) (by decide +kernel)
theorem q941 : (.code ({ cls := "LivesAheadModel", name := "isAhead", desc := "(II)Z" } : Jvm.MethodName) prog_9_method_39_code (4 : Nat) (Option.some .boolean) : Cond) ∈ lw_g := lw_gm (i := 941) (by decide +kernel) (by decide +kernel)
theorem q942 : (.methodLink "LivesAheadModel" (147 : Nat) ({ cls := "LivesAheadModel", name := "lines", desc := "(I)I" } : Jvm.MethodName) : Cond) ∈ lw_g := lw_gm (i := 942) (by decide +kernel) (by decide +kernel)
theorem q944 : (.instanceMethod ({ cls := "LivesAheadModel", name := "lines", desc := "(I)I" } : Jvm.MethodName) : Cond) ∈ lw_g := lw_gm (i := 944) (by decide +kernel) (by decide +kernel)
theorem q945 : (.code ({ cls := "LivesAheadModel", name := "lines", desc := "(I)I" } : Jvm.MethodName) prog_9_method_12_code (4 : Nat) (Option.some .int) : Cond) ∈ lw_g := lw_gm (i := 945) (by decide +kernel) (by decide +kernel)
theorem q946 : (.methodLink "LivesAheadLaw" (64 : Nat) ({ cls := "LivesAheadModel", name := "correct", desc := "(III)I" } : Jvm.MethodName) : Cond) ∈ lw_g := lw_gm (i := 946) (by decide +kernel) (by decide +kernel)
theorem q947 : (.instanceMethod ({ cls := "LivesAheadModel", name := "correct", desc := "(III)I" } : Jvm.MethodName) : Cond) ∈ lw_g := lw_gm (i := 947) (by decide +kernel) (by decide +kernel)
theorem q948 : (.selects "LivesAheadModel" ({ cls := "LivesAheadModel", name := "correct", desc := "(III)I" } : Jvm.MethodName) ({ cls := "LivesAheadModel", name := "correct", desc := "(III)I" } : Jvm.MethodName) : Cond) ∈ lw_g := lw_gm (i := 948) (by decide +kernel) (by decide +kernel)
theorem q949 : (.code ({ cls := "LivesAheadModel", name := "correct", desc := "(III)I" } : Jvm.MethodName) prog_9_method_42_code (4 : Nat) (Option.some .int) : Cond) ∈ lw_g := lw_gm (i := 949) (by decide +kernel) (by decide +kernel)
theorem q950 : (.methodLink "LivesAheadLaw" (69 : Nat) ({ cls := "LivesAheadModel", name := "type", desc := "(C)I" } : Jvm.MethodName) : Cond) ∈ lw_g := lw_gm (i := 950) (by decide +kernel) (by decide +kernel)
theorem q951 : (.instanceMethod ({ cls := "LivesAheadModel", name := "type", desc := "(C)I" } : Jvm.MethodName) : Cond) ∈ lw_g := lw_gm (i := 951) (by decide +kernel) (by decide +kernel)
theorem q952 : (.selects "LivesAheadModel" ({ cls := "LivesAheadModel", name := "type", desc := "(C)I" } : Jvm.MethodName) ({ cls := "LivesAheadModel", name := "type", desc := "(C)I" } : Jvm.MethodName) : Cond) ∈ lw_g := lw_gm (i := 952) (by decide +kernel) (by decide +kernel)
theorem q953 : (.code ({ cls := "LivesAheadModel", name := "type", desc := "(C)I" } : Jvm.MethodName) prog_9_method_43_code (2 : Nat) (Option.some .int) : Cond) ∈ lw_g := lw_gm (i := 953) (by decide +kernel) (by decide +kernel)
theorem q954 : (.methodLink "LivesAheadLaw" (73 : Nat) ({ cls := "LivesAheadModel", name := "clearText", desc := "()I" } : Jvm.MethodName) : Cond) ∈ lw_g := lw_gm (i := 954) (by decide +kernel) (by decide +kernel)
theorem q955 : (.instanceMethod ({ cls := "LivesAheadModel", name := "clearText", desc := "()I" } : Jvm.MethodName) : Cond) ∈ lw_g := lw_gm (i := 955) (by decide +kernel) (by decide +kernel)
theorem q956 : (.selects "LivesAheadModel" ({ cls := "LivesAheadModel", name := "clearText", desc := "()I" } : Jvm.MethodName) ({ cls := "LivesAheadModel", name := "clearText", desc := "()I" } : Jvm.MethodName) : Cond) ∈ lw_g := lw_gm (i := 956) (by decide +kernel) (by decide +kernel)
theorem q957 : (.code ({ cls := "LivesAheadModel", name := "clearText", desc := "()I" } : Jvm.MethodName) prog_9_method_44_code (2 : Nat) (Option.some .int) : Cond) ∈ lw_g := lw_gm (i := 957) (by decide +kernel) (by decide +kernel)
theorem q958 : (.methodLink "LivesAheadLaw" (77 : Nat) ({ cls := "LivesAheadModel", name := "undo", desc := "()I" } : Jvm.MethodName) : Cond) ∈ lw_g := lw_gm (i := 958) (by decide +kernel) (by decide +kernel)
theorem q959 : (.instanceMethod ({ cls := "LivesAheadModel", name := "undo", desc := "()I" } : Jvm.MethodName) : Cond) ∈ lw_g := lw_gm (i := 959) (by decide +kernel) (by decide +kernel)
theorem q960 : (.selects "LivesAheadModel" ({ cls := "LivesAheadModel", name := "undo", desc := "()I" } : Jvm.MethodName) ({ cls := "LivesAheadModel", name := "undo", desc := "()I" } : Jvm.MethodName) : Cond) ∈ lw_g := lw_gm (i := 960) (by decide +kernel) (by decide +kernel)
theorem q961 : (.code ({ cls := "LivesAheadModel", name := "undo", desc := "()I" } : Jvm.MethodName) prog_9_method_45_code (2 : Nat) (Option.some .int) : Cond) ∈ lw_g := lw_gm (i := 961) (by decide +kernel) (by decide +kernel)
theorem q962 : (.methodLink "LivesAheadLaw" (81 : Nat) ({ cls := "LivesAheadModel", name := "keep", desc := "()I" } : Jvm.MethodName) : Cond) ∈ lw_g := lw_gm (i := 962) (by decide +kernel) (by decide +kernel)
theorem q963 : (.instanceMethod ({ cls := "LivesAheadModel", name := "keep", desc := "()I" } : Jvm.MethodName) : Cond) ∈ lw_g := lw_gm (i := 963) (by decide +kernel) (by decide +kernel)
theorem q964 : (.selects "LivesAheadModel" ({ cls := "LivesAheadModel", name := "keep", desc := "()I" } : Jvm.MethodName) ({ cls := "LivesAheadModel", name := "keep", desc := "()I" } : Jvm.MethodName) : Cond) ∈ lw_g := lw_gm (i := 964) (by decide +kernel) (by decide +kernel)
theorem q965 : (.code ({ cls := "LivesAheadModel", name := "keep", desc := "()I" } : Jvm.MethodName) prog_9_method_46_code (2 : Nat) (Option.some .int) : Cond) ∈ lw_g := lw_gm (i := 965) (by decide +kernel) (by decide +kernel)
theorem q966 : (.methodLink "LivesAheadLaw" (85 : Nat) ({ cls := "LivesAheadModel", name := "restore", desc := "()I" } : Jvm.MethodName) : Cond) ∈ lw_g := lw_gm (i := 966) (by decide +kernel) (by decide +kernel)
theorem q967 : (.instanceMethod ({ cls := "LivesAheadModel", name := "restore", desc := "()I" } : Jvm.MethodName) : Cond) ∈ lw_g := lw_gm (i := 967) (by decide +kernel) (by decide +kernel)
theorem q968 : (.selects "LivesAheadModel" ({ cls := "LivesAheadModel", name := "restore", desc := "()I" } : Jvm.MethodName) ({ cls := "LivesAheadModel", name := "restore", desc := "()I" } : Jvm.MethodName) : Cond) ∈ lw_g := lw_gm (i := 968) (by decide +kernel) (by decide +kernel)
theorem q969 : (.code ({ cls := "LivesAheadModel", name := "restore", desc := "()I" } : Jvm.MethodName) prog_9_method_47_code (2 : Nat) (Option.some .int) : Cond) ∈ lw_g := lw_gm (i := 969) (by decide +kernel) (by decide +kernel)
theorem q970 : (.methodLink "LivesAheadLaw" (89 : Nat) ({ cls := "LivesAheadModel", name := "person", desc := "(II)I" } : Jvm.MethodName) : Cond) ∈ lw_g := lw_gm (i := 970) (by decide +kernel) (by decide +kernel)
theorem q971 : (.instanceMethod ({ cls := "LivesAheadModel", name := "person", desc := "(II)I" } : Jvm.MethodName) : Cond) ∈ lw_g := lw_gm (i := 971) (by decide +kernel) (by decide +kernel)
theorem q972 : (.selects "LivesAheadModel" ({ cls := "LivesAheadModel", name := "person", desc := "(II)I" } : Jvm.MethodName) ({ cls := "LivesAheadModel", name := "person", desc := "(II)I" } : Jvm.MethodName) : Cond) ∈ lw_g := lw_gm (i := 972) (by decide +kernel) (by decide +kernel)
theorem q973 : (.code ({ cls := "LivesAheadModel", name := "person", desc := "(II)I" } : Jvm.MethodName) prog_9_method_48_code (3 : Nat) (Option.some .int) : Cond) ∈ lw_g := lw_gm (i := 973) (by decide +kernel) (by decide +kernel)
theorem q974 : (.methodLink "LivesAheadLaw" (93 : Nat) ({ cls := "LivesAheadModel", name := "fact", desc := "(III)I" } : Jvm.MethodName) : Cond) ∈ lw_g := lw_gm (i := 974) (by decide +kernel) (by decide +kernel)
theorem q975 : (.instanceMethod ({ cls := "LivesAheadModel", name := "fact", desc := "(III)I" } : Jvm.MethodName) : Cond) ∈ lw_g := lw_gm (i := 975) (by decide +kernel) (by decide +kernel)
theorem q976 : (.selects "LivesAheadModel" ({ cls := "LivesAheadModel", name := "fact", desc := "(III)I" } : Jvm.MethodName) ({ cls := "LivesAheadModel", name := "fact", desc := "(III)I" } : Jvm.MethodName) : Cond) ∈ lw_g := lw_gm (i := 976) (by decide +kernel) (by decide +kernel)
theorem q977 : (.code ({ cls := "LivesAheadModel", name := "fact", desc := "(III)I" } : Jvm.MethodName) prog_9_method_49_code (4 : Nat) (Option.some .int) : Cond) ∈ lw_g := lw_gm (i := 977) (by decide +kernel) (by decide +kernel)
theorem q978 : (.methodLink "LivesAheadModel" (157 : Nat) ({ cls := "java/lang/Float", name := "floatToIntBits", desc := "(F)I" } : Jvm.MethodName) : Cond) ∈ lw_g := lw_gm (i := 978) (by decide +kernel) (by decide +kernel)
theorem q979 : (.static ({ cls := "java/lang/Float", name := "floatToIntBits", desc := "(F)I" } : Jvm.MethodName) : Cond) ∈ lw_g := lw_gm (i := 979) (by decide +kernel) (by decide +kernel)
theorem q980 : (.code ({ cls := "java/lang/Float", name := "floatToIntBits", desc := "(F)I" } : Jvm.MethodName) prog_10_method_24_code (1 : Nat) (Option.some .int) : Cond) ∈ lw_g := lw_gm (i := 980) (by decide +kernel) (by decide +kernel)
theorem q981 : (.methodLink "java/lang/Float" (59 : Nat) ({ cls := "java/lang/Float", name := "isNaN", desc := "(F)Z" } : Jvm.MethodName) : Cond) ∈ lw_g := lw_gm (i := 981) (by decide +kernel) (by decide +kernel)
theorem q982 : (.static ({ cls := "java/lang/Float", name := "isNaN", desc := "(F)Z" } : Jvm.MethodName) : Cond) ∈ lw_g := lw_gm (i := 982) (by decide +kernel) (by decide +kernel)
theorem q983 : (.code ({ cls := "java/lang/Float", name := "isNaN", desc := "(F)Z" } : Jvm.MethodName) prog_10_method_6_code (1 : Nat) (Option.some .boolean) : Cond) ∈ lw_g := lw_gm (i := 983) (by decide +kernel) (by decide +kernel)
theorem q984 : (.methodLink "java/lang/Float" (74 : Nat) ({ cls := "java/lang/Float", name := "floatToRawIntBits", desc := "(F)I" } : Jvm.MethodName) : Cond) ∈ lw_g := lw_gm (i := 984) (by decide +kernel) (by decide +kernel)
theorem q985 : (.static ({ cls := "java/lang/Float", name := "floatToRawIntBits", desc := "(F)I" } : Jvm.MethodName) : Cond) ∈ lw_g := lw_gm (i := 985) (by decide +kernel) (by decide +kernel)
theorem q986 : (.native ({ cls := "java/lang/Float", name := "floatToRawIntBits", desc := "(F)I" } : Jvm.MethodName) : Cond) ∈ lw_g := lw_gm (i := 986) (by decide +kernel) (by decide +kernel)
theorem q987 : (.constant "java/lang/Float" (77 : Nat) (2143289344 : Int32) : Cond) ∈ lw_g := lw_gm (i := 987) (by decide +kernel) (by decide +kernel)
theorem q988 : (.methodLink "LivesAheadLaw" (98 : Nat) ({ cls := "LivesAheadModel", name := "worth", desc := "(I)F" } : Jvm.MethodName) : Cond) ∈ lw_g := lw_gm (i := 988) (by decide +kernel) (by decide +kernel)
theorem q989 : (.instanceMethod ({ cls := "LivesAheadModel", name := "worth", desc := "(I)F" } : Jvm.MethodName) : Cond) ∈ lw_g := lw_gm (i := 989) (by decide +kernel) (by decide +kernel)
theorem q990 : (.selects "LivesAheadModel" ({ cls := "LivesAheadModel", name := "worth", desc := "(I)F" } : Jvm.MethodName) ({ cls := "LivesAheadModel", name := "worth", desc := "(I)F" } : Jvm.MethodName) : Cond) ∈ lw_g := lw_gm (i := 990) (by decide +kernel) (by decide +kernel)
theorem q991 : (.code ({ cls := "LivesAheadModel", name := "worth", desc := "(I)F" } : Jvm.MethodName) prog_9_method_50_code (4 : Nat) (Option.some .float) : Cond) ∈ lw_g := lw_gm (i := 991) (by decide +kernel) (by decide +kernel)
theorem q992 : (.constantFloat "LivesAheadModel" (163 : Nat) (3212836864 : UInt32) : Cond) ∈ lw_g := lw_gm (i := 992) (by decide +kernel) (by decide +kernel)
theorem q993 : (.methodLink "LivesAheadLaw" (103 : Nat) ({ cls := "LivesAheadModel", name := "urgent", desc := "(I)I" } : Jvm.MethodName) : Cond) ∈ lw_g := lw_gm (i := 993) (by decide +kernel) (by decide +kernel)
theorem q994 : (.instanceMethod ({ cls := "LivesAheadModel", name := "urgent", desc := "(I)I" } : Jvm.MethodName) : Cond) ∈ lw_g := lw_gm (i := 994) (by decide +kernel) (by decide +kernel)
theorem q995 : (.selects "LivesAheadModel" ({ cls := "LivesAheadModel", name := "urgent", desc := "(I)I" } : Jvm.MethodName) ({ cls := "LivesAheadModel", name := "urgent", desc := "(I)I" } : Jvm.MethodName) : Cond) ∈ lw_g := lw_gm (i := 995) (by decide +kernel) (by decide +kernel)
theorem q996 : (.code ({ cls := "LivesAheadModel", name := "urgent", desc := "(I)I" } : Jvm.MethodName) prog_9_method_51_code (7 : Nat) (Option.some .int) : Cond) ∈ lw_g := lw_gm (i := 996) (by decide +kernel) (by decide +kernel)
theorem q997 : (.methodLink "LivesAheadLaw" (107 : Nat) ({ cls := "LivesAheadModel", name := "page", desc := "(I)I" } : Jvm.MethodName) : Cond) ∈ lw_g := lw_gm (i := 997) (by decide +kernel) (by decide +kernel)
theorem q998 : (.instanceMethod ({ cls := "LivesAheadModel", name := "page", desc := "(I)I" } : Jvm.MethodName) : Cond) ∈ lw_g := lw_gm (i := 998) (by decide +kernel) (by decide +kernel)
theorem q999 : (.selects "LivesAheadModel" ({ cls := "LivesAheadModel", name := "page", desc := "(I)I" } : Jvm.MethodName) ({ cls := "LivesAheadModel", name := "page", desc := "(I)I" } : Jvm.MethodName) : Cond) ∈ lw_g := lw_gm (i := 999) (by decide +kernel) (by decide +kernel)
theorem q1000 : (.code ({ cls := "LivesAheadModel", name := "page", desc := "(I)I" } : Jvm.MethodName) prog_9_method_52_code (2 : Nat) (Option.some .int) : Cond) ∈ lw_g := lw_gm (i := 1000) (by decide +kernel) (by decide +kernel)
theorem q1001 : (.methodLink "LivesAheadLaw" (111 : Nat) ({ cls := "LivesAheadModel", name := "source", desc := "(II)I" } : Jvm.MethodName) : Cond) ∈ lw_g := lw_gm (i := 1001) (by decide +kernel) (by decide +kernel)
theorem q1002 : (.instanceMethod ({ cls := "LivesAheadModel", name := "source", desc := "(II)I" } : Jvm.MethodName) : Cond) ∈ lw_g := lw_gm (i := 1002) (by decide +kernel) (by decide +kernel)
theorem q1003 : (.selects "LivesAheadModel" ({ cls := "LivesAheadModel", name := "source", desc := "(II)I" } : Jvm.MethodName) ({ cls := "LivesAheadModel", name := "source", desc := "(II)I" } : Jvm.MethodName) : Cond) ∈ lw_g := lw_gm (i := 1003) (by decide +kernel) (by decide +kernel)
theorem q1004 : (.code ({ cls := "LivesAheadModel", name := "source", desc := "(II)I" } : Jvm.MethodName) prog_9_method_53_code (7 : Nat) (Option.some .int) : Cond) ∈ lw_g := lw_gm (i := 1004) (by decide +kernel) (by decide +kernel)
theorem q1005 : (.methodLink "LivesAheadLaw" (115 : Nat) ({ cls := "LivesAheadModel", name := "staleIn", desc := "(I)I" } : Jvm.MethodName) : Cond) ∈ lw_g := lw_gm (i := 1005) (by decide +kernel) (by decide +kernel)
theorem q1006 : (.instanceMethod ({ cls := "LivesAheadModel", name := "staleIn", desc := "(I)I" } : Jvm.MethodName) : Cond) ∈ lw_g := lw_gm (i := 1006) (by decide +kernel) (by decide +kernel)
theorem q1007 : (.selects "LivesAheadModel" ({ cls := "LivesAheadModel", name := "staleIn", desc := "(I)I" } : Jvm.MethodName) ({ cls := "LivesAheadModel", name := "staleIn", desc := "(I)I" } : Jvm.MethodName) : Cond) ∈ lw_g := lw_gm (i := 1007) (by decide +kernel) (by decide +kernel)
theorem q1008 : (.code ({ cls := "LivesAheadModel", name := "staleIn", desc := "(I)I" } : Jvm.MethodName) prog_9_method_55_code (2 : Nat) (Option.some .int) : Cond) ∈ lw_g := lw_gm (i := 1008) (by decide +kernel) (by decide +kernel)
theorem q1009 : (.methodLink "LivesAheadModel" (164 : Nat) ({ cls := "LivesAheadModel", name := "staleOn", desc := "(I)I" } : Jvm.MethodName) : Cond) ∈ lw_g := lw_gm (i := 1009) (by decide +kernel) (by decide +kernel)
theorem q1011 : (.instanceMethod ({ cls := "LivesAheadModel", name := "staleOn", desc := "(I)I" } : Jvm.MethodName) : Cond) ∈ lw_g := lw_gm (i := 1011) (by decide +kernel) (by decide +kernel)
theorem q1012 : (.code ({ cls := "LivesAheadModel", name := "staleOn", desc := "(I)I" } : Jvm.MethodName) prog_9_method_54_code (4 : Nat) (Option.some .int) : Cond) ∈ lw_g := lw_gm (i := 1012) (by decide +kernel) (by decide +kernel)
theorem q1013 : (.methodLink "LivesAheadLaw" (119 : Nat) ({ cls := "LivesAheadModel", name := "count", desc := "(I)I" } : Jvm.MethodName) : Cond) ∈ lw_g := lw_gm (i := 1013) (by decide +kernel) (by decide +kernel)
theorem q1014 : (.instanceMethod ({ cls := "LivesAheadModel", name := "count", desc := "(I)I" } : Jvm.MethodName) : Cond) ∈ lw_g := lw_gm (i := 1014) (by decide +kernel) (by decide +kernel)
theorem q1015 : (.selects "LivesAheadModel" ({ cls := "LivesAheadModel", name := "count", desc := "(I)I" } : Jvm.MethodName) ({ cls := "LivesAheadModel", name := "count", desc := "(I)I" } : Jvm.MethodName) : Cond) ∈ lw_g := lw_gm (i := 1015) (by decide +kernel) (by decide +kernel)
theorem q1016 : (.code ({ cls := "LivesAheadModel", name := "count", desc := "(I)I" } : Jvm.MethodName) prog_9_method_58_code (2 : Nat) (Option.some .int) : Cond) ∈ lw_g := lw_gm (i := 1016) (by decide +kernel) (by decide +kernel)
theorem q1017 : (.methodLink "LivesAheadModel" (167 : Nat) ({ cls := "LivesAheadModel", name := "facts", desc := "()I" } : Jvm.MethodName) : Cond) ∈ lw_g := lw_gm (i := 1017) (by decide +kernel) (by decide +kernel)
theorem q1019 : (.instanceMethod ({ cls := "LivesAheadModel", name := "facts", desc := "()I" } : Jvm.MethodName) : Cond) ∈ lw_g := lw_gm (i := 1019) (by decide +kernel) (by decide +kernel)
theorem q1020 : (.code ({ cls := "LivesAheadModel", name := "facts", desc := "()I" } : Jvm.MethodName) prog_9_method_56_code (3 : Nat) (Option.some .int) : Cond) ∈ lw_g := lw_gm (i := 1020) (by decide +kernel) (by decide +kernel)
theorem q1021 : (.methodLink "LivesAheadModel" (170 : Nat) ({ cls := "LivesAheadModel", name := "freeLines", desc := "()I" } : Jvm.MethodName) : Cond) ∈ lw_g := lw_gm (i := 1021) (by decide +kernel) (by decide +kernel)
theorem q1023 : (.instanceMethod ({ cls := "LivesAheadModel", name := "freeLines", desc := "()I" } : Jvm.MethodName) : Cond) ∈ lw_g := lw_gm (i := 1023) (by decide +kernel) (by decide +kernel)
theorem q1024 : (.code ({ cls := "LivesAheadModel", name := "freeLines", desc := "()I" } : Jvm.MethodName) prog_9_method_57_code (1 : Nat) (Option.some .int) : Cond) ∈ lw_g := lw_gm (i := 1024) (by decide +kernel) (by decide +kernel)
theorem q0 : (.selects "LivesAhead$History" ⟨"LivesAhead$History", "stateAt", "(I)LLivesAhead$Desk;"⟩ ⟨"LivesAhead$History", "stateAt", "(I)LLivesAhead$Desk;"⟩ : Cond) ∈ lw_g := lw_gm (i := 0) (by decide +kernel) (by decide +kernel)
theorem q1 : (.selects "LivesAhead$PersonsText" ⟨"LivesAhead$PersonsText", "readPerson", "(LLivesAhead$Life;I)Z"⟩ ⟨"LivesAhead$PersonsText", "readPerson", "(LLivesAhead$Life;I)Z"⟩ : Cond) ∈ lw_g := lw_gm (i := 1) (by decide +kernel) (by decide +kernel)
theorem q2 : (.selects "LivesAhead$PersonsText" ⟨"LivesAhead$PersonsText", "takeAge", "()I"⟩ ⟨"LivesAhead$PersonsText", "takeAge", "()I"⟩ : Cond) ∈ lw_g := lw_gm (i := 2) (by decide +kernel) (by decide +kernel)
theorem q3 : (.selects "LivesAhead$PersonsText" ⟨"LivesAhead$PersonsText", "takeDigit", "(II)I"⟩ ⟨"LivesAhead$PersonsText", "takeDigit", "(II)I"⟩ : Cond) ∈ lw_g := lw_gm (i := 3) (by decide +kernel) (by decide +kernel)
theorem q4 : (.selects "LivesAhead$PersonsText" ⟨"LivesAhead$PersonsText", "takes", "(C)Z"⟩ ⟨"LivesAhead$PersonsText", "takes", "(C)Z"⟩ : Cond) ∈ lw_g := lw_gm (i := 4) (by decide +kernel) (by decide +kernel)
theorem q5 : (.selects "LivesAhead$PersonsText" ⟨"LivesAhead$PersonsText", "readFact", "(LLivesAhead$Life;I)Z"⟩ ⟨"LivesAhead$PersonsText", "readFact", "(LLivesAhead$Life;I)Z"⟩ : Cond) ∈ lw_g := lw_gm (i := 5) (by decide +kernel) (by decide +kernel)
theorem q6 : (.selects "LivesAhead$Page" ⟨"LivesAhead$Page", "queueDead", "(LLivesAhead$Desk;)V"⟩ ⟨"LivesAhead$Page", "queueDead", "(LLivesAhead$Desk;)V"⟩ : Cond) ∈ lw_g := lw_gm (i := 6) (by decide +kernel) (by decide +kernel)
theorem q7 : (.selects "LivesAheadModel" ⟨"LivesAheadModel", "record", "()V"⟩ ⟨"LivesAheadModel", "record", "()V"⟩ : Cond) ∈ lw_g := lw_gm (i := 7) (by decide +kernel) (by decide +kernel)
theorem q8 : (.selects "LivesAheadModel" ⟨"LivesAheadModel", "come", "(II)I"⟩ ⟨"LivesAheadModel", "come", "(II)I"⟩ : Cond) ∈ lw_g := lw_gm (i := 8) (by decide +kernel) (by decide +kernel)
theorem q9 : (.selects "LivesAheadModel" ⟨"LivesAheadModel", "faultOf", "()I"⟩ ⟨"LivesAheadModel", "faultOf", "()I"⟩ : Cond) ∈ lw_g := lw_gm (i := 9) (by decide +kernel) (by decide +kernel)
theorem q10 : (.selects "LivesAheadModel" ⟨"LivesAheadModel", "readsPerson", "()Z"⟩ ⟨"LivesAheadModel", "readsPerson", "()Z"⟩ : Cond) ∈ lw_g := lw_gm (i := 10) (by decide +kernel) (by decide +kernel)
theorem q11 : (.selects "LivesAheadModel" ⟨"LivesAheadModel", "age", "()I"⟩ ⟨"LivesAheadModel", "age", "()I"⟩ : Cond) ∈ lw_g := lw_gm (i := 11) (by decide +kernel) (by decide +kernel)
theorem q12 : (.selects "LivesAheadModel" ⟨"LivesAheadModel", "digit", "(CC)I"⟩ ⟨"LivesAheadModel", "digit", "(CC)I"⟩ : Cond) ∈ lw_g := lw_gm (i := 12) (by decide +kernel) (by decide +kernel)
theorem q13 : (.selects "LivesAheadModel" ⟨"LivesAheadModel", "isSign", "(ICC)Z"⟩ ⟨"LivesAheadModel", "isSign", "(ICC)Z"⟩ : Cond) ∈ lw_g := lw_gm (i := 13) (by decide +kernel) (by decide +kernel)
theorem q14 : (.selects "LivesAheadModel" ⟨"LivesAheadModel", "accepts", "(C)Z"⟩ ⟨"LivesAheadModel", "accepts", "(C)Z"⟩ : Cond) ∈ lw_g := lw_gm (i := 14) (by decide +kernel) (by decide +kernel)
theorem q15 : (.selects "LivesAheadModel" ⟨"LivesAheadModel", "readsFact", "(I)Z"⟩ ⟨"LivesAheadModel", "readsFact", "(I)Z"⟩ : Cond) ∈ lw_g := lw_gm (i := 15) (by decide +kernel) (by decide +kernel)
theorem q16 : (.selects "LivesAheadModel" ⟨"LivesAheadModel", "add", "(III)V"⟩ ⟨"LivesAheadModel", "add", "(III)V"⟩ : Cond) ∈ lw_g := lw_gm (i := 16) (by decide +kernel) (by decide +kernel)
theorem q17 : (.selects "LivesAheadModel" ⟨"LivesAheadModel", "of", "(II)I"⟩ ⟨"LivesAheadModel", "of", "(II)I"⟩ : Cond) ∈ lw_g := lw_gm (i := 17) (by decide +kernel) (by decide +kernel)
theorem q18 : (.selects "LivesAheadModel" ⟨"LivesAheadModel", "isPerson", "(I)Z"⟩ ⟨"LivesAheadModel", "isPerson", "(I)Z"⟩ : Cond) ∈ lw_g := lw_gm (i := 18) (by decide +kernel) (by decide +kernel)
theorem q19 : (.selects "LivesAheadModel" ⟨"LivesAheadModel", "isFact", "(II)Z"⟩ ⟨"LivesAheadModel", "isFact", "(II)Z"⟩ : Cond) ∈ lw_g := lw_gm (i := 19) (by decide +kernel) (by decide +kernel)
theorem q20 : (.selects "LivesAheadModel" ⟨"LivesAheadModel", "mostUrgent", "()I"⟩ ⟨"LivesAheadModel", "mostUrgent", "()I"⟩ : Cond) ∈ lw_g := lw_gm (i := 20) (by decide +kernel) (by decide +kernel)
theorem q21 : (.selects "LivesAheadModel" ⟨"LivesAheadModel", "due", "(I)I"⟩ ⟨"LivesAheadModel", "due", "(I)I"⟩ : Cond) ∈ lw_g := lw_gm (i := 21) (by decide +kernel) (by decide +kernel)
theorem q22 : (.selects "LivesAheadModel" ⟨"LivesAheadModel", "isStaleOn", "(III)Z"⟩ ⟨"LivesAheadModel", "isStaleOn", "(III)Z"⟩ : Cond) ∈ lw_g := lw_gm (i := 22) (by decide +kernel) (by decide +kernel)
theorem q23 : (.selects "LivesAheadModel" ⟨"LivesAheadModel", "worthOn", "(III)F"⟩ ⟨"LivesAheadModel", "worthOn", "(III)F"⟩ : Cond) ∈ lw_g := lw_gm (i := 23) (by decide +kernel) (by decide +kernel)
theorem q24 : (.selects "LivesAheadModel" ⟨"LivesAheadModel", "urgency", "(I)I"⟩ ⟨"LivesAheadModel", "urgency", "(I)I"⟩ : Cond) ∈ lw_g := lw_gm (i := 24) (by decide +kernel) (by decide +kernel)
theorem q25 : (.selects "LivesAheadModel" ⟨"LivesAheadModel", "stale", "(II)I"⟩ ⟨"LivesAheadModel", "stale", "(II)I"⟩ : Cond) ∈ lw_g := lw_gm (i := 25) (by decide +kernel) (by decide +kernel)
theorem q26 : (.selects "LivesAheadModel" ⟨"LivesAheadModel", "inState", "(I)I"⟩ ⟨"LivesAheadModel", "inState", "(I)I"⟩ : Cond) ∈ lw_g := lw_gm (i := 26) (by decide +kernel) (by decide +kernel)
theorem q27 : (.selects "LivesAheadModel" ⟨"LivesAheadModel", "layPage", "()V"⟩ ⟨"LivesAheadModel", "layPage", "()V"⟩ : Cond) ∈ lw_g := lw_gm (i := 27) (by decide +kernel) (by decide +kernel)
theorem q28 : (.selects "LivesAheadModel" ⟨"LivesAheadModel", "isReady", "(I)Z"⟩ ⟨"LivesAheadModel", "isReady", "(I)Z"⟩ : Cond) ∈ lw_g := lw_gm (i := 28) (by decide +kernel) (by decide +kernel)
theorem q29 : (.selects "LivesAheadModel" ⟨"LivesAheadModel", "sources", "(I)I"⟩ ⟨"LivesAheadModel", "sources", "(I)I"⟩ : Cond) ∈ lw_g := lw_gm (i := 29) (by decide +kernel) (by decide +kernel)
theorem q30 : (.selects "LivesAheadModel" ⟨"LivesAheadModel", "isAhead", "(II)Z"⟩ ⟨"LivesAheadModel", "isAhead", "(II)Z"⟩ : Cond) ∈ lw_g := lw_gm (i := 30) (by decide +kernel) (by decide +kernel)
theorem q31 : (.selects "LivesAheadModel" ⟨"LivesAheadModel", "lines", "(I)I"⟩ ⟨"LivesAheadModel", "lines", "(I)I"⟩ : Cond) ∈ lw_g := lw_gm (i := 31) (by decide +kernel) (by decide +kernel)
theorem q32 : (.selects "LivesAheadModel" ⟨"LivesAheadModel", "staleOn", "(I)I"⟩ ⟨"LivesAheadModel", "staleOn", "(I)I"⟩ : Cond) ∈ lw_g := lw_gm (i := 32) (by decide +kernel) (by decide +kernel)
theorem q33 : (.selects "LivesAheadModel" ⟨"LivesAheadModel", "facts", "()I"⟩ ⟨"LivesAheadModel", "facts", "()I"⟩ : Cond) ∈ lw_g := lw_gm (i := 33) (by decide +kernel) (by decide +kernel)
theorem q34 : (.selects "LivesAheadModel" ⟨"LivesAheadModel", "freeLines", "()I"⟩ ⟨"LivesAheadModel", "freeLines", "()I"⟩ : Cond) ∈ lw_g := lw_gm (i := 34) (by decide +kernel) (by decide +kernel)
end
section
/-! the machine, seen through a numbered world: cell k of ours lies at the address b + k; Y: from here the end is reached, whatever the heap, as long as it shows this world -/
abbrev gG : Type := va_G × (Nat → ClassId)
abbrev gX : Type := (Program × Launch × Env × Room × State) × (MethodId × Array Value × List Frame × Method × Code) × (State → Prop)
def iI (a : Int) : Int32 := Int32.ofInt a
def ad (b : Nat) (k : Int) : Nat := b + k.toNat
abbrev gs (x : gX) : State := x.1.2.2.2.2
abbrev gc (x : gX) : Code := x.2.1.2.2.2.2
def gW (x : gX) (H : Heap) (locs : List Loc) (cl sl : Nat) (g : JFrame) : Prop := W x.1.1 x.1.2.1 x.1.2.2.1 x.1.2.2.2.1 (gs x) x.2.1.1 x.2.1.2.1 x.2.1.2.2.1 x.2.1.2.2.2.1 (gc x) H locs cl sl x.2.2 g
def tysG (G : gG) : List (ClassId × FieldType) := [(G.2 0, .int), (G.2 1, .boolean), (G.2 2, .char), (G.2 3, .object RX2), (G.2 4, .object RX0)]
def nestW : List Cond := [.methodLinkNest RX0 24 yX2_init RX6, .methodLinkNest RX4 21 yX2_init RX6, .methodLinkNest RX6 35 yX5_init RX6, .methodLinkNest RX6 42 yX3_init RX6, .methodLinkNest RX3 11 yX5_init RX6, .methodLinkNest RX4 68 yX6_isWithin RX6, .methodLinkNest RX0 74 yX6_isSource RX6, .methodLinkNest RX0 70 yX6_isSetting RX6]
def Kx (G : gG) (U : State) : Prop := va_K G.1 vwCl (tysG G) U ∧ va_AO RX2 U ∧ va_AO RX0 U ∧ ∀ w ∈ nestW, va_Nw w U
def Rp (G : gG) (b : Nat) (n : Int) (w : Int → va_E) (H : Heap) : Prop := 0 ≤ n ∧ H.size = ad b n ∧ ∀ k, 0 ≤ k → k < n → va_at G.1 vwCl (ad b k, w k) H
def Y (x : gX) (G : gG) (b : Nat) (cl sl : Nat) (n : Int) (w : Int → va_E) (pc : Nat) (lv : List (Nat × Value)) (st : List Value) : Prop :=
  ∀ (H : Heap) (locs : List Loc) (ls : Array Slot), Rp G b n w H → va_S (fun q => b ≤ q) (gs x).heap H locs → lv_has ls (gc x).maxLocals lv → gW x H locs cl sl (F0 x.2.1.1 pc ls st)
/-- what stands in a body: the machine, the code's bytes, its locals, its class, the words, the tables, its room -/
def Bx (x : gX) (G : gG) (b : Nat) (own : String) (cc : ByteArray) (nL : Nat) (ret : Option FieldType) (rm : Room) (nm : String) : Prop :=
  x.1.1.tables.exec = Jvm.exec ∧ (gc x).code = cc ∧ (gc x).maxLocals = nL ∧ (gs x).vm.findClass own = some x.2.1.1.cls ∧ (∀ w ∈ lw_g, w.before x.2.1.2.1 (gs x) = true) ∧ Kx G (gs x) ∧ b ≤ (gs x).heap.size ∧ x.2.1.2.2.2.1.locks = false ∧ x.2.1.2.2.2.1.sig.returnType = ret ∧ x.1.2.2.2.1 = rm ∧ x.2.1.2.2.2.1.name = nm
def Px (G : gG) (b : Nat) (av : List Value) (n : Int) (w : Int → va_E) (K : State → Prop) : Array Value → State → Prop := fun v U => v = av.toArray ∧ Rp G b n w U.heap ∧ Kx G U ∧ K U
abbrev gP : Type := Option Value → Int → (Int → va_E) → Prop
def Qx (G : gG) (b : Nat) (Po : gP) : Array Value → State → Outcome → State → Prop := fun _ st oc t => ∃ (r : Option Value) (n : Int) (w : Int → va_E), oc = .returned r ∧ Po r n w ∧ Rp G b n w t.heap ∧ va_F (fun q => b ≤ q) st t
/-- the end that a body goes to -/
def Ex (x : gX) (G : gG) (b : Nat) (Po : gP) (mc ms : Nat) : Prop := x.2.2 = MQ x.2.1.2.2.1 (Qx G b Po) x.2.1.2.1 (gs x) mc ms (fun q => b ≤ q)
/-- a method's contract -/
def cw (y : MethodName) (cc : ByteArray) (nL : Nat) (ret : Option FieldType) : List Cond := .code y cc nL ret :: lw_g
def CtK (l : Launch) (G : gG) (b : Nat) (K : State → Prop) (y : MethodName) (cc : ByteArray) (nL : Nat) (ret : Option FieldType) (rm : Room) (av : List Value) (n : Int) (w : Int → va_E) (Po : gP) : Prop :=
  Met l y (cw y cc nL ret) rm (Px G b av n w K) (Qx G b Po) rm.cells rm.slots (fun q => b ≤ q)
abbrev Ct (l : Launch) (G : gG) (b : Nat) (y : MethodName) (cc : ByteArray) (nL : Nat) (ret : Option FieldType) (rm : Room) (av : List Value) (n : Int) (w : Int → va_E) (Po : gP) : Prop := CtK l G b (fun _ => True) y cc nL ret rm av n w Po
theorem Kx.moved {G : gG} {u U : State} (hvm : u.vm.Alike U.vm) (hn : ∀ w ∈ nestW, va_Nw w U) (h : Kx G u) : Kx G U := ⟨va_K.moved hvm h.1, va_AO.moved hvm h.2.1, va_AO.moved hvm h.2.2.1, hn⟩
theorem gd_all {y : MethodName} {cc : ByteArray} {nL : Nat} {ret : Option FieldType} (h : (Cond.code y cc nL ret : Cond) ∈ lw_g) : GoodIn lw_g (cw y cc nL ret) := by
  intro w hw
  have hm : w ∈ lw_g := by
    rcases List.mem_cons.mp hw with e | e
    · rw [e]; exact h
    · exact e
  exact ⟨hm, good_of_word (List.mem_filter.mp hm).2⟩
theorem iI_0 : iI 0 = 0 := rfl
theorem iI_add {u v : Int} : iI u + iI v = iI (u + v) := (Int32.ofInt_add u v).symm
theorem iI_sub {u v : Int} : iI u - iI v = iI (u - v) := (Int32.ofInt_sub u v).symm
theorem iI_mul {u v : Int} : iI u * iI v = iI (u * v) := (Int32.ofInt_mul u v).symm
theorem iI_toInt {u : Int} (h : -2147483648 ≤ u ∧ u ≤ 2147483647) : (iI u).toInt = u := Int32.toInt_ofInt_of_le (by omega) (by omega)
theorem iI_of (x : Int32) : x = iI x.toInt := (Int32.ofInt_toInt x).symm
theorem iI_ofb (x : Int32) : -2147483648 ≤ x.toInt ∧ x.toInt ≤ 2147483647 := by
  have h1 := Int32.le_toInt x
  have h2 := Int32.toInt_lt x
  constructor
  · simpa using h1
  · have : x.toInt < 2147483648 := by simpa using h2
    omega
theorem iI_eq {u v : Int} (hu : -2147483648 ≤ u ∧ u ≤ 2147483647) (hv : -2147483648 ≤ v ∧ v ≤ 2147483647) : iI u = iI v ↔ u = v := ⟨fun h => by rw [← iI_toInt hu, ← iI_toInt hv, h], fun h => by rw [h]⟩
theorem iI_lt {u v : Int} (hu : -2147483648 ≤ u ∧ u ≤ 2147483647) (hv : -2147483648 ≤ v ∧ v ≤ 2147483647) : iI u < iI v ↔ u < v := by rw [Int32.lt_iff_toInt_lt, iI_toInt hu, iI_toInt hv]
theorem iI_le {u v : Int} (hu : -2147483648 ≤ u ∧ u ≤ 2147483647) (hv : -2147483648 ≤ v ∧ v ≤ 2147483647) : iI u ≤ iI v ↔ u ≤ v := by rw [Int32.le_iff_toInt_le, iI_toInt hu, iI_toInt hv]
theorem iI_div {u v : Int} (hu : 0 ≤ u ∧ u ≤ 2147483647) (hv : 0 < v ∧ v ≤ 2147483647) : iI u / iI v = iI (u / v) := by
  apply Int32.toInt_inj.mp
  have h0 : 0 ≤ u / v := Int.ediv_nonneg hu.1 (by omega)
  have h1 : u / v ≤ u := Int.ediv_le_self v hu.1
  rw [Int32.toInt_div, iI_toInt (by omega), iI_toInt (by omega), iI_toInt (by omega), Int.tdiv_eq_ediv_of_nonneg hu.1]
  exact Int.bmod_eq_of_le (by omega) (by omega)
theorem iI_rem {u v : Int} (hu : 0 ≤ u ∧ u ≤ 2147483647) (hv : 0 < v ∧ v ≤ 2147483647) : iI u - iI u / iI v * iI v = iI (u % v) := by
  rw [iI_div hu hv, iI_mul, iI_sub]
  congr 1
  have := Int.emod_add_mul_ediv u v
  rw [Int.mul_comm] at this
  omega
theorem iI_cl {u : Int} (h : 0 ≤ u ∧ u ≤ 2147483647) : (iI u).toNatClampNeg = u.toNat := by
  show (iI u).toInt.toNat = u.toNat
  rw [iI_toInt (by omega)]
theorem iI_in {u : Int} {n : Nat} (h : 0 ≤ u ∧ u < n) (hn : n < 2147483648) : vp_in (iI u) n := by
  rw [vp_in_iff, iI_toInt (by omega)]
  exact h
theorem iI_nI (n : Nat) : nI n = iI (n : Int) := by
  show Int32.ofNat n = Int32.ofInt (n : Int)
  rfl
def cmpI : Option Ordering → CmpOp → Int
  | none, .l => -1
  | none, .g => 1
  | some .lt, _ => -1
  | some .eq, _ => 0
  | some .gt, _ => 1
theorem cmpI_v (o : Option Ordering) (op : CmpOp) : Op.cmpValue o op = iI (cmpI o op) := by
  cases o with
  | none => cases op <;> rfl
  | some z => cases z <;> rfl
theorem cmpI_b (o : Option Ordering) (op : CmpOp) : -1 ≤ cmpI o op ∧ cmpI o op ≤ 1 := by
  cases o with
  | none => cases op <;> simp [cmpI]
  | some z => cases z <;> simp [cmpI]
theorem y_iconst {x : gX} {G : gG} {b cl sl nL : Nat} {own nm : String} {cc : ByteArray} {ret : Option FieldType} {rm : Room} {n : Int} {w : Int → va_E} {pc : Nat} {lv : List (Nat × Value)} {st : List Value} (hB : Bx x G b own cc nL ret rm nm) {k v : Int} (d : decode cc pc = .ok (.iconst k, 1)) (hv : k = v) (kk : Y x G b cl sl n w (pc + 1) lv (.int (iI v) :: st)) : Y x G b cl sl n w (pc) lv (st) := by
  subst hv
  obtain ⟨hx, hb, hml, hown, hts, hK, hbs, hlk, hrt, hR, hnm⟩ := hB
  intro H locs ls hRp hS hL
  exact lv_iconst hx hb d rfl (kk H locs ls hRp hS hL)
theorem y_bipush {x : gX} {G : gG} {b cl sl nL : Nat} {own nm : String} {cc : ByteArray} {ret : Option FieldType} {rm : Room} {n : Int} {w : Int → va_E} {pc : Nat} {lv : List (Nat × Value)} {st : List Value} (hB : Bx x G b own cc nL ret rm nm) {k v : Int} (d : decode cc pc = .ok (.bipush k, 2)) (hv : (Int8.ofInt k).toInt32 = iI v) (kk : Y x G b cl sl n w (pc + 2) lv (.int (iI v) :: st)) : Y x G b cl sl n w (pc) lv (st) := by
  obtain ⟨hx, hb, hml, hown, hts, hK, hbs, hlk, hrt, hR, hnm⟩ := hB
  intro H locs ls hRp hS hL
  exact lv_bipush hx hb d hv (kk H locs ls hRp hS hL)
theorem y_sipush {x : gX} {G : gG} {b cl sl nL : Nat} {own nm : String} {cc : ByteArray} {ret : Option FieldType} {rm : Room} {n : Int} {w : Int → va_E} {pc : Nat} {lv : List (Nat × Value)} {st : List Value} (hB : Bx x G b own cc nL ret rm nm) {k v : Int} (d : decode cc pc = .ok (.sipush k, 3)) (hv : (Int16.ofInt k).toInt32 = iI v) (kk : Y x G b cl sl n w (pc + 3) lv (.int (iI v) :: st)) : Y x G b cl sl n w (pc) lv (st) := by
  obtain ⟨hx, hb, hml, hown, hts, hK, hbs, hlk, hrt, hR, hnm⟩ := hB
  intro H locs ls hRp hS hL
  exact lv_sipush hx hb d hv (kk H locs ls hRp hS hL)
theorem y_iload_n {x : gX} {G : gG} {b cl sl nL : Nat} {own nm : String} {cc : ByteArray} {ret : Option FieldType} {rm : Room} {n : Int} {w : Int → va_E} {pc : Nat} {lv : List (Nat × Value)} {st : List Value} (hB : Bx x G b own cc nL ret rm nm) {k : Fin 4} {i : Nat} (j : Nat) {v : Int32} (d : decode cc pc = .ok (.iload_n k, 1)) (hi : (k : Nat) = i) (hl : lv[j]? = some (i, .int v)) (kk : Y x G b cl sl n w (pc + 1) lv (.int v :: st)) : Y x G b cl sl n w (pc) lv (st) := by
  obtain ⟨hx, hb, hml, hown, hts, hK, hbs, hlk, hrt, hR, hnm⟩ := hB
  intro H locs ls hRp hS hL
  exact lv_iload_n hx hb d hi (lv_at hL j hl) (kk H locs ls hRp hS hL)
theorem y_iload {x : gX} {G : gG} {b cl sl nL : Nat} {own nm : String} {cc : ByteArray} {ret : Option FieldType} {rm : Room} {n : Int} {w : Int → va_E} {pc : Nat} {lv : List (Nat × Value)} {st : List Value} (hB : Bx x G b own cc nL ret rm nm) {i : Nat} (j : Nat) {v : Int32} (d : decode cc pc = .ok (.iload i, 2)) (hl : lv[j]? = some (i, .int v)) (kk : Y x G b cl sl n w (pc + 2) lv (.int v :: st)) : Y x G b cl sl n w (pc) lv (st) := by
  obtain ⟨hx, hb, hml, hown, hts, hK, hbs, hlk, hrt, hR, hnm⟩ := hB
  intro H locs ls hRp hS hL
  exact lv_iload hx hb d (lv_at hL j hl) (kk H locs ls hRp hS hL)
theorem y_aload_n {x : gX} {G : gG} {b cl sl nL : Nat} {own nm : String} {cc : ByteArray} {ret : Option FieldType} {rm : Room} {n : Int} {w : Int → va_E} {pc : Nat} {lv : List (Nat × Value)} {st : List Value} (hB : Bx x G b own cc nL ret rm nm) {k : Fin 4} {i : Nat} (j : Nat) {v : Nat} (d : decode cc pc = .ok (.aload_n k, 1)) (hi : (k : Nat) = i) (hl : lv[j]? = some (i, .ref v)) (kk : Y x G b cl sl n w (pc + 1) lv (.ref v :: st)) : Y x G b cl sl n w (pc) lv (st) := by
  obtain ⟨hx, hb, hml, hown, hts, hK, hbs, hlk, hrt, hR, hnm⟩ := hB
  intro H locs ls hRp hS hL
  exact lv_aload_n hx hb d hi (lv_at hL j hl) (kk H locs ls hRp hS hL)
theorem y_aload {x : gX} {G : gG} {b cl sl nL : Nat} {own nm : String} {cc : ByteArray} {ret : Option FieldType} {rm : Room} {n : Int} {w : Int → va_E} {pc : Nat} {lv : List (Nat × Value)} {st : List Value} (hB : Bx x G b own cc nL ret rm nm) {i : Nat} (j : Nat) {v : Nat} (d : decode cc pc = .ok (.aload i, 2)) (hl : lv[j]? = some (i, .ref v)) (kk : Y x G b cl sl n w (pc + 2) lv (.ref v :: st)) : Y x G b cl sl n w (pc) lv (st) := by
  obtain ⟨hx, hb, hml, hown, hts, hK, hbs, hlk, hrt, hR, hnm⟩ := hB
  intro H locs ls hRp hS hL
  exact lv_aload hx hb d (lv_at hL j hl) (kk H locs ls hRp hS hL)
theorem y_aload_nN {x : gX} {G : gG} {b cl sl nL : Nat} {own nm : String} {cc : ByteArray} {ret : Option FieldType} {rm : Room} {n : Int} {w : Int → va_E} {pc : Nat} {lv : List (Nat × Value)} {st : List Value} (hB : Bx x G b own cc nL ret rm nm) {k : Fin 4} {i : Nat} (j : Nat) (d : decode cc pc = .ok (.aload_n k, 1)) (hi : (k : Nat) = i) (hl : lv[j]? = some (i, .null)) (kk : Y x G b cl sl n w (pc + 1) lv (.null :: st)) : Y x G b cl sl n w (pc) lv (st) := by
  obtain ⟨hx, hb, hml, hown, hts, hK, hbs, hlk, hrt, hR, hnm⟩ := hB
  intro H locs ls hRp hS hL
  exact lv_aload_nN hx hb d hi (lv_at hL j hl) (kk H locs ls hRp hS hL)
theorem y_aloadN {x : gX} {G : gG} {b cl sl nL : Nat} {own nm : String} {cc : ByteArray} {ret : Option FieldType} {rm : Room} {n : Int} {w : Int → va_E} {pc : Nat} {lv : List (Nat × Value)} {st : List Value} (hB : Bx x G b own cc nL ret rm nm) {i : Nat} (j : Nat) (d : decode cc pc = .ok (.aload i, 2)) (hl : lv[j]? = some (i, .null)) (kk : Y x G b cl sl n w (pc + 2) lv (.null :: st)) : Y x G b cl sl n w (pc) lv (st) := by
  obtain ⟨hx, hb, hml, hown, hts, hK, hbs, hlk, hrt, hR, hnm⟩ := hB
  intro H locs ls hRp hS hL
  exact lv_aloadN hx hb d (lv_at hL j hl) (kk H locs ls hRp hS hL)
theorem y_fload_n {x : gX} {G : gG} {b cl sl nL : Nat} {own nm : String} {cc : ByteArray} {ret : Option FieldType} {rm : Room} {n : Int} {w : Int → va_E} {pc : Nat} {lv : List (Nat × Value)} {st : List Value} (hB : Bx x G b own cc nL ret rm nm) {k : Fin 4} {i : Nat} (j : Nat) {v : UInt32} (d : decode cc pc = .ok (.fload_n k, 1)) (hi : (k : Nat) = i) (hl : lv[j]? = some (i, .float v)) (kk : Y x G b cl sl n w (pc + 1) lv (.float v :: st)) : Y x G b cl sl n w (pc) lv (st) := by
  obtain ⟨hx, hb, hml, hown, hts, hK, hbs, hlk, hrt, hR, hnm⟩ := hB
  intro H locs ls hRp hS hL
  exact lv_fload_n hx hb d hi (lv_at hL j hl) (kk H locs ls hRp hS hL)
theorem y_fload {x : gX} {G : gG} {b cl sl nL : Nat} {own nm : String} {cc : ByteArray} {ret : Option FieldType} {rm : Room} {n : Int} {w : Int → va_E} {pc : Nat} {lv : List (Nat × Value)} {st : List Value} (hB : Bx x G b own cc nL ret rm nm) {i : Nat} (j : Nat) {v : UInt32} (d : decode cc pc = .ok (.fload i, 2)) (hl : lv[j]? = some (i, .float v)) (kk : Y x G b cl sl n w (pc + 2) lv (.float v :: st)) : Y x G b cl sl n w (pc) lv (st) := by
  obtain ⟨hx, hb, hml, hown, hts, hK, hbs, hlk, hrt, hR, hnm⟩ := hB
  intro H locs ls hRp hS hL
  exact lv_fload hx hb d (lv_at hL j hl) (kk H locs ls hRp hS hL)
theorem y_dload {x : gX} {G : gG} {b cl sl nL : Nat} {own nm : String} {cc : ByteArray} {ret : Option FieldType} {rm : Room} {n : Int} {w : Int → va_E} {pc : Nat} {lv : List (Nat × Value)} {st : List Value} (hB : Bx x G b own cc nL ret rm nm) {i : Nat} (j : Nat) {v : UInt64} (d : decode cc pc = .ok (.dload i, 2)) (hl : lv[j]? = some (i, .double v)) (kk : Y x G b cl sl n w (pc + 2) lv (.double v :: st)) : Y x G b cl sl n w (pc) lv (st) := by
  obtain ⟨hx, hb, hml, hown, hts, hK, hbs, hlk, hrt, hR, hnm⟩ := hB
  intro H locs ls hRp hS hL
  exact lv_dload hx hb d (lv_at hL j hl) (kk H locs ls hRp hS hL)
theorem y_istore_n {x : gX} {G : gG} {b cl sl nL : Nat} {own nm : String} {cc : ByteArray} {ret : Option FieldType} {rm : Room} {n : Int} {w : Int → va_E} {pc : Nat} {lv : List (Nat × Value)} {st : List Value} (hB : Bx x G b own cc nL ret rm nm) {k : Fin 4} {i : Nat} {v : Int32} {lv' : List (Nat × Value)} (d : decode cc pc = .ok (.istore_n k, 1)) (hi : (k : Nat) = i) (hn : i < nL) (hl : (i, Value.int v) :: lv.filter (fun q => !(q.1 == i) && !(q.1 + 1 == i && q.2.category == 2)) = lv') (kk : Y x G b cl sl n w (pc + 1) lv' (st)) : Y x G b cl sl n w (pc) lv (.int v :: st) := by
  obtain ⟨hx, hb, hml, hown, hts, hK, hbs, hlk, hrt, hR, hnm⟩ := hB
  intro H locs ls hRp hS hL
  exact lv_istore_n hx hb d hi hL (by rw [hml]; exact hn) hl (fun ls hL => kk H locs ls hRp hS hL)
theorem y_istore {x : gX} {G : gG} {b cl sl nL : Nat} {own nm : String} {cc : ByteArray} {ret : Option FieldType} {rm : Room} {n : Int} {w : Int → va_E} {pc : Nat} {lv : List (Nat × Value)} {st : List Value} (hB : Bx x G b own cc nL ret rm nm) {i : Nat} {v : Int32} {lv' : List (Nat × Value)} (d : decode cc pc = .ok (.istore i, 2)) (hn : i < nL) (hl : (i, Value.int v) :: lv.filter (fun q => !(q.1 == i) && !(q.1 + 1 == i && q.2.category == 2)) = lv') (kk : Y x G b cl sl n w (pc + 2) lv' (st)) : Y x G b cl sl n w (pc) lv (.int v :: st) := by
  obtain ⟨hx, hb, hml, hown, hts, hK, hbs, hlk, hrt, hR, hnm⟩ := hB
  intro H locs ls hRp hS hL
  exact lv_istore hx hb d hL (by rw [hml]; exact hn) hl (fun ls hL => kk H locs ls hRp hS hL)
theorem y_astore_n {x : gX} {G : gG} {b cl sl nL : Nat} {own nm : String} {cc : ByteArray} {ret : Option FieldType} {rm : Room} {n : Int} {w : Int → va_E} {pc : Nat} {lv : List (Nat × Value)} {st : List Value} (hB : Bx x G b own cc nL ret rm nm) {k : Fin 4} {i : Nat} {v : Nat} {lv' : List (Nat × Value)} (d : decode cc pc = .ok (.astore_n k, 1)) (hi : (k : Nat) = i) (hn : i < nL) (hl : (i, Value.ref v) :: lv.filter (fun q => !(q.1 == i) && !(q.1 + 1 == i && q.2.category == 2)) = lv') (kk : Y x G b cl sl n w (pc + 1) lv' (st)) : Y x G b cl sl n w (pc) lv (.ref v :: st) := by
  obtain ⟨hx, hb, hml, hown, hts, hK, hbs, hlk, hrt, hR, hnm⟩ := hB
  intro H locs ls hRp hS hL
  exact lv_astore_n hx hb d hi hL (by rw [hml]; exact hn) hl (fun ls hL => kk H locs ls hRp hS hL)
theorem y_astore {x : gX} {G : gG} {b cl sl nL : Nat} {own nm : String} {cc : ByteArray} {ret : Option FieldType} {rm : Room} {n : Int} {w : Int → va_E} {pc : Nat} {lv : List (Nat × Value)} {st : List Value} (hB : Bx x G b own cc nL ret rm nm) {i : Nat} {v : Nat} {lv' : List (Nat × Value)} (d : decode cc pc = .ok (.astore i, 2)) (hn : i < nL) (hl : (i, Value.ref v) :: lv.filter (fun q => !(q.1 == i) && !(q.1 + 1 == i && q.2.category == 2)) = lv') (kk : Y x G b cl sl n w (pc + 2) lv' (st)) : Y x G b cl sl n w (pc) lv (.ref v :: st) := by
  obtain ⟨hx, hb, hml, hown, hts, hK, hbs, hlk, hrt, hR, hnm⟩ := hB
  intro H locs ls hRp hS hL
  exact lv_astore hx hb d hL (by rw [hml]; exact hn) hl (fun ls hL => kk H locs ls hRp hS hL)
theorem y_fstore_n {x : gX} {G : gG} {b cl sl nL : Nat} {own nm : String} {cc : ByteArray} {ret : Option FieldType} {rm : Room} {n : Int} {w : Int → va_E} {pc : Nat} {lv : List (Nat × Value)} {st : List Value} (hB : Bx x G b own cc nL ret rm nm) {k : Fin 4} {i : Nat} {v : UInt32} {lv' : List (Nat × Value)} (d : decode cc pc = .ok (.fstore_n k, 1)) (hi : (k : Nat) = i) (hn : i < nL) (hl : (i, Value.float v) :: lv.filter (fun q => !(q.1 == i) && !(q.1 + 1 == i && q.2.category == 2)) = lv') (kk : Y x G b cl sl n w (pc + 1) lv' (st)) : Y x G b cl sl n w (pc) lv (.float v :: st) := by
  obtain ⟨hx, hb, hml, hown, hts, hK, hbs, hlk, hrt, hR, hnm⟩ := hB
  intro H locs ls hRp hS hL
  exact lv_fstore_n hx hb d hi hL (by rw [hml]; exact hn) hl (fun ls hL => kk H locs ls hRp hS hL)
theorem y_fstore {x : gX} {G : gG} {b cl sl nL : Nat} {own nm : String} {cc : ByteArray} {ret : Option FieldType} {rm : Room} {n : Int} {w : Int → va_E} {pc : Nat} {lv : List (Nat × Value)} {st : List Value} (hB : Bx x G b own cc nL ret rm nm) {i : Nat} {v : UInt32} {lv' : List (Nat × Value)} (d : decode cc pc = .ok (.fstore i, 2)) (hn : i < nL) (hl : (i, Value.float v) :: lv.filter (fun q => !(q.1 == i) && !(q.1 + 1 == i && q.2.category == 2)) = lv') (kk : Y x G b cl sl n w (pc + 2) lv' (st)) : Y x G b cl sl n w (pc) lv (.float v :: st) := by
  obtain ⟨hx, hb, hml, hown, hts, hK, hbs, hlk, hrt, hR, hnm⟩ := hB
  intro H locs ls hRp hS hL
  exact lv_fstore hx hb d hL (by rw [hml]; exact hn) hl (fun ls hL => kk H locs ls hRp hS hL)
theorem y_astore_nN {x : gX} {G : gG} {b cl sl nL : Nat} {own nm : String} {cc : ByteArray} {ret : Option FieldType} {rm : Room} {n : Int} {w : Int → va_E} {pc : Nat} {lv : List (Nat × Value)} {st : List Value} (hB : Bx x G b own cc nL ret rm nm) {k : Fin 4} {i : Nat} {lv' : List (Nat × Value)} (d : decode cc pc = .ok (.astore_n k, 1)) (hi : (k : Nat) = i) (hn : i < nL) (hl : (i, Value.null) :: lv.filter (fun q => !(q.1 == i) && !(q.1 + 1 == i && q.2.category == 2)) = lv') (kk : Y x G b cl sl n w (pc + 1) lv' (st)) : Y x G b cl sl n w (pc) lv (.null :: st) := by
  obtain ⟨hx, hb, hml, hown, hts, hK, hbs, hlk, hrt, hR, hnm⟩ := hB
  intro H locs ls hRp hS hL
  exact lv_astore_nN hx hb d hi hL (by rw [hml]; exact hn) hl (fun ls hL => kk H locs ls hRp hS hL)
theorem y_iinc {x : gX} {G : gG} {b cl sl nL : Nat} {own nm : String} {cc : ByteArray} {ret : Option FieldType} {rm : Room} {n : Int} {w : Int → va_E} {pc : Nat} {lv : List (Nat × Value)} {st : List Value} (hB : Bx x G b own cc nL ret rm nm) {i : Nat} (j : Nat) {k a v : Int} {lv' : List (Nat × Value)} (d : decode cc pc = .ok (.iinc i k, 3)) (hk : lv[j]? = some (i, .int (iI a))) (hv : a + k = v) (hn : i < nL) (hl : (i, Value.int (iI v)) :: lv.filter (fun q => !(q.1 == i) && !(q.1 + 1 == i && q.2.category == 2)) = lv') (kk : Y x G b cl sl n w (pc + 3) lv' (st)) : Y x G b cl sl n w (pc) lv (st) := by
  subst hv
  obtain ⟨hx, hb, hml, hown, hts, hK, hbs, hlk, hrt, hR, hnm⟩ := hB
  intro H locs ls hRp hS hL
  exact lv_iinc hx hb d hL hk (by rw [show Int32.ofInt k = iI k from rfl, iI_add]) (by rw [hml]; exact hn) hl (fun ls hL => kk H locs ls hRp hS hL)
theorem y_iadd {x : gX} {G : gG} {b cl sl nL : Nat} {own nm : String} {cc : ByteArray} {ret : Option FieldType} {rm : Room} {n : Int} {w : Int → va_E} {pc : Nat} {lv : List (Nat × Value)} {st : List Value} (hB : Bx x G b own cc nL ret rm nm) {u v t : Int} (d : decode cc pc = .ok (.iadd, 1)) (e : u + v = t) (kk : Y x G b cl sl n w (pc + 1) lv (.int (iI t) :: st)) : Y x G b cl sl n w (pc) lv (.int (iI v) :: .int (iI u) :: st) := by
  subst e
  obtain ⟨hx, hb, hml, hown, hts, hK, hbs, hlk, hrt, hR, hnm⟩ := hB
  intro H locs ls hRp hS hL
  refine lv_iadd hx hb d ?_
  rw [iI_add]
  exact kk H locs ls hRp hS hL
theorem y_isub {x : gX} {G : gG} {b cl sl nL : Nat} {own nm : String} {cc : ByteArray} {ret : Option FieldType} {rm : Room} {n : Int} {w : Int → va_E} {pc : Nat} {lv : List (Nat × Value)} {st : List Value} (hB : Bx x G b own cc nL ret rm nm) {u v t : Int} (d : decode cc pc = .ok (.isub, 1)) (e : u - v = t) (kk : Y x G b cl sl n w (pc + 1) lv (.int (iI t) :: st)) : Y x G b cl sl n w (pc) lv (.int (iI v) :: .int (iI u) :: st) := by
  subst e
  obtain ⟨hx, hb, hml, hown, hts, hK, hbs, hlk, hrt, hR, hnm⟩ := hB
  intro H locs ls hRp hS hL
  refine lv_isub hx hb d ?_
  rw [iI_sub]
  exact kk H locs ls hRp hS hL
theorem y_imul {x : gX} {G : gG} {b cl sl nL : Nat} {own nm : String} {cc : ByteArray} {ret : Option FieldType} {rm : Room} {n : Int} {w : Int → va_E} {pc : Nat} {lv : List (Nat × Value)} {st : List Value} (hB : Bx x G b own cc nL ret rm nm) {u v t : Int} (d : decode cc pc = .ok (.imul, 1)) (e : u * v = t) (kk : Y x G b cl sl n w (pc + 1) lv (.int (iI t) :: st)) : Y x G b cl sl n w (pc) lv (.int (iI v) :: .int (iI u) :: st) := by
  subst e
  obtain ⟨hx, hb, hml, hown, hts, hK, hbs, hlk, hrt, hR, hnm⟩ := hB
  intro H locs ls hRp hS hL
  refine lv_imul hx hb d ?_
  rw [iI_mul]
  exact kk H locs ls hRp hS hL
theorem y_idiv {x : gX} {G : gG} {b cl sl nL : Nat} {own nm : String} {cc : ByteArray} {ret : Option FieldType} {rm : Room} {n : Int} {w : Int → va_E} {pc : Nat} {lv : List (Nat × Value)} {st : List Value} (hB : Bx x G b own cc nL ret rm nm) {u v : Int} (d : decode cc pc = .ok (.idiv, 1)) (hu : 0 ≤ u ∧ u ≤ 2147483647) (hv : 0 < v ∧ v ≤ 2147483647) (kk : Y x G b cl sl n w (pc + 1) lv (.int (iI (u / v)) :: st)) : Y x G b cl sl n w (pc) lv (.int (iI v) :: .int (iI u) :: st) := by
  obtain ⟨hx, hb, hml, hown, hts, hK, hbs, hlk, hrt, hR, hnm⟩ := hB
  intro H locs ls hRp hS hL
  refine lv_idiv hx hb d (fun h => ?_) ?_
  · have := (iI_eq (by omega) (by omega)).mp (h.trans iI_0.symm)
    omega
  · rw [iI_div hu hv]
    exact kk H locs ls hRp hS hL
theorem y_irem {x : gX} {G : gG} {b cl sl nL : Nat} {own nm : String} {cc : ByteArray} {ret : Option FieldType} {rm : Room} {n : Int} {w : Int → va_E} {pc : Nat} {lv : List (Nat × Value)} {st : List Value} (hB : Bx x G b own cc nL ret rm nm) {u v : Int} (d : decode cc pc = .ok (.irem, 1)) (hu : 0 ≤ u ∧ u ≤ 2147483647) (hv : 0 < v ∧ v ≤ 2147483647) (kk : Y x G b cl sl n w (pc + 1) lv (.int (iI (u % v)) :: st)) : Y x G b cl sl n w (pc) lv (.int (iI v) :: .int (iI u) :: st) := by
  obtain ⟨hx, hb, hml, hown, hts, hK, hbs, hlk, hrt, hR, hnm⟩ := hB
  intro H locs ls hRp hS hL
  refine lv_irem hx hb d (fun h => ?_) ?_
  · have := (iI_eq (by omega) (by omega)).mp (h.trans iI_0.symm)
    omega
  · rw [iI_rem hu hv]
    exact kk H locs ls hRp hS hL
theorem y_dup {x : gX} {G : gG} {b cl sl nL : Nat} {own nm : String} {cc : ByteArray} {ret : Option FieldType} {rm : Room} {n : Int} {w : Int → va_E} {pc : Nat} {lv : List (Nat × Value)} {st : List Value} (hB : Bx x G b own cc nL ret rm nm) {v : Value} (d : decode cc pc = .ok (.dup, 1)) (hv : v.category = 1) (kk : Y x G b cl sl n w (pc + 1) lv (v :: v :: st)) : Y x G b cl sl n w (pc) lv (v :: st) := by
  obtain ⟨hx, hb, hml, hown, hts, hK, hbs, hlk, hrt, hR, hnm⟩ := hB
  intro H locs ls hRp hS hL
  exact lv_dup hx hb d hv (kk H locs ls hRp hS hL)
theorem y_dup2 {x : gX} {G : gG} {b cl sl nL : Nat} {own nm : String} {cc : ByteArray} {ret : Option FieldType} {rm : Room} {n : Int} {w : Int → va_E} {pc : Nat} {lv : List (Nat × Value)} {st : List Value} (hB : Bx x G b own cc nL ret rm nm) {u v : Value} (d : decode cc pc = .ok (.dup2, 1)) (hv : v.category = 1) (hu : u.category = 1) (kk : Y x G b cl sl n w (pc + 1) lv (v :: u :: v :: u :: st)) : Y x G b cl sl n w (pc) lv (v :: u :: st) := by
  obtain ⟨hx, hb, hml, hown, hts, hK, hbs, hlk, hrt, hR, hnm⟩ := hB
  intro H locs ls hRp hS hL
  exact lv_dup2_11 hx hb d hv hu (kk H locs ls hRp hS hL)
theorem y_pop {x : gX} {G : gG} {b cl sl nL : Nat} {own nm : String} {cc : ByteArray} {ret : Option FieldType} {rm : Room} {n : Int} {w : Int → va_E} {pc : Nat} {lv : List (Nat × Value)} {st : List Value} (hB : Bx x G b own cc nL ret rm nm) {v : Value} (d : decode cc pc = .ok (.pop, 1)) (hv : v.category = 1) (kk : Y x G b cl sl n w (pc + 1) lv (st)) : Y x G b cl sl n w (pc) lv (v :: st) := by
  obtain ⟨hx, hb, hml, hown, hts, hK, hbs, hlk, hrt, hR, hnm⟩ := hB
  intro H locs ls hRp hS hL
  exact lv_pop hx hb d hv (kk H locs ls hRp hS hL)
theorem y_goto {x : gX} {G : gG} {b cl sl nL : Nat} {own nm : String} {cc : ByteArray} {ret : Option FieldType} {rm : Room} {n : Int} {w : Int → va_E} {pc : Nat} {lv : List (Nat × Value)} {st : List Value} (hB : Bx x G b own cc nL ret rm nm) (tgt : Nat) {off : Int} (d : decode cc pc = .ok (.goto off, 3)) (ht : (pc : Int) + off = (tgt : Int)) (kk : Y x G b cl sl n w (tgt) lv (st)) : Y x G b cl sl n w (pc) lv (st) := by
  obtain ⟨hx, hb, hml, hown, hts, hK, hbs, hlk, hrt, hR, hnm⟩ := hB
  intro H locs ls hRp hS hL
  exact lv_goto hx hb d ht (kk H locs ls hRp hS hL)
theorem y_null {x : gX} {G : gG} {b cl sl nL : Nat} {own nm : String} {cc : ByteArray} {ret : Option FieldType} {rm : Room} {n : Int} {w : Int → va_E} {pc : Nat} {lv : List (Nat × Value)} {st : List Value} (hB : Bx x G b own cc nL ret rm nm) (d : decode cc pc = .ok (.aconst_null, 1)) (kk : Y x G b cl sl n w (pc + 1) lv (.null :: st)) : Y x G b cl sl n w (pc) lv (st) := by
  obtain ⟨hx, hb, hml, hown, hts, hK, hbs, hlk, hrt, hR, hnm⟩ := hB
  intro H locs ls hRp hS hL
  exact lv_null hx hb d (kk H locs ls hRp hS hL)
theorem y_ifnull {x : gX} {G : gG} {b cl sl nL : Nat} {own nm : String} {cc : ByteArray} {ret : Option FieldType} {rm : Room} {n : Int} {w : Int → va_E} {pc : Nat} {lv : List (Nat × Value)} {st : List Value} (hB : Bx x G b own cc nL ret rm nm) {v : Nat} {off : Int} (d : decode cc pc = .ok (.ifnull off, 3)) (kk : Y x G b cl sl n w (pc + 3) lv (st)) : Y x G b cl sl n w (pc) lv (.ref v :: st) := by
  obtain ⟨hx, hb, hml, hown, hts, hK, hbs, hlk, hrt, hR, hnm⟩ := hB
  intro H locs ls hRp hS hL
  exact lv_ifnull hx hb d (kk H locs ls hRp hS hL)
theorem y_ifnonnull {x : gX} {G : gG} {b cl sl nL : Nat} {own nm : String} {cc : ByteArray} {ret : Option FieldType} {rm : Room} {n : Int} {w : Int → va_E} {pc : Nat} {lv : List (Nat × Value)} {st : List Value} (hB : Bx x G b own cc nL ret rm nm) (tgt : Nat) {v : Nat} {off : Int} (d : decode cc pc = .ok (.ifnonnull off, 3)) (ht : (pc : Int) + off = (tgt : Int)) (kk : Y x G b cl sl n w (tgt) lv (st)) : Y x G b cl sl n w (pc) lv (.ref v :: st) := by
  obtain ⟨hx, hb, hml, hown, hts, hK, hbs, hlk, hrt, hR, hnm⟩ := hB
  intro H locs ls hRp hS hL
  exact lv_ifnonnull hx hb d ht (kk H locs ls hRp hS hL)
theorem y_ifnullN {x : gX} {G : gG} {b cl sl nL : Nat} {own nm : String} {cc : ByteArray} {ret : Option FieldType} {rm : Room} {n : Int} {w : Int → va_E} {pc : Nat} {lv : List (Nat × Value)} {st : List Value} (hB : Bx x G b own cc nL ret rm nm) (tgt : Nat) {off : Int} (d : decode cc pc = .ok (.ifnull off, 3)) (ht : (pc : Int) + off = (tgt : Int)) (kk : Y x G b cl sl n w (tgt) lv (st)) : Y x G b cl sl n w (pc) lv (.null :: st) := by
  obtain ⟨hx, hb, hml, hown, hts, hK, hbs, hlk, hrt, hR, hnm⟩ := hB
  intro H locs ls hRp hS hL
  exact lv_ifnullN hx hb d ht (kk H locs ls hRp hS hL)
theorem y_ifnonnullN {x : gX} {G : gG} {b cl sl nL : Nat} {own nm : String} {cc : ByteArray} {ret : Option FieldType} {rm : Room} {n : Int} {w : Int → va_E} {pc : Nat} {lv : List (Nat × Value)} {st : List Value} (hB : Bx x G b own cc nL ret rm nm) {off : Int} (d : decode cc pc = .ok (.ifnonnull off, 3)) (kk : Y x G b cl sl n w (pc + 3) lv (st)) : Y x G b cl sl n w (pc) lv (.null :: st) := by
  obtain ⟨hx, hb, hml, hown, hts, hK, hbs, hlk, hrt, hR, hnm⟩ := hB
  intro H locs ls hRp hS hL
  exact lv_ifnonnullN hx hb d (kk H locs ls hRp hS hL)
theorem y_icmp_eq {x : gX} {G : gG} {b cl sl nL : Nat} {own nm : String} {cc : ByteArray} {ret : Option FieldType} {rm : Room} {n : Int} {w : Int → va_E} {pc : Nat} {lv : List (Nat × Value)} {st : List Value} (hB : Bx x G b own cc nL ret rm nm) (tgt : Nat) {u v off : Int} (d : decode cc pc = .ok (.if_icmp .eq off, 3)) (ht : (pc : Int) + off = (tgt : Int)) (hu : -2147483648 ≤ u ∧ u ≤ 2147483647) (hv : -2147483648 ≤ v ∧ v ≤ 2147483647) (kt : u = v → Y x G b cl sl n w (tgt) lv (st)) (kf : ¬ (u = v) → Y x G b cl sl n w (pc + 3) lv (st)) : Y x G b cl sl n w (pc) lv (.int (iI v) :: .int (iI u) :: st) := by
  obtain ⟨hx, hb, hml, hown, hts, hK, hbs, hlk, hrt, hR, hnm⟩ := hB
  intro H locs ls hRp hS hL
  exact lv_icmp_eq hx hb d ht (fun h => kt ((iI_eq hu hv).mp h) H locs ls hRp hS hL) (fun h => kf (fun e => h ((iI_eq hu hv).mpr e)) H locs ls hRp hS hL)
theorem y_if_eq {x : gX} {G : gG} {b cl sl nL : Nat} {own nm : String} {cc : ByteArray} {ret : Option FieldType} {rm : Room} {n : Int} {w : Int → va_E} {pc : Nat} {lv : List (Nat × Value)} {st : List Value} (hB : Bx x G b own cc nL ret rm nm) (tgt : Nat) {u off : Int} (d : decode cc pc = .ok (.ifCond .eq off, 3)) (ht : (pc : Int) + off = (tgt : Int)) (hu : -2147483648 ≤ u ∧ u ≤ 2147483647) (kt : u = 0 → Y x G b cl sl n w (tgt) lv (st)) (kf : ¬ (u = 0) → Y x G b cl sl n w (pc + 3) lv (st)) : Y x G b cl sl n w (pc) lv (.int (iI u) :: st) := by
  obtain ⟨hx, hb, hml, hown, hts, hK, hbs, hlk, hrt, hR, hnm⟩ := hB
  intro H locs ls hRp hS hL
  exact lv_if_eq hx hb d ht (fun h => kt ((iI_eq hu (by omega : (-2147483648:Int) ≤ 0 ∧ (0:Int) ≤ 2147483647)).mp (by rw [iI_0]; exact h)) H locs ls hRp hS hL) (fun h => kf (fun e => h (by have h9 := (iI_eq hu (by omega : (-2147483648:Int) ≤ 0 ∧ (0:Int) ≤ 2147483647)).mpr e; rw [iI_0] at h9; exact h9)) H locs ls hRp hS hL)
theorem y_icmp_ne {x : gX} {G : gG} {b cl sl nL : Nat} {own nm : String} {cc : ByteArray} {ret : Option FieldType} {rm : Room} {n : Int} {w : Int → va_E} {pc : Nat} {lv : List (Nat × Value)} {st : List Value} (hB : Bx x G b own cc nL ret rm nm) (tgt : Nat) {u v off : Int} (d : decode cc pc = .ok (.if_icmp .ne off, 3)) (ht : (pc : Int) + off = (tgt : Int)) (hu : -2147483648 ≤ u ∧ u ≤ 2147483647) (hv : -2147483648 ≤ v ∧ v ≤ 2147483647) (kt : ¬ u = v → Y x G b cl sl n w (tgt) lv (st)) (kf : u = v → Y x G b cl sl n w (pc + 3) lv (st)) : Y x G b cl sl n w (pc) lv (.int (iI v) :: .int (iI u) :: st) := by
  obtain ⟨hx, hb, hml, hown, hts, hK, hbs, hlk, hrt, hR, hnm⟩ := hB
  intro H locs ls hRp hS hL
  exact lv_icmp_ne hx hb d ht (fun h => kt (fun e => h (congrArg iI e)) H locs ls hRp hS hL) (fun h => kf ((iI_eq hu hv).mp h) H locs ls hRp hS hL)
theorem y_if_ne {x : gX} {G : gG} {b cl sl nL : Nat} {own nm : String} {cc : ByteArray} {ret : Option FieldType} {rm : Room} {n : Int} {w : Int → va_E} {pc : Nat} {lv : List (Nat × Value)} {st : List Value} (hB : Bx x G b own cc nL ret rm nm) (tgt : Nat) {u off : Int} (d : decode cc pc = .ok (.ifCond .ne off, 3)) (ht : (pc : Int) + off = (tgt : Int)) (hu : -2147483648 ≤ u ∧ u ≤ 2147483647) (kt : ¬ u = 0 → Y x G b cl sl n w (tgt) lv (st)) (kf : u = 0 → Y x G b cl sl n w (pc + 3) lv (st)) : Y x G b cl sl n w (pc) lv (.int (iI u) :: st) := by
  obtain ⟨hx, hb, hml, hown, hts, hK, hbs, hlk, hrt, hR, hnm⟩ := hB
  intro H locs ls hRp hS hL
  exact lv_if_ne hx hb d ht (fun h => kt (fun e => h (by rw [e, iI_0])) H locs ls hRp hS hL) (fun h => kf ((iI_eq hu (by omega : (-2147483648:Int) ≤ 0 ∧ (0:Int) ≤ 2147483647)).mp (by rw [iI_0]; exact h)) H locs ls hRp hS hL)
theorem y_icmp_lt {x : gX} {G : gG} {b cl sl nL : Nat} {own nm : String} {cc : ByteArray} {ret : Option FieldType} {rm : Room} {n : Int} {w : Int → va_E} {pc : Nat} {lv : List (Nat × Value)} {st : List Value} (hB : Bx x G b own cc nL ret rm nm) (tgt : Nat) {u v off : Int} (d : decode cc pc = .ok (.if_icmp .lt off, 3)) (ht : (pc : Int) + off = (tgt : Int)) (hu : -2147483648 ≤ u ∧ u ≤ 2147483647) (hv : -2147483648 ≤ v ∧ v ≤ 2147483647) (kt : u < v → Y x G b cl sl n w (tgt) lv (st)) (kf : ¬ (u < v) → Y x G b cl sl n w (pc + 3) lv (st)) : Y x G b cl sl n w (pc) lv (.int (iI v) :: .int (iI u) :: st) := by
  obtain ⟨hx, hb, hml, hown, hts, hK, hbs, hlk, hrt, hR, hnm⟩ := hB
  intro H locs ls hRp hS hL
  exact lv_icmp_lt hx hb d ht (fun h => kt ((iI_lt hu hv).mp h) H locs ls hRp hS hL) (fun h => kf (fun e => h ((iI_lt hu hv).mpr e)) H locs ls hRp hS hL)
theorem y_if_lt {x : gX} {G : gG} {b cl sl nL : Nat} {own nm : String} {cc : ByteArray} {ret : Option FieldType} {rm : Room} {n : Int} {w : Int → va_E} {pc : Nat} {lv : List (Nat × Value)} {st : List Value} (hB : Bx x G b own cc nL ret rm nm) (tgt : Nat) {u off : Int} (d : decode cc pc = .ok (.ifCond .lt off, 3)) (ht : (pc : Int) + off = (tgt : Int)) (hu : -2147483648 ≤ u ∧ u ≤ 2147483647) (kt : u < 0 → Y x G b cl sl n w (tgt) lv (st)) (kf : ¬ (u < 0) → Y x G b cl sl n w (pc + 3) lv (st)) : Y x G b cl sl n w (pc) lv (.int (iI u) :: st) := by
  obtain ⟨hx, hb, hml, hown, hts, hK, hbs, hlk, hrt, hR, hnm⟩ := hB
  intro H locs ls hRp hS hL
  exact lv_if_lt hx hb d ht (fun h => kt ((iI_lt hu (by omega : (-2147483648:Int) ≤ 0 ∧ (0:Int) ≤ 2147483647)).mp (by rw [iI_0]; exact h)) H locs ls hRp hS hL) (fun h => kf (fun e => h (by have h9 := (iI_lt hu (by omega : (-2147483648:Int) ≤ 0 ∧ (0:Int) ≤ 2147483647)).mpr e; rw [iI_0] at h9; exact h9)) H locs ls hRp hS hL)
theorem y_icmp_ge {x : gX} {G : gG} {b cl sl nL : Nat} {own nm : String} {cc : ByteArray} {ret : Option FieldType} {rm : Room} {n : Int} {w : Int → va_E} {pc : Nat} {lv : List (Nat × Value)} {st : List Value} (hB : Bx x G b own cc nL ret rm nm) (tgt : Nat) {u v off : Int} (d : decode cc pc = .ok (.if_icmp .ge off, 3)) (ht : (pc : Int) + off = (tgt : Int)) (hu : -2147483648 ≤ u ∧ u ≤ 2147483647) (hv : -2147483648 ≤ v ∧ v ≤ 2147483647) (kt : v ≤ u → Y x G b cl sl n w (tgt) lv (st)) (kf : ¬ (v ≤ u) → Y x G b cl sl n w (pc + 3) lv (st)) : Y x G b cl sl n w (pc) lv (.int (iI v) :: .int (iI u) :: st) := by
  obtain ⟨hx, hb, hml, hown, hts, hK, hbs, hlk, hrt, hR, hnm⟩ := hB
  intro H locs ls hRp hS hL
  exact lv_icmp_ge hx hb d ht (fun h => kt ((iI_le hv hu).mp h) H locs ls hRp hS hL) (fun h => kf (fun e => h ((iI_le hv hu).mpr e)) H locs ls hRp hS hL)
theorem y_if_ge {x : gX} {G : gG} {b cl sl nL : Nat} {own nm : String} {cc : ByteArray} {ret : Option FieldType} {rm : Room} {n : Int} {w : Int → va_E} {pc : Nat} {lv : List (Nat × Value)} {st : List Value} (hB : Bx x G b own cc nL ret rm nm) (tgt : Nat) {u off : Int} (d : decode cc pc = .ok (.ifCond .ge off, 3)) (ht : (pc : Int) + off = (tgt : Int)) (hu : -2147483648 ≤ u ∧ u ≤ 2147483647) (kt : 0 ≤ u → Y x G b cl sl n w (tgt) lv (st)) (kf : ¬ (0 ≤ u) → Y x G b cl sl n w (pc + 3) lv (st)) : Y x G b cl sl n w (pc) lv (.int (iI u) :: st) := by
  obtain ⟨hx, hb, hml, hown, hts, hK, hbs, hlk, hrt, hR, hnm⟩ := hB
  intro H locs ls hRp hS hL
  exact lv_if_ge hx hb d ht (fun h => kt ((iI_le (by omega : (-2147483648:Int) ≤ 0 ∧ (0:Int) ≤ 2147483647) hu).mp (by rw [iI_0]; exact h)) H locs ls hRp hS hL) (fun h => kf (fun e => h (by have h9 := (iI_le (by omega : (-2147483648:Int) ≤ 0 ∧ (0:Int) ≤ 2147483647) hu).mpr e; rw [iI_0] at h9; exact h9)) H locs ls hRp hS hL)
theorem y_icmp_gt {x : gX} {G : gG} {b cl sl nL : Nat} {own nm : String} {cc : ByteArray} {ret : Option FieldType} {rm : Room} {n : Int} {w : Int → va_E} {pc : Nat} {lv : List (Nat × Value)} {st : List Value} (hB : Bx x G b own cc nL ret rm nm) (tgt : Nat) {u v off : Int} (d : decode cc pc = .ok (.if_icmp .gt off, 3)) (ht : (pc : Int) + off = (tgt : Int)) (hu : -2147483648 ≤ u ∧ u ≤ 2147483647) (hv : -2147483648 ≤ v ∧ v ≤ 2147483647) (kt : v < u → Y x G b cl sl n w (tgt) lv (st)) (kf : ¬ (v < u) → Y x G b cl sl n w (pc + 3) lv (st)) : Y x G b cl sl n w (pc) lv (.int (iI v) :: .int (iI u) :: st) := by
  obtain ⟨hx, hb, hml, hown, hts, hK, hbs, hlk, hrt, hR, hnm⟩ := hB
  intro H locs ls hRp hS hL
  exact lv_icmp_gt hx hb d ht (fun h => kt ((iI_lt hv hu).mp h) H locs ls hRp hS hL) (fun h => kf (fun e => h ((iI_lt hv hu).mpr e)) H locs ls hRp hS hL)
theorem y_if_gt {x : gX} {G : gG} {b cl sl nL : Nat} {own nm : String} {cc : ByteArray} {ret : Option FieldType} {rm : Room} {n : Int} {w : Int → va_E} {pc : Nat} {lv : List (Nat × Value)} {st : List Value} (hB : Bx x G b own cc nL ret rm nm) (tgt : Nat) {u off : Int} (d : decode cc pc = .ok (.ifCond .gt off, 3)) (ht : (pc : Int) + off = (tgt : Int)) (hu : -2147483648 ≤ u ∧ u ≤ 2147483647) (kt : 0 < u → Y x G b cl sl n w (tgt) lv (st)) (kf : ¬ (0 < u) → Y x G b cl sl n w (pc + 3) lv (st)) : Y x G b cl sl n w (pc) lv (.int (iI u) :: st) := by
  obtain ⟨hx, hb, hml, hown, hts, hK, hbs, hlk, hrt, hR, hnm⟩ := hB
  intro H locs ls hRp hS hL
  exact lv_if_gt hx hb d ht (fun h => kt ((iI_lt (by omega : (-2147483648:Int) ≤ 0 ∧ (0:Int) ≤ 2147483647) hu).mp (by rw [iI_0]; exact h)) H locs ls hRp hS hL) (fun h => kf (fun e => h (by have h9 := (iI_lt (by omega : (-2147483648:Int) ≤ 0 ∧ (0:Int) ≤ 2147483647) hu).mpr e; rw [iI_0] at h9; exact h9)) H locs ls hRp hS hL)
theorem y_icmp_le {x : gX} {G : gG} {b cl sl nL : Nat} {own nm : String} {cc : ByteArray} {ret : Option FieldType} {rm : Room} {n : Int} {w : Int → va_E} {pc : Nat} {lv : List (Nat × Value)} {st : List Value} (hB : Bx x G b own cc nL ret rm nm) (tgt : Nat) {u v off : Int} (d : decode cc pc = .ok (.if_icmp .le off, 3)) (ht : (pc : Int) + off = (tgt : Int)) (hu : -2147483648 ≤ u ∧ u ≤ 2147483647) (hv : -2147483648 ≤ v ∧ v ≤ 2147483647) (kt : u ≤ v → Y x G b cl sl n w (tgt) lv (st)) (kf : ¬ (u ≤ v) → Y x G b cl sl n w (pc + 3) lv (st)) : Y x G b cl sl n w (pc) lv (.int (iI v) :: .int (iI u) :: st) := by
  obtain ⟨hx, hb, hml, hown, hts, hK, hbs, hlk, hrt, hR, hnm⟩ := hB
  intro H locs ls hRp hS hL
  exact lv_icmp_le hx hb d ht (fun h => kt ((iI_le hu hv).mp h) H locs ls hRp hS hL) (fun h => kf (fun e => h ((iI_le hu hv).mpr e)) H locs ls hRp hS hL)
theorem y_if_le {x : gX} {G : gG} {b cl sl nL : Nat} {own nm : String} {cc : ByteArray} {ret : Option FieldType} {rm : Room} {n : Int} {w : Int → va_E} {pc : Nat} {lv : List (Nat × Value)} {st : List Value} (hB : Bx x G b own cc nL ret rm nm) (tgt : Nat) {u off : Int} (d : decode cc pc = .ok (.ifCond .le off, 3)) (ht : (pc : Int) + off = (tgt : Int)) (hu : -2147483648 ≤ u ∧ u ≤ 2147483647) (kt : u ≤ 0 → Y x G b cl sl n w (tgt) lv (st)) (kf : ¬ (u ≤ 0) → Y x G b cl sl n w (pc + 3) lv (st)) : Y x G b cl sl n w (pc) lv (.int (iI u) :: st) := by
  obtain ⟨hx, hb, hml, hown, hts, hK, hbs, hlk, hrt, hR, hnm⟩ := hB
  intro H locs ls hRp hS hL
  exact lv_if_le hx hb d ht (fun h => kt ((iI_le hu (by omega : (-2147483648:Int) ≤ 0 ∧ (0:Int) ≤ 2147483647)).mp (by rw [iI_0]; exact h)) H locs ls hRp hS hL) (fun h => kf (fun e => h (by have h9 := (iI_le hu (by omega : (-2147483648:Int) ≤ 0 ∧ (0:Int) ≤ 2147483647)).mpr e; rw [iI_0] at h9; exact h9)) H locs ls hRp hS hL)
theorem y_ldcf {x : gX} {G : gG} {b cl sl nL : Nat} {own nm : String} {cc : ByteArray} {ret : Option FieldType} {rm : Room} {n : Int} {w : Int → va_E} {pc : Nat} {lv : List (Nat × Value)} {st : List Value} (hB : Bx x G b own cc nL ret rm nm) {index : Nat} {v : UInt32} (hq : (.constantFloat own index v : Cond) ∈ lw_g) (d : decode cc pc = .ok (.ldc index, 2)) (kk : Y x G b cl sl n w (pc + 2) lv (.float v :: st)) : Y x G b cl sl n w (pc) lv (st) := by
  obtain ⟨hx, hb, hml, hown, hts, hK, hbs, hlk, hrt, hR, hnm⟩ := hB
  intro H locs ls hRp hS hL
  exact lv_ldcf hx hb hown (hts _ hq) d (kk H locs ls hRp hS hL)
theorem y_fconst0 {x : gX} {G : gG} {b cl sl nL : Nat} {own nm : String} {cc : ByteArray} {ret : Option FieldType} {rm : Room} {n : Int} {w : Int → va_E} {pc : Nat} {lv : List (Nat × Value)} {st : List Value} (hB : Bx x G b own cc nL ret rm nm) (d : decode cc pc = .ok (.fconst 0, 1)) (kk : Y x G b cl sl n w (pc + 1) lv (.float FP.fconst0 :: st)) : Y x G b cl sl n w (pc) lv (st) := by
  obtain ⟨hx, hb, hml, hown, hts, hK, hbs, hlk, hrt, hR, hnm⟩ := hB
  intro H locs ls hRp hS hL
  exact lv_fconst0 hx hb d (kk H locs ls hRp hS hL)
theorem y_fconst1 {x : gX} {G : gG} {b cl sl nL : Nat} {own nm : String} {cc : ByteArray} {ret : Option FieldType} {rm : Room} {n : Int} {w : Int → va_E} {pc : Nat} {lv : List (Nat × Value)} {st : List Value} (hB : Bx x G b own cc nL ret rm nm) (d : decode cc pc = .ok (.fconst 1, 1)) (kk : Y x G b cl sl n w (pc + 1) lv (.float FP.fconst1 :: st)) : Y x G b cl sl n w (pc) lv (st) := by
  obtain ⟨hx, hb, hml, hown, hts, hK, hbs, hlk, hrt, hR, hnm⟩ := hB
  intro H locs ls hRp hS hL
  exact lv_fconst1 hx hb d (kk H locs ls hRp hS hL)
theorem y_fconst2 {x : gX} {G : gG} {b cl sl nL : Nat} {own nm : String} {cc : ByteArray} {ret : Option FieldType} {rm : Room} {n : Int} {w : Int → va_E} {pc : Nat} {lv : List (Nat × Value)} {st : List Value} (hB : Bx x G b own cc nL ret rm nm) (d : decode cc pc = .ok (.fconst 2, 1)) (kk : Y x G b cl sl n w (pc + 1) lv (.float FP.fconst2 :: st)) : Y x G b cl sl n w (pc) lv (st) := by
  obtain ⟨hx, hb, hml, hown, hts, hK, hbs, hlk, hrt, hR, hnm⟩ := hB
  intro H locs ls hRp hS hL
  exact lv_fconst2 hx hb d (kk H locs ls hRp hS hL)
theorem y_fadd {x : gX} {G : gG} {b cl sl nL : Nat} {own nm : String} {cc : ByteArray} {ret : Option FieldType} {rm : Room} {n : Int} {w : Int → va_E} {pc : Nat} {lv : List (Nat × Value)} {st : List Value} (hB : Bx x G b own cc nL ret rm nm) {u v : UInt32} (d : decode cc pc = .ok (.fadd, 1)) (hne : vf_n32 (FP.fadd u v)) (kk : Y x G b cl sl n w (pc + 1) lv (.float (FP.fadd u v) :: st)) : Y x G b cl sl n w (pc) lv (.float v :: .float u :: st) := by
  obtain ⟨hx, hb, hml, hown, hts, hK, hbs, hlk, hrt, hR, hnm⟩ := hB
  intro H locs ls hRp hS hL
  exact lv_fadd hx hb d hne (kk H locs ls hRp hS hL)
theorem y_fsub {x : gX} {G : gG} {b cl sl nL : Nat} {own nm : String} {cc : ByteArray} {ret : Option FieldType} {rm : Room} {n : Int} {w : Int → va_E} {pc : Nat} {lv : List (Nat × Value)} {st : List Value} (hB : Bx x G b own cc nL ret rm nm) {u v : UInt32} (d : decode cc pc = .ok (.fsub, 1)) (hne : vf_n32 (FP.fsub u v)) (kk : Y x G b cl sl n w (pc + 1) lv (.float (FP.fsub u v) :: st)) : Y x G b cl sl n w (pc) lv (.float v :: .float u :: st) := by
  obtain ⟨hx, hb, hml, hown, hts, hK, hbs, hlk, hrt, hR, hnm⟩ := hB
  intro H locs ls hRp hS hL
  exact lv_fsub hx hb d hne (kk H locs ls hRp hS hL)
theorem y_fmul {x : gX} {G : gG} {b cl sl nL : Nat} {own nm : String} {cc : ByteArray} {ret : Option FieldType} {rm : Room} {n : Int} {w : Int → va_E} {pc : Nat} {lv : List (Nat × Value)} {st : List Value} (hB : Bx x G b own cc nL ret rm nm) {u v : UInt32} (d : decode cc pc = .ok (.fmul, 1)) (hne : vf_n32 (FP.fmul u v)) (kk : Y x G b cl sl n w (pc + 1) lv (.float (FP.fmul u v) :: st)) : Y x G b cl sl n w (pc) lv (.float v :: .float u :: st) := by
  obtain ⟨hx, hb, hml, hown, hts, hK, hbs, hlk, hrt, hR, hnm⟩ := hB
  intro H locs ls hRp hS hL
  exact lv_fmul hx hb d hne (kk H locs ls hRp hS hL)
theorem y_fdiv {x : gX} {G : gG} {b cl sl nL : Nat} {own nm : String} {cc : ByteArray} {ret : Option FieldType} {rm : Room} {n : Int} {w : Int → va_E} {pc : Nat} {lv : List (Nat × Value)} {st : List Value} (hB : Bx x G b own cc nL ret rm nm) {u v : UInt32} (d : decode cc pc = .ok (.fdiv, 1)) (hne : vf_n32 (FP.fdiv u v)) (kk : Y x G b cl sl n w (pc + 1) lv (.float (FP.fdiv u v) :: st)) : Y x G b cl sl n w (pc) lv (.float v :: .float u :: st) := by
  obtain ⟨hx, hb, hml, hown, hts, hK, hbs, hlk, hrt, hR, hnm⟩ := hB
  intro H locs ls hRp hS hL
  exact lv_fdiv hx hb d hne (kk H locs ls hRp hS hL)
theorem y_i2f {x : gX} {G : gG} {b cl sl nL : Nat} {own nm : String} {cc : ByteArray} {ret : Option FieldType} {rm : Room} {n : Int} {w : Int → va_E} {pc : Nat} {lv : List (Nat × Value)} {st : List Value} (hB : Bx x G b own cc nL ret rm nm) {u : Int32} (d : decode cc pc = .ok (.i2f, 1)) (kk : Y x G b cl sl n w (pc + 1) lv (.float (FP.i2f u) :: st)) : Y x G b cl sl n w (pc) lv (.int u :: st) := by
  obtain ⟨hx, hb, hml, hown, hts, hK, hbs, hlk, hrt, hR, hnm⟩ := hB
  intro H locs ls hRp hS hL
  exact lv_i2f hx hb d (kk H locs ls hRp hS hL)
theorem y_f2i {x : gX} {G : gG} {b cl sl nL : Nat} {own nm : String} {cc : ByteArray} {ret : Option FieldType} {rm : Room} {n : Int} {w : Int → va_E} {pc : Nat} {lv : List (Nat × Value)} {st : List Value} (hB : Bx x G b own cc nL ret rm nm) {u : UInt32} (d : decode cc pc = .ok (.f2i, 1)) (kk : Y x G b cl sl n w (pc + 1) lv (.int (FP.f2i u) :: st)) : Y x G b cl sl n w (pc) lv (.float u :: st) := by
  obtain ⟨hx, hb, hml, hown, hts, hK, hbs, hlk, hrt, hR, hnm⟩ := hB
  intro H locs ls hRp hS hL
  exact lv_f2i hx hb d (kk H locs ls hRp hS hL)
theorem y_fcmp {x : gX} {G : gG} {b cl sl nL : Nat} {own nm : String} {cc : ByteArray} {ret : Option FieldType} {rm : Room} {n : Int} {w : Int → va_E} {pc : Nat} {lv : List (Nat × Value)} {st : List Value} (hB : Bx x G b own cc nL ret rm nm) {op : CmpOp} {u v : UInt32} (d : decode cc pc = .ok (.fcmp op, 1)) (kk : Y x G b cl sl n w (pc + 1) lv (.int (iI (cmpI (FP.fcmp u v) op)) :: st)) : Y x G b cl sl n w pc lv (.float v :: .float u :: st) := by
  obtain ⟨hx, hb, hml, hown, hts, hK, hbs, hlk, hrt, hR, hnm⟩ := hB
  intro H locs ls hRp hS hL
  refine lv_fcmp hx hb d ?_
  rw [cmpI_v]
  exact kk H locs ls hRp hS hL
theorem y_widen {x : gX} {G : gG} {b cl sl cl' sl' : Nat} {n : Int} {w : Int → va_E} {pc : Nat} {lv : List (Nat × Value)} {st : List Value} (h1 : cl ≤ cl') (h2 : sl ≤ sl') (kk : Y x G b cl' sl' n w pc lv st) : Y x G b cl sl n w pc lv st := fun H locs ls hRp hS hL => W.widen h1 h2 (kk H locs ls hRp hS hL)
theorem y_sub {x : gX} {G : gG} {b cl sl : Nat} {n : Int} {w : Int → va_E} {pc : Nat} {lv lv' : List (Nat × Value)} {st : List Value} (ks : List Nat) (h : lv_pick lv ks = lv') (kk : Y x G b cl sl n w pc lv' st) : Y x G b cl sl n w pc lv st := fun H locs ls hRp hS hL => kk H locs ls hRp hS (lv_sub hL ks h)
/-- the ends -/
theorem y_iret {x : gX} {G : gG} {b cl sl nL : Nat} {own nm : String} {cc : ByteArray} {ty : FieldType} {rm : Room} {n : Int} {w : Int → va_E} {pc : Nat} {lv : List (Nat × Value)} (hB : Bx x G b own cc nL (some ty) rm nm) {Po : gP} {v : Int} (hE : Ex x G b Po cl sl) (d : decode cc pc = .ok (.ireturn, 1)) (hn : narrow ty (.int (iI v)) = .int (iI v)) (hP : Po (some (.int (iI v))) n w) : Y x G b cl sl n w pc lv [.int (iI v)] := by
  obtain ⟨hx, hb, hml, hown, hts, hK, hbs, hlk, hrt, hR, hnm⟩ := hB
  intro H locs ls hRp hS hL
  unfold gW
  rw [hE]
  exact W.zret hx hb hrt hn (fun t ht hW => ⟨_, n, w, rfl, hP, by rw [ht]; exact hRp, hS.F ht⟩) (fun q hq => hS.2.2 q hq) d hlk
theorem y_fret {x : gX} {G : gG} {b cl sl nL : Nat} {own nm : String} {cc : ByteArray} {rm : Room} {n : Int} {w : Int → va_E} {pc : Nat} {lv : List (Nat × Value)} (hB : Bx x G b own cc nL (some .float) rm nm) {Po : gP} {v : UInt32} (hE : Ex x G b Po cl sl) (d : decode cc pc = .ok (.freturn, 1)) (hP : Po (some (.float v)) n w) : Y x G b cl sl n w pc lv [.float v] := by
  obtain ⟨hx, hb, hml, hown, hts, hK, hbs, hlk, hrt, hR, hnm⟩ := hB
  intro H locs ls hRp hS hL
  unfold gW
  rw [hE]
  exact W.fret hx hb hrt (fun t ht hW => ⟨_, n, w, rfl, hP, by rw [ht]; exact hRp, hS.F ht⟩) (fun q hq => hS.2.2 q hq) d hlk
theorem y_vret {x : gX} {G : gG} {b cl sl nL : Nat} {own nm : String} {cc : ByteArray} {rm : Room} {n : Int} {w : Int → va_E} {pc : Nat} {lv : List (Nat × Value)} (hB : Bx x G b own cc nL none rm nm) {Po : gP} (hE : Ex x G b Po cl sl) (d : decode cc pc = .ok (.return_, 1)) (hP : Po none n w) : Y x G b cl sl n w pc lv [] := by
  obtain ⟨hx, hb, hml, hown, hts, hK, hbs, hlk, hrt, hR, hnm⟩ := hB
  intro H locs ls hRp hS hL
  unfold gW
  rw [hE]
  exact W.vret hx hb hrt (fun t ht hW => ⟨_, n, w, rfl, hP, by rw [ht]; exact hRp, hS.F ht⟩) (fun q hq => hS.2.2 q hq) d hlk
theorem y_aret {x : gX} {G : gG} {b cl sl nL : Nat} {own nm C : String} {cc : ByteArray} {rm : Room} {n : Int} {w : Int → va_E} {pc : Nat} {lv : List (Nat × Value)} (hB : Bx x G b own cc nL (some (.object C)) rm nm) {Po : gP} {v : Value} (hE : Ex x G b Po cl sl) (d : decode cc pc = .ok (.areturn, 1)) (hv : v = .null ∨ ∃ a, v = .ref a) (hP : Po (some v) n w) : Y x G b cl sl n w pc lv [v] := by
  obtain ⟨hx, hb, hml, hown, hts, hK, hbs, hlk, hrt, hR, hnm⟩ := hB
  intro H locs ls hRp hS hL
  unfold gW
  rw [hE]
  exact W.aret hx hb hrt (Or.inl ⟨_, rfl⟩) hv (fun t ht hW => ⟨_, n, w, rfl, hP, by rw [ht]; exact hRp, hS.F ht⟩) (fun q hq => hS.2.2 q hq) d hlk
theorem Kx.call {G : gG} {U : State} {g : JFrame} {mk : MethodId} {a : Array Value} (h : Kx G U) : Kx G (U.calling g mk a) := Kx.moved (u := U) (U := U.calling g mk a) (Vm.Alike.refl U.vm) (fun w hw => va_Nw.same (by revert w; decide +kernel) (u := U) rfl (h.2.2.2 w hw)) h
theorem Kx.warm {G : gG} {s U : State} (hW : s.WarmedH U.vm) (h : Kx G s) : Kx G U := Kx.moved hW.alike (fun w hw => by
  have h9 := h.2.2.2 w hw
  simp only [nestW, List.mem_cons, List.not_mem_nil, or_false] at hw
  rcases hw with rfl | rfl | rfl | rfl | rfl | rfl | rfl | rfl <;> exact va_Nw.warmM hW h9) h
theorem Px.blind {G : gG} {b : Nat} {av : List Value} {n : Int} {w : Int → va_E} {K : State → Prop} (hK : ∀ (U : State) (g : JFrame) (mk : MethodId) (a : Array Value), K U → K (U.calling g mk a)) : FrameBlind (Px G b av n w K) := fun a U g mk h => ⟨h.1, h.2.1, h.2.2.1.call, hK U g mk a h.2.2.2⟩
/-- a contract out of its body -/
theorem CtK_of {l : Launch} {G : gG} {b : Nat} {K : State → Prop} {y : MethodName} {cc : ByteArray} {nL : Nat} {ret : Option FieldType} {rm : Room} {av : List Value} {n : Int} {w : Int → va_E} {Po : gP} (hy : plainName y.cls = true) (ha : (lg_sl av).length ≤ nL) (hw : (Cond.code y cc nL ret : Cond) ∈ lw_g)
    (body : ∀ x : gX, x.1.2.1 = l → Bx x G b y.cls cc nL ret rm y.name → Ex x G b Po rm.cells rm.slots → K (gs x) → Y x G b 0 0 n w 0 (lv_args 0 av) []) : CtK l G b K y cc nL ret rm av n w Po := by
  refine Met.ofW (cc := cc) (maxL := nL) (ret := ret) hy rfl ?_
  intro p e s m args below meth c s₁ B hml hv
  obtain ⟨rfl, hRp, hK, hKs⟩ := hv
  have hts0 := atoms_spec (ws := cw y cc nL ret) B.pre
  have hl := lv_entry av (n := nL) ha
  rw [lg_entry_eq]
  have hsz : ad b n = s.heap.size := hRp.2.1.symm
  refine body ((p, l, e, (headSpec (cw y cc nL ret) rm).room, s), (m, av.toArray, below, meth, c), MQ below (Qx G b Po) av.toArray s rm.cells rm.slots (fun q => b ≤ q)) rfl ⟨B.exec, B.bytes, hml, findClass_of_methodNamed B.named, fun w h => hts0 w (List.mem_cons_of_mem _ h), hK, by show b ≤ s.heap.size; rw [← hsz]; exact Nat.le_add_right _ _, B.notSynchronized, B.returns, rfl, (name_of_methodNamed B.named B.method).1⟩ rfl hKs s.heap [] _ hRp va_S.rf ?_
  show lv_has _ c.maxLocals _
  rw [hml]
  exact hl
theorem gk_ldcwF {p : Program} {l : Launch} {e : Env} {R : Room} {s : State} {m : MethodId} {args : Array Value} {below : List Frame} {meth : Method} {c : Code} {T : State} {locs : List Loc} {cells slots : Nat} (X : Stand p l e R s m args below meth c T locs cells slots) (hexec : p.tables.exec = Jvm.exec) {own : String} {index : Nat} {v : UInt32} (hown : s.vm.findClass own = some m.cls)
    (hconst : (Cond.constantFloat own index v).before args s = true) {g : JFrame} (hg : g.method = m) (hdg : decode c.code g.pc = .ok (.ldc_w index, 3)) :
    ∀ target, Steps p.tables e below (T.setTop { g with pc := g.pc + 3, stack := .float v :: g.stack }) target → Steps p.tables e below (T.setTop g) target := by
  obtain ⟨k, cf, hk, hcf, hcp⟩ := Cond.constantFloat_spec hown hconst
  obtain ⟨k', hk', he⟩ := X.warmed.alike.2.2 _ _ hk
  intro target hrest
  subst hg
  jvm_step X.here [hexec, hdg, ldc_w.wp_float (s := T) (f := g) X.here.top hk' (by rw [he]; exact hcf) hcp]
  exact hrest
theorem y_ldcwf {x : gX} {G : gG} {b cl sl nL : Nat} {own nm : String} {cc : ByteArray} {ret : Option FieldType} {rm : Room} {n : Int} {w : Int → va_E} {pc : Nat} {lv : List (Nat × Value)} {st : List Value} (hB : Bx x G b own cc nL ret rm nm) {index : Nat} {v : UInt32} (hq : (.constantFloat own index v : Cond) ∈ lw_g) (d : decode cc pc = .ok (.ldc_w index, 3)) (kk : Y x G b cl sl n w (pc + 3) lv (.float v :: st)) : Y x G b cl sl n w pc lv st := by
  obtain ⟨hx, hb, hml, hown, hts, hK, hbs, hlk, hrt, hR, hnm⟩ := hB
  intro H locs ls hRp hS hL T hT X
  obtain ⟨t, a, b⟩ := kk H locs ls hRp hS hL T hT X
  exact ⟨t, gk_ldcwF X hx hown (hts _ hq) (g := F0 x.2.1.1 pc ls st) rfl (by rw [hb]; exact d) t a, b⟩
theorem y_ldcwi {x : gX} {G : gG} {b cl sl nL : Nat} {own nm : String} {cc : ByteArray} {ret : Option FieldType} {rm : Room} {n : Int} {w : Int → va_E} {pc : Nat} {lv : List (Nat × Value)} {st : List Value} (hB : Bx x G b own cc nL ret rm nm) {index : Nat} {v : Int32} (hq : (.constant own index v : Cond) ∈ lw_g) (d : decode cc pc = .ok (.ldc_w index, 3)) (kk : Y x G b cl sl n w (pc + 3) lv (.int v :: st)) : Y x G b cl sl n w pc lv st := by
  obtain ⟨hx, hb, hml, hown, hts, hK, hbs, hlk, hrt, hR, hnm⟩ := hB
  intro H locs ls hRp hS hL
  exact lv_ldcw hx hb hown (hts _ hq) d (kk H locs ls hRp hS hL)
theorem y_tableIn {x : gX} {G : gG} {b cl sl nL : Nat} {own nm : String} {cc : ByteArray} {ret : Option FieldType} {rm : Room} {n : Int} {w : Int → va_E} {pc : Nat} {lv : List (Nat × Value)} {st : List Value} (hB : Bx x G b own cc nL ret rm nm) {dflt lo hi : Int} {offs : Array Int} {len : Nat} {u off : Int} (tgt : Nat) (d : decode cc pc = .ok (.tableswitch dflt lo hi offs, len)) (hu : -2147483648 ≤ u ∧ u ≤ 2147483647) (h1 : lo ≤ u ∧ u ≤ hi) (ho : offs[(u - lo).toNat]? = some off) (ht : (pc : Int) + off = (tgt : Int)) (kk : Y x G b cl sl n w tgt lv st) : Y x G b cl sl n w pc lv (.int (iI u) :: st) := by
  obtain ⟨hx, hb, hml, hown, hts, hK, hbs, hlk, hrt, hR, hnm⟩ := hB
  intro H locs ls hRp hS hL
  exact lv_tableIn hx hb d (by rw [iI_toInt hu]; omega) (by rw [iI_toInt hu]; omega) (by rw [iI_toInt hu]; exact ho) ht (kk H locs ls hRp hS hL)
theorem y_tableOut {x : gX} {G : gG} {b cl sl nL : Nat} {own nm : String} {cc : ByteArray} {ret : Option FieldType} {rm : Room} {n : Int} {w : Int → va_E} {pc : Nat} {lv : List (Nat × Value)} {st : List Value} (hB : Bx x G b own cc nL ret rm nm) {dflt lo hi : Int} {offs : Array Int} {len : Nat} {u : Int} (tgt : Nat) (d : decode cc pc = .ok (.tableswitch dflt lo hi offs, len)) (hu : -2147483648 ≤ u ∧ u ≤ 2147483647) (h1 : u < lo ∨ hi < u) (ht : (pc : Int) + dflt = (tgt : Int)) (kk : Y x G b cl sl n w tgt lv st) : Y x G b cl sl n w pc lv (.int (iI u) :: st) := by
  obtain ⟨hx, hb, hml, hown, hts, hK, hbs, hlk, hrt, hR, hnm⟩ := hB
  intro H locs ls hRp hS hL
  exact lv_tableOut hx hb d (by rw [iI_toInt hu]; exact h1) ht (kk H locs ls hRp hS hL)
end
section
/-! the heap's rows over a numbered world -/
def upW (w : Int → va_E) (k : Int) (e : va_E) : Int → va_E := fun j => if j = k then e else w j
theorem upW_self (w : Int → va_E) (k : Int) (e : va_E) : upW w k e k = e := by simp [upW]
theorem upW_ne (w : Int → va_E) {k j : Int} (e : va_E) (h : j ≠ k) : upW w k e j = w j := by simp [upW, h]
theorem ad_ge (b : Nat) (k : Int) : b ≤ ad b k := Nat.le_add_right _ _
theorem ad_inj {b : Nat} {k j : Int} (hk : 0 ≤ k) (hj : 0 ≤ j) (h : ad b k = ad b j) : k = j := by
  unfold ad at h
  omega
theorem Rp.set {G : gG} {b : Nat} {n : Int} {w : Int → va_E} {H H1 : Heap} {k : Int} {e : va_E} (h : Rp G b n w H) (hk : 0 ≤ k ∧ k < n) (he : va_at G.1 vwCl (ad b k, e) H1) (z : H1.size = H.size) (oq : ∀ q : Nat, q ≠ ad b k → H1[q]? = H[q]?) : Rp G b n (upW w k e) H1 := by
  refine ⟨h.1, by rw [z]; exact h.2.1, fun j h0 h1 => ?_⟩
  by_cases hj : j = k
  · subst hj
    rw [upW_self]
    exact he
  · rw [upW_ne _ _ hj]
    exact (h.2.2 j h0 h1).kept (oq _ (fun z => hj (ad_inj h0 hk.1 z)))
theorem Rp.push {G : gG} {b : Nat} {n : Int} {w : Int → va_E} {H H1 : Heap} {e : va_E} (h : Rp G b n w H) (he : va_at G.1 vwCl (ad b n, e) H1) (z : H1.size = H.size + 1) (oq : ∀ q : Nat, q < H.size → H1[q]? = H[q]?) : Rp G b (n + 1) (upW w n e) H1 := by
  have h0 := h.1
  refine ⟨by omega, by rw [z, h.2.1]; unfold ad; omega, fun j h0 h1 => ?_⟩
  by_cases hj : j = n
  · subst hj
    rw [upW_self]
    exact he
  · rw [upW_ne _ _ hj]
    have h2 := h.2.2 j h0 (by omega)
    exact h2.kept (oq _ h2.lt)
theorem Rp.recv {G : gG} {b : Nat} {n : Int} {w : Int → va_E} {H : Heap} {s : State} {k : Int} {ci : Nat} {fs : List Value} {q : vw_C} (h : Rp G b n w H) (hK : Kx G s) (hk : 0 ≤ k ∧ k < n) (he : w k = .inr (ci, fs)) (hc : vwCl[ci]? = some q) : ∃ cell : Cell, H[ad b k]? = some cell ∧ cell.vm.isStatics = false ∧ s.vm.findClass q.1 = some cell.cls := by
  obtain ⟨q', h1, cell, g1, g2, g3, -⟩ := (show va_at G.1 vwCl (ad b k, .inr (ci, fs)) H by rw [← he]; exact h.2.2 k hk.1 hk.2)
  exact ⟨cell, g1, by rw [g3]; rfl, by rw [g2]; exact (hK.1.1 ci q hc).2.1⟩
section
variable {x : gX} {G : gG} {b cl sl nL : Nat} {own nm : String} {cc : ByteArray} {ret : Option FieldType} {rm : Room} {n : Int} {w : Int → va_E} {pc : Nat} {lv : List (Nat × Value)} {st : List Value}
theorem y_get (hB : Bx x G b own cc nL ret rm nm) {C : String} {T : u_T} {N ci index : Nat} {k : Int} {fs : List Value} {v : Value} (hin : ∀ w ∈ u_ws C T N, w ∈ lw_g) (hk : 0 ≤ k ∧ k < n) (he : w k = .inr (ci, fs)) (hc : vwCl[ci]? = some (C, T, N)) (j : Nat) (hj : j < N) (hq : (.fieldLink own index (T j).1 (T j).2.1 (T j).2.2.1 : Cond) ∈ lw_g) (hv : fs[j]? = some v) (d : decode cc pc = .ok (.getfield index, 3))
    (kk : Y x G b cl sl n w (pc + 3) lv (v :: st)) : Y x G b cl sl n w pc lv (.ref (ad b k) :: st) := by
  obtain ⟨hx, hb, hml, hown, hts, hK, hbs, hlk, hrt, hR, hnm⟩ := hB
  intro H locs ls hRp hS hL
  exact va_get (ws := [(ad b k, .inr (ci, fs))]) hx hb hts hin hown hK.1 (fun i q hi => by
    have hi0 : i = 0 := by
      have := (List.getElem?_eq_some_iff.mp hi).1
      simp at this
      exact this
    subst hi0
    cases hi
    rw [← he]
    exact hRp.2.2 k hk.1 hk.2) 0 rfl hc j hj (hts _ hq) (fun _ h => h) hv d (kk H locs ls hRp hS hL)
theorem y_put (hB : Bx x G b own cc nL ret rm nm) {C : String} {T : u_T} {N ci index : Nat} {k : Int} {fs : List Value} {v : Value} (ty0 : Nat → FieldType) (hty : ∀ k, k < N → parseFieldDescriptor (T k).2.2.1 = some (ty0 k)) (hnm2 : ∀ a, a < N → ∀ b, b < N → a ≠ b → (T a).2.1 ≠ (T b).2.1) (hin : ∀ w ∈ u_ws C T N, w ∈ lw_g) (hk : 0 ≤ k ∧ k < n) (he : w k = .inr (ci, fs)) (hc : vwCl[ci]? = some (C, T, N)) (j : Nat) (hj : j < N) (hq : (.fieldLink own index (T j).1 (T j).2.1 (T j).2.2.1 : Cond) ∈ lw_g) (hfin : (T j).2.2.2 = false) (hn : narrow (ty0 j) v = v) (hfit : fits (ty0 j) v = true) (hl : j < fs.length) (d : decode cc pc = .ok (.putfield index, 3))
    (kk : Y x G b cl sl n (upW w k (.inr (ci, fs.set j v))) (pc + 3) lv st) : Y x G b cl sl n w pc lv (v :: .ref (ad b k) :: st) := by
  obtain ⟨hx, hb, hml, hown, hts, hK, hbs, hlk, hrt, hR, hnm⟩ := hB
  intro H locs ls hRp hS0 hL
  have hap := va_apart (own := own) hts hin ty0 hty hnm2 hK.1 hc
  obtain ⟨r, h1, cell, q1, q2, q3, q4⟩ := (show va_at G.1 vwCl (ad b k, .inr (ci, fs)) H by rw [← he]; exact hRp.2.2 k hk.1 hk.2)
  have hr : r = (C, T, N) := Option.some.inj (h1.symm.trans hc)
  subst hr
  obtain ⟨hS, hfc, kC, hkC, hkind⟩ := hK.1.1 ci _ hc
  obtain ⟨cf, kf, fi, f, hi, hsl⟩ := hS j hj
  have hlay := hts _ (hin _ (u_in_lay hj))
  unfold u_lay at hlay
  rw [if_neg (by rw [hfin]; decide)] at hlay
  have hst := (u_facts hfc hkC (u_lays hts hin hj) hi).1
  have h6 := u_store hfc hkC hkind hlay hi (hty j hj) hn hfit
  refine W.putK hx hb (f := f) ⟨hown, hts _ hq, ⟨_, _, _, hi⟩, hst⟩ (by rw [q2]; exact h6) q1 q3 (by rw [hsl]; exact k2_hasslot (q4 j hj)) rfl rfl d fun H' e1 e2 e3 => ?_
  rw [hsl] at e1 ⊢
  exact kk H' _ ls (hRp.set hk ⟨_, hc, t_OB.to (V := updV (vp_V fs) j v) ⟨_, e1, q2, q3, t_set q4 hap hj v⟩ (fun i _ => vp_updV_set hl v i)⟩ e2 e3) (hS0.put e2 e3 (ad_ge b k)) hL
theorem y_putF (hB : Bx x G b own cc nL ret rm "<init>") {T : u_T} {N ci index : Nat} {k : Int} {fs : List Value} {v : Value} (ty0 : Nat → FieldType) (hty : ∀ k, k < N → parseFieldDescriptor (T k).2.2.1 = some (ty0 k)) (hnm2 : ∀ a, a < N → ∀ b, b < N → a ≠ b → (T a).2.1 ≠ (T b).2.1) (hin : ∀ w ∈ u_ws own T N, w ∈ lw_g) (hk : 0 ≤ k ∧ k < n) (he : w k = .inr (ci, fs)) (hc : vwCl[ci]? = some (own, T, N)) (j : Nat) (hj : j < N) (hq : (.fieldLink own index (T j).1 (T j).2.1 (T j).2.2.1 : Cond) ∈ lw_g) (hfin : (T j).2.2.2 = true) (hdecl : (T j).1 = own) (hn : narrow (ty0 j) v = v) (hfit : fits (ty0 j) v = true) (hl : j < fs.length) (d : decode cc pc = .ok (.putfield index, 3))
    (kk : Y x G b cl sl n (upW w k (.inr (ci, fs.set j v))) (pc + 3) lv st) : Y x G b cl sl n w pc lv (v :: .ref (ad b k) :: st) := by
  obtain ⟨hx, hb, hml, hown, hts, hK, hbs, hlk, hrt, hR, hnm⟩ := hB
  intro H locs ls hRp hS0 hL
  have hap := va_apart (own := own) hts hin ty0 hty hnm2 hK.1 hc
  obtain ⟨r, h1, cell, q1, q2, q3, q4⟩ := (show va_at G.1 vwCl (ad b k, .inr (ci, fs)) H by rw [← he]; exact hRp.2.2 k hk.1 hk.2)
  have hr : r = (own, T, N) := Option.some.inj (h1.symm.trans hc)
  subst hr
  obtain ⟨hS, hfc, kC, hkC, hkind⟩ := hK.1.1 ci _ hc
  obtain ⟨cf, kf, fi, f, hi, hsl⟩ := hS j hj
  have hlay := hts _ (hin _ (u_in_lay hj))
  unfold u_lay at hlay
  rw [if_pos hfin] at hlay
  have hst := (u_facts hfc hkC (u_lays hts hin hj) hi).1
  have hcf : x.2.1.1.cls = cf := by
    obtain ⟨_, _, c', _, _, _, -, -, hf', -, -, -, hown2, -⟩ := Cond.laysFinal_spec hlay
    have e1 : c' = cf := by have := hi.symm.trans hf'; simp at this; exact this.1.symm
    rw [hdecl] at hown2
    rw [← e1]; exact Option.some.inj (hown.symm.trans hown2)
  have h6 := u_fits hfc hkC hkind (Or.inr hlay) hi (hty j hj) hn hfit
  refine W.putFinK hx hb hown (hts _ hq) hi hst hcf hnm (by rw [q2]; exact h6) q1 q3 (by rw [hsl]; exact k2_hasslot (q4 j hj)) rfl rfl d fun H' e1 e2 e3 => ?_
  rw [hsl] at e1 ⊢
  exact kk H' _ ls (hRp.set hk ⟨_, hc, t_OB.to (V := updV (vp_V fs) j v) ⟨_, e1, q2, q3, t_set q4 hap hj v⟩ (fun i _ => vp_updV_set hl v i)⟩ e2 e3) (hS0.put e2 e3 (ad_ge b k)) hL
/-- reads of arrays of ints, booleans, chars -/
theorem y_ald (ty : Nat) (hB : Bx x G b own cc nL ret rm nm) {k i : Int} {N : Nat} {f : Nat → Int32} (hk : 0 ≤ k ∧ k < n) (he : w k = .inl (G.2 ty, N, .inl f)) (hty : ty = 0 ∨ ty = 1 ∨ ty = 2) (hi : 0 ≤ i ∧ i < N) (hN : N < 2147483648) (d : decode cc pc = .ok ((match ty with | 0 => .iaload | 1 => .baload | _ => .caload), 1))
    (kk : Y x G b cl sl n w (pc + 1) lv (.int (f i.toNat) :: st)) : Y x G b cl sl n w pc lv (.int (iI i) :: .ref (ad b k) :: st) := by
  obtain ⟨hx, hb, hml, hown, hts, hK, hbs, hlk, hrt, hR, hnm⟩ := hB
  intro H locs ls hRp hS hL
  have hc : H[ad b k]? = some (vp_cell (G.2 ty) (N, .inl f)) := (show va_at G.1 vwCl (ad b k, .inl (G.2 ty, N, .inl f)) H by rw [← he]; exact hRp.2.2 k hk.1 hk.2)
  have hin := iI_in hi hN
  have hcl : (iI i).toNatClampNeg = i.toNat := iI_cl (by omega)
  have hlt : i.toNat < N := by omega
  rcases hty with rfl | rfl | rfl
  · exact W.iald (v := .int (f i.toNat)) hx hb hc ((hK.1.2 0 _ rfl).1 N (fun j => .int (f j))) (fun q => by cases q) (by show ¬ (iI i < 0 ∨ (arrV _ _ _).slots.size ≤ _); rw [arrV_size]; exact hin) (by show (arrV _ _ _).slots[_]? = _; rw [hcl, arrV_read _ _ hlt]) rfl rfl d (kk H locs ls hRp hS hL)
  · exact W.zald (v := .int (f i.toNat)) hx hb hc ((hK.1.2 1 _ rfl).1 N (fun j => .int (f j))) (fun q => by cases q) (by show ¬ (iI i < 0 ∨ (arrV _ _ _).slots.size ≤ _); rw [arrV_size]; exact hin) (by show (arrV _ _ _).slots[_]? = _; rw [hcl, arrV_read _ _ hlt]) rfl rfl d (kk H locs ls hRp hS hL)
  · exact W.cald (v := .int (f i.toNat)) hx hb hc ((hK.1.2 2 _ rfl).1 N (fun j => .int (f j))) (fun q => by cases q) (by show ¬ (iI i < 0 ∨ (arrV _ _ _).slots.size ≤ _); rw [arrV_size]; exact hin) (by show (arrV _ _ _).slots[_]? = _; rw [hcl, arrV_read _ _ hlt]) rfl rfl d (kk H locs ls hRp hS hL)
theorem y_aald (ty : Nat) (hB : Bx x G b own cc nL ret rm nm) {k i : Int} {N : Nat} {f : Nat → Option Nat} (hk : 0 ≤ k ∧ k < n) (he : w k = .inl (G.2 ty, N, .inr (.inr (.inr (.inr f))))) (hty : ty = 3 ∨ ty = 4) (hi : 0 ≤ i ∧ i < N) (hN : N < 2147483648) (d : decode cc pc = .ok (.aaload, 1))
    (kk : Y x G b cl sl n w (pc + 1) lv (va_rf (f i.toNat) :: st)) : Y x G b cl sl n w pc lv (.int (iI i) :: .ref (ad b k) :: st) := by
  obtain ⟨hx, hb, hml, hown, hts, hK, hbs, hlk, hrt, hR, hnm⟩ := hB
  intro H locs ls hRp hS hL
  have hc : va_at G.1 vwCl (ad b k, .inl (G.2 ty, N, .inr (.inr (.inr (.inr f))))) H := (by rw [← he]; exact hRp.2.2 k hk.1 hk.2)
  have hin := iI_in hi hN
  have hcl : (iI i).toNatClampNeg = i.toNat := iI_cl (by omega)
  have hP : va_P G.1 vwCl [(ad b k, .inl (G.2 ty, N, .inr (.inr (.inr (.inr f)))))] H := (fun i q hi => by
    have hi0 : i = 0 := by
      have := (List.getElem?_eq_some_iff.mp hi).1
      simp at this
      exact this
    subst hi0
    cases hi
    exact hc)
  rcases hty with rfl | rfl
  · exact va_aldq hx hb hK.1 hP 0 3 rfl rfl hin d (by rw [hcl]; exact kk H locs ls hRp hS hL)
  · exact va_aldq hx hb hK.1 hP 0 4 rfl rfl hin d (by rw [hcl]; exact kk H locs ls hRp hS hL)
theorem y_iast (hB : Bx x G b own cc nL ret rm nm) {k i v : Int} {N : Nat} {f : Nat → Int32} (hk : 0 ≤ k ∧ k < n) (he : w k = .inl (G.2 0, N, .inl f)) (hi : 0 ≤ i ∧ i < N) (hN : N < 2147483648) (d : decode cc pc = .ok (.iastore, 1))
    (kk : Y x G b cl sl n (upW w k (.inl (G.2 0, N, .inl (upd f i.toNat (iI v))))) (pc + 1) lv st) : Y x G b cl sl n w pc lv (.int (iI v) :: .int (iI i) :: .ref (ad b k) :: st) := by
  obtain ⟨hx, hb, hml, hown, hts, hK, hbs, hlk, hrt, hR, hnm⟩ := hB
  intro H locs ls hRp hS hL
  have hc : H[ad b k]? = some (vp_cell (G.2 0) (N, .inl f)) := (show va_at G.1 vwCl (ad b k, .inl (G.2 0, N, .inl f)) H by rw [← he]; exact hRp.2.2 k hk.1 hk.2)
  have hin := iI_in hi hN
  have hcl : (iI i).toNatClampNeg = i.toNat := iI_cl (by omega)
  refine W.iast hx hb hc ((hK.1.2 0 _ rfl).1 N (fun j => .int (f j))) (fun q => by cases q) (by show ¬ (iI i < 0 ∨ (arrV _ _ _).slots.size ≤ _); rw [arrV_size]; exact hin) rfl rfl d fun H1 e z oq => ?_
  refine kk H1 _ ls (hRp.set hk ?_ z oq) (hS.put z oq (ad_ge b k)) hL
  show H1[ad b k]? = some (vp_cell _ _)
  rw [e]
  rw [vp_cell_i, vp_cell_i, arrV_store]
  congr 2
  funext q
  rw [hcl]
  by_cases hq : q = i.toNat
  · subst hq
    simp [updV, upd]
  · simp [updV, upd, hq]
theorem y_zast (hB : Bx x G b own cc nL ret rm nm) {k i v : Int} {N : Nat} {f : Nat → Int32} (hk : 0 ≤ k ∧ k < n) (he : w k = .inl (G.2 1, N, .inl f)) (hi : 0 ≤ i ∧ i < N) (hN : N < 2147483648) (hv : v = 0 ∨ v = 1) (d : decode cc pc = .ok (.bastore, 1))
    (kk : Y x G b cl sl n (upW w k (.inl (G.2 1, N, .inl (upd f i.toNat (iI v))))) (pc + 1) lv st) : Y x G b cl sl n w pc lv (.int (iI v) :: .int (iI i) :: .ref (ad b k) :: st) := by
  obtain ⟨hx, hb, hml, hown, hts, hK, hbs, hlk, hrt, hR, hnm⟩ := hB
  intro H locs ls hRp hS hL
  have hc : H[ad b k]? = some (vp_cell (G.2 1) (N, .inl f)) := (show va_at G.1 vwCl (ad b k, .inl (G.2 1, N, .inl f)) H by rw [← he]; exact hRp.2.2 k hk.1 hk.2)
  have hin := iI_in hi hN
  have hcl : (iI i).toNatClampNeg = i.toNat := iI_cl (by omega)
  have hnar : narrow .boolean (.int (iI v)) = .int (iI v) := by rcases hv with rfl | rfl <;> rfl
  refine W.zast hx hb hc ((hK.1.2 1 _ rfl).1 N (fun j => .int (f j))) (fun q => by cases q) (by show ¬ (iI i < 0 ∨ (arrV _ _ _).slots.size ≤ _); rw [arrV_size]; exact hin) rfl rfl d fun H1 e z oq => ?_
  refine kk H1 _ ls (hRp.set hk ?_ z oq) (hS.put z oq (ad_ge b k)) hL
  show H1[ad b k]? = some (vp_cell _ _)
  rw [e]
  rw [vp_cell_i, vp_cell_i, arrV_store]
  congr 2
  funext q
  rw [hcl]
  by_cases hq : q = i.toNat
  · subst hq
    simp [updV, upd, hnar]
  · simp [updV, upd, hq]
theorem y_cast (hB : Bx x G b own cc nL ret rm nm) {k i v : Int} {N : Nat} {f : Nat → Int32} (hk : 0 ≤ k ∧ k < n) (he : w k = .inl (G.2 2, N, .inl f)) (hi : 0 ≤ i ∧ i < N) (hN : N < 2147483648) (hv : 0 ≤ v ∧ v < 65536) (d : decode cc pc = .ok (.castore, 1))
    (kk : Y x G b cl sl n (upW w k (.inl (G.2 2, N, .inl (upd f i.toNat (iI v))))) (pc + 1) lv st) : Y x G b cl sl n w pc lv (.int (iI v) :: .int (iI i) :: .ref (ad b k) :: st) := by
  obtain ⟨hx, hb, hml, hown, hts, hK, hbs, hlk, hrt, hR, hnm⟩ := hB
  intro H locs ls hRp hS hL
  have hc : H[ad b k]? = some (vp_cell (G.2 2) (N, .inl f)) := (show va_at G.1 vwCl (ad b k, .inl (G.2 2, N, .inl f)) H by rw [← he]; exact hRp.2.2 k hk.1 hk.2)
  have hin := iI_in hi hN
  have hcl : (iI i).toNatClampNeg = i.toNat := iI_cl (by omega)
  have hnar : narrow .char (.int (iI v)) = .int (iI v) := by
    have h9 := (pk_charN (q := v.toNat) (by omega)).1
    rw [iI_nI, show ((v.toNat : Nat) : Int) = v by omega] at h9
    exact h9
  refine W.cast hx hb hc ((hK.1.2 2 _ rfl).1 N (fun j => .int (f j))) (fun q => by cases q) (by show ¬ (iI i < 0 ∨ (arrV _ _ _).slots.size ≤ _); rw [arrV_size]; exact hin) rfl rfl d fun H1 e z oq => ?_
  refine kk H1 _ ls (hRp.set hk ?_ z oq) (hS.put z oq (ad_ge b k)) hL
  show H1[ad b k]? = some (vp_cell _ _)
  rw [e]
  rw [vp_cell_i, vp_cell_i, arrV_store]
  congr 2
  funext q
  rw [hcl]
  by_cases hq : q = i.toNat
  · subst hq
    simp [updV, upd, hnar]
  · simp [updV, upd, hq]
theorem y_aast (ty : Nat) (hB : Bx x G b own cc nL ret rm nm) {k i v : Int} {N ci : Nat} {f : Nat → Option Nat} {vs : List Value} (hk : 0 ≤ k ∧ k < n) (he : w k = .inl (G.2 ty, N, .inr (.inr (.inr (.inr f))))) (hv : 0 ≤ v ∧ v < n) (hv2 : w v = .inr (ci, vs)) (hty : (ty = 3 ∧ ci = 2) ∨ (ty = 4 ∧ ci = 0)) (hi : 0 ≤ i ∧ i < N) (hN : N < 2147483648) (d : decode cc pc = .ok (.aastore, 1))
    (kk : Y x G b cl sl n (upW w k (.inl (G.2 ty, N, .inr (.inr (.inr (.inr (va_up f i.toNat (some (ad b v))))))))) (pc + 1) lv st) : Y x G b cl sl n w pc lv (.ref (ad b v) :: .int (iI i) :: .ref (ad b k) :: st) := by
  obtain ⟨hx, hb, hml, hown, hts, hK, hbs, hlk, hrt, hR, hnm⟩ := hB
  intro H locs ls hRp hS hL
  have hc : H[ad b k]? = some (vp_cell (G.2 ty) (N, .inr (.inr (.inr (.inr f))))) := (show va_at G.1 vwCl (ad b k, .inl (G.2 ty, N, .inr (.inr (.inr (.inr f))))) H by rw [← he]; exact hRp.2.2 k hk.1 hk.2)
  have hin := iI_in hi hN
  have hcl : (iI i).toNatClampNeg = i.toNat := iI_cl (by omega)
  have hlt : (iI i).toNatClampNeg < N := by rw [hcl]; omega
  have h0 : ¬ iI i < 0 := fun q => hin (Or.inl q)
  obtain ⟨r', hr', cellV, g1, g2, g3, -⟩ := (show va_at G.1 vwCl (ad b v, .inr (ci, vs)) H by rw [← hv2]; exact hRp.2.2 v hv.1 hv.2)
  have key : ∀ (t0 : Nat), (tysG G)[t0]? = some (G.2 ty, .object r'.1) → gW x H locs cl sl (F0 x.2.1.1 pc ls (.ref (ad b v) :: .int (iI i) :: .ref (ad b k) :: st)) := by
    intro t0 ht
    have hcls := (hK.1.1 ci r' hr').2
    obtain ⟨kA, comp, k1, k2, k3, -⟩ := (hK.1.2 t0 _ ht).2
    have hcomp : comp = G.1.1 ci := Option.some.inj (k3.symm.trans hcls.1)
    subst hcomp
    obtain ⟨kC, hkC, -⟩ := hcls.2
    refine W.aast hx hb hc (fun q h => by cases h) (fun h => by cases h) k1 k2 rfl hkC ⟨h0, by show _ < (arrV _ _ _).slots.size; rw [arrV_size]; exact hlt⟩ g1 (fun q h => by rw [g3] at h; cases h) (by rw [g2]; exact hkC) (by rw [g2]; exact va_assign hcls) rfl rfl d fun H1 e z oq => ?_
    refine kk H1 _ ls (hRp.set hk ?_ z oq) (hS.put z oq (ad_ge b k)) hL
    show H1[ad b k]? = some (vp_cell _ _)
    rw [e]
    rw [vp_cell_q, vp_cell_q, arrV_store]
    congr 2
    funext q
    rw [hcl]
    by_cases hq : q = i.toNat
    · subst hq
      simp [updV, va_up, va_rf]
    · simp [updV, va_up, hq]
  rcases hty with ⟨rfl, rfl⟩ | ⟨rfl, rfl⟩
  · cases hr'
    exact key 3 rfl
  · cases hr'
    exact key 4 rfl
/-- System.arraycopy between int arrays -/
theorem y_copyi (hB : Bx x G b own cc nL ret rm nm) {index : Nat} {k0 k1 sp dp m : Int} {n0 n1 : Nat} {f g : Nat → Int32} (hk0 : 0 ≤ k0 ∧ k0 < n) (hk1 : 0 ≤ k1 ∧ k1 < n) (he0 : w k0 = .inl (G.2 0, n0, .inl f)) (he1 : w k1 = .inl (G.2 0, n1, .inl g)) (h1 : 0 ≤ sp ∧ 0 ≤ dp ∧ 0 ≤ m) (h4 : sp + m ≤ n0) (h5 : dp + m ≤ n1) (h0 : n0 < 2147483648) (h9 : n1 < 2147483648)
    (q1 : (.methodLink own index arraycopyName : Cond) ∈ lw_g) (q2 : (.native arraycopyName : Cond) ∈ lw_g) (q3 : (.static arraycopyName : Cond) ∈ lw_g) (q4 : (.initialized "java/lang/System" : Cond) ∈ lw_g) (hfr : 1 ≤ rm.frames) (hlo : (st.map fun v => v.category).sum + (nativeFrameWords "java/lang/System" "arraycopy" 5 + 11) ≤ rm.locals) (d : decode cc pc = .ok (.invokestatic index, 3))
    (kk : Y x G b cl sl n (upW w k1 (.inl (G.2 0, n1, .inl (va_cpy f g sp.toNat dp.toNat m.toNat)))) (pc + 3) lv st) : Y x G b cl sl n w pc lv (.int (iI m) :: .int (iI dp) :: .ref (ad b k1) :: .int (iI sp) :: .ref (ad b k0) :: st) := by
  obtain ⟨hx, hb, hml, hown, hts, hK, hbs, hlk, hrt, hR, hnm⟩ := hB
  subst hR
  intro H locs ls hRp hS hL T hT X
  have hc0 : H[ad b k0]? = some (vp_cell (G.2 0) (n0, .inl f)) := (show va_at G.1 vwCl (ad b k0, .inl (G.2 0, n0, .inl f)) H by rw [← he0]; exact hRp.2.2 k0 hk0.1 hk0.2)
  have hc1 : H[ad b k1]? = some (vp_cell (G.2 0) (n1, .inl g)) := (show va_at G.1 vwCl (ad b k1, .inl (G.2 0, n1, .inl g)) H by rw [← he1]; exact hRp.2.2 k1 hk1.1 hk1.2)
  obtain ⟨-, k0', hk0', cm0, hkk0⟩ := (hK.1.2 0 _ rfl).1 n0 (fun j => .int (f j))
  obtain ⟨-, k1', hk1', cm1, hkk1⟩ := (hK.1.2 0 _ rfl).1 n1 (fun j => .int (g j))
  have cs := iI_cl (u := sp) (by omega)
  have cd := iI_cl (u := dp) (by omega)
  have cm := iI_cl (u := m) (by omega)
  have hneg : ∀ u : Int, 0 ≤ u → u ≤ 2147483647 → ¬ iI u < 0 := fun u h2 h3 h => by
    have := (iI_lt (u := u) (v := 0) (by omega) (by omega)).mp (by rw [iI_0]; exact h)
    omega
  obtain ⟨vm', X', step⟩ := X.arraycopy hx hown (hts _ q1) (hts _ q2) (hts _ q3) (hts _ q4) (src := ad b k0) (dst := ad b k1) (cs := vp_cell (G.2 0) (n0, .inl f)) (cd := vp_cell (G.2 0) (n1, .inl g)) (srcPos := iI sp) (destPos := iI dp) (n := iI m) (by rw [hT]; exact hc0) (by rw [hT]; exact hc1)
    (fun _ h => by cases h) (fun _ h => by cases h) (fun h => by cases h) (fun h => by cases h) hk0' hk1' hkk0 hkk1 (by simp [refKind]) (hneg _ h1.1 (by omega)) (hneg _ h1.2.1 (by omega)) (hneg _ h1.2.2 (by omega))
    (by rw [iI_toInt (by omega), iI_toInt (by omega)]; show ¬ _ > ((arrV (G.2 0) n0 (fun j => .int (f j))).slots.size : Int); rw [arrV_size]; omega)
    (by rw [iI_toInt (by omega), iI_toInt (by omega)]; show ¬ _ > ((arrV (G.2 0) n1 (fun j => .int (g j))).slots.size : Int); rw [arrV_size]; omega)
    (fun vm₁ _ i hi => by
      have e : (vp_cell (G.2 0) (n0, .inl f)).slots.getD ((iI sp).toNatClampNeg + i) .null = .int (f ((iI sp).toNatClampNeg + i)) := by
        show (arrV (G.2 0) n0 (fun j => .int (f j))).slots.getD _ _ = _
        rw [Array.getD_eq_getD_getElem?, arrV_read _ _ (by rw [cm] at hi; rw [cs]; omega)]
        rfl
      refine ⟨?_, ?_⟩
      · rw [e]
        rfl
      · rw [e]
        exact trivial)
    (g := F0 x.2.1.1 pc ls (.int (iI m) :: .int (iI dp) :: .ref (ad b k1) :: .int (iI sp) :: .ref (ad b k0) :: st)) rfl (by rw [hL.1]) (rest := st) rfl (by rw [hb]; exact d) hfr (by show 2 * 0 + _ + _ ≤ _; omega)
  have e1 : copied (vp_cell (G.2 0) (n0, .inl f)) (vp_cell (G.2 0) (n1, .inl g)) (iI sp) (iI dp) (iI m) = vp_cell (G.2 0) (n1, .inl (va_cpy f g (iI sp).toNatClampNeg (iI dp).toNatClampNeg (iI m).toNatClampNeg)) := va_copied (fun z => .int z) (G.2 0) (G.2 0) f g (by rw [cs, cm]; omega)
  rw [e1, cs, cd, cm] at X'
  rw [e1, cs, cd, cm] at step
  have hl : ad b k1 < H.size := (Array.getElem?_eq_some_iff.mp hc1).1
  have hheap : ((T.setVm vm').setCell (ad b k1) (vp_cell (G.2 0) (n1, .inl (va_cpy f g sp.toNat dp.toNat m.toNat)))).heap = H.setIfInBounds (ad b k1) (vp_cell (G.2 0) (n1, .inl (va_cpy f g sp.toNat dp.toNat m.toNat))) := by rw [← hT]; rfl
  have oq : ∀ q : Nat, q ≠ ad b k1 → (H.setIfInBounds (ad b k1) (vp_cell (G.2 0) (n1, .inl (va_cpy f g sp.toNat dp.toNat m.toNat))))[q]? = H[q]? := fun q hq => by simp [Array.getElem?_setIfInBounds, Ne.symm hq]
  obtain ⟨t, a1, b1⟩ := kk _ _ ls (hRp.set hk1 (show (H.setIfInBounds (ad b k1) _)[ad b k1]? = some _ by simp [Array.getElem?_setIfInBounds, hl]) (by simp) oq) ⟨by simp; exact hS.1, fun q g1 g2 => by
      rw [oq q (fun e => g2 (by rw [e]; exact ad_ge b k1))]
      exact hS.2.1 q g1 g2, fun q hq => by
      rcases List.mem_append.mp hq with h | h
      · exact hS.2.2 q h
      · obtain ⟨z, -, hz⟩ := List.mem_map.mp h
        rw [← hz]
        exact ad_ge b k1⟩ hL _ hheap X'
  exact ⟨t, step t a1, b1⟩
/-- making -/
theorem y_new (hB : Bx x G b own cc nL ret rm nm) {C : String} {T : u_T} {N ci index : Nat} (ty : Nat → FieldType) (hty : ∀ k, k < N → parseFieldDescriptor (T k).2.2.1 = some (ty k)) (hin : ∀ w ∈ u_ws C T N, w ∈ lw_g) (q1 : (.classLink own index C : Cond) ∈ lw_g) (q2 : (.instantiable C N : Cond) ∈ lw_g) (q3 : (.initialized C : Cond) ∈ lw_g) (hc : vwCl[ci]? = some (C, T, N)) {fs : List Value} (hfs : ∀ j, j < N → defaultValue (ty j) = vp_V fs j) (hcells : cl + 1 ≤ rm.cells) (hslots : sl + N ≤ rm.slots) (d : decode cc pc = .ok (.new index, 3))
    (kk : Y x G b (cl + 1) (sl + N) (n + 1) (upW w n (.inr (ci, fs))) (pc + 3) lv (.ref (ad b n) :: st)) : Y x G b cl sl n w pc lv st := by
  obtain ⟨hx, hb, hml, hown, hts, hK, hbs, hlk, hrt, hR, hnm⟩ := hB
  subst hR
  intro H locs ls hRp hS hL
  have hKn := hK.1.1 ci _ hc
  refine W.newcK hx hb hown (hts _ q1) (hts _ q2) (hts _ q3) rfl d hcells hslots hKn.2.1 hRp.2.1 fun H1 kC hkC e1 z1 o1 => ?_
  rw [← hRp.2.1] at z1 o1
  exact kk H1 locs ls (hRp.push ⟨_, hc, (u_born ty hts hin hKn hkC e1 hty).to hfs⟩ z1 o1) ⟨Nat.le_trans hS.1 (by omega), fun x h1 h2 => (o1 x (Nat.lt_of_lt_of_le h1 hS.1)).trans (hS.2.1 x h1 h2), hS.2.2⟩ hL
theorem y_newa (ty : Nat) (hB : Bx x G b own cc nL ret rm nm) {atype : ArrayType} {m : Int} {N : Nat} (hty : (ty = 0 ∧ atype = .int) ∨ (ty = 1 ∧ atype = .boolean) ∨ (ty = 2 ∧ atype = .char)) (q1 : (.arrayClass (newarray.typeOf atype) : Cond) ∈ lw_g) (hm : m = (N : Int)) (hN : N < 10000) (hcells : cl + 1 ≤ rm.cells) (hslots : sl + N ≤ rm.slots) (d : decode cc pc = .ok (.newarray atype, 2))
    (kk : Y x G b (cl + 1) (sl + N) (n + 1) (upW w n (.inl (G.2 ty, N, .inl (fun _ => iI 0)))) (pc + 2) lv (.ref (ad b n) :: st)) : Y x G b cl sl n w pc lv (.int (iI m) :: st) := by
  obtain ⟨hx, hb, hml, hown, hts, hK, hbs, hlk, hrt, hR, hnm⟩ := hB
  subst hR
  intro H locs ls hRp hS hL
  have hneg : ¬ iI m < 0 := fun h => by
    have := (iI_lt (u := m) (v := 0) (by omega) (by omega)).mp (by rw [iI_0]; exact h)
    omega
  have hcl : (iI m).toNatClampNeg = N := by rw [iI_cl (by omega)]; omega
  refine va_newaK hx hb (hts _ q1) rfl d rfl hneg hcl (by rcases hty with ⟨-, rfl⟩ | ⟨-, rfl⟩ | ⟨-, rfl⟩ <;> (simp [newarray.typeOf, componentBytes]; omega)) hcells hslots hRp.2.1 fun H1 cA e1 z1 o1 hAr hNm => ?_
  rw [← hRp.2.1] at z1 o1
  have hcA : cA = G.2 ty := by
    rcases hty with ⟨rfl, rfl⟩ | ⟨rfl, rfl⟩ | ⟨rfl, rfl⟩
    · exact Option.some.inj (hNm.symm.trans (hK.1.2 0 _ rfl).2)
    · exact Option.some.inj (hNm.symm.trans (hK.1.2 1 _ rfl).2)
    · exact Option.some.inj (hNm.symm.trans (hK.1.2 2 _ rfl).2)
  subst hcA
  refine kk H1 locs ls (hRp.push ?_ z1 o1) ⟨Nat.le_trans hS.1 (by omega), fun x h1 h2 => (o1 x (Nat.lt_of_lt_of_le h1 hS.1)).trans (hS.2.1 x h1 h2), hS.2.2⟩ hL
  show H1[ad b n]? = some (vp_cell _ _)
  rw [e1, vp_cell_i]
  rcases hty with ⟨rfl, rfl⟩ | ⟨rfl, rfl⟩ | ⟨rfl, rfl⟩ <;> rfl
theorem y_anew (ty : Nat) (hB : Bx x G b own cc nL ret rm nm) {C : String} {index : Nat} {m : Int} {N : Nat} (hty : (ty = 3 ∧ C = RX2) ∨ (ty = 4 ∧ C = RX0)) (q1 : (.classLink own index C : Cond) ∈ lw_g) (hm : m = (N : Int)) (hN : N < 10000) (hcells : cl + 1 ≤ rm.cells) (hslots : sl + N ≤ rm.slots) (d : decode cc pc = .ok (.anewarray index, 3))
    (kk : Y x G b (cl + 1) (sl + N) (n + 1) (upW w n (.inl (G.2 ty, N, .inr (.inr (.inr (.inr (fun _ => none))))))) (pc + 3) lv (.ref (ad b n) :: st)) : Y x G b cl sl n w pc lv (.int (iI m) :: st) := by
  obtain ⟨hx, hb, hml, hown, hts, hK, hbs, hlk, hrt, hR, hnm⟩ := hB
  subst hR
  intro H locs ls hRp hS hL
  have hneg : ¬ iI m < 0 := fun h => by
    have := (iI_lt (u := m) (v := 0) (by omega) (by omega)).mp (by rw [iI_0]; exact h)
    omega
  have hcl : (iI m).toNatClampNeg = N := by rw [iI_cl (by omega)]; omega
  subst hcl
  have hover : va_AO C (gs x) := by
    rcases hty with ⟨-, rfl⟩ | ⟨-, rfl⟩
    · exact hK.2.1
    · exact hK.2.2.1
  refine W.anew hx hb hown (hts _ q1) (va_AO.use hover) rfl d rfl hneg (by omega) hcells hslots fun cA kA comp f1 f2 f3 f4 => ?_
  generalize hH1 : H.push ({ cls := cA, slots := Array.replicate (iI m).toNatClampNeg .null, vm := .none } : Cell) = H1
  have z1 : H1.size = H.size + 1 := by rw [← hH1, Array.size_push]
  have e1 : H1[H.size]? = some (arrV cA (iI m).toNatClampNeg (fun _ => .null)) := by rw [← hH1, Array.getElem?_push_size, ← arrV_new]
  have o1 : ∀ q : Nat, q < H.size → H1[q]? = H[q]? := fun q hq => by rw [← hH1, Array.getElem?_push, if_neg (Nat.ne_of_lt hq)]
  have hcA : cA = G.2 ty := by
    rcases hty with ⟨rfl, rfl⟩ | ⟨rfl, rfl⟩
    · obtain ⟨_, _, -, -, -, g4⟩ := (hK.1.2 3 _ rfl).2
      exact Option.some.inj (f1.symm.trans g4)
    · obtain ⟨_, _, -, -, -, g4⟩ := (hK.1.2 4 _ rfl).2
      exact Option.some.inj (f1.symm.trans g4)
  subst hcA
  have hsz := hRp.2.1
  show gW x H1 locs (cl + 1) (sl + (iI m).toNatClampNeg) (F0 x.2.1.1 (pc + 3) ls (.ref H.size :: st))
  rw [hsz]
  rw [hsz] at e1
  refine kk H1 locs ls (hRp.push ?_ z1 o1) ⟨Nat.le_trans hS.1 (by omega), fun x h1 h2 => (o1 x (Nat.lt_of_lt_of_le h1 hS.1)).trans (hS.2.1 x h1 h2), hS.2.2⟩ hL
  show H1[ad b n]? = some (vp_cell _ _)
  rw [e1, vp_cell_q]
  rfl
theorem y_objInit (hB : Bx x G b own cc nL ret rm nm) {index : Nat} {v : Nat} (q1 : (.methodLink own index objectInit : Cond) ∈ lw_g) (q2 : (.instanceMethod objectInit : Cond) ∈ lw_g) (q3 : (.code objectInit ⟨#[0xb1]⟩ 1 none : Cond) ∈ lw_g) (d : decode cc pc = .ok (.invokespecial index, 3)) (hfr : 1 ≤ rm.frames) (hlo : (st.map fun v => v.category).sum + 12 ≤ rm.locals)
    (kk : Y x G b cl sl n w (pc + 3) lv st) : Y x G b cl sl n w pc lv (.ref v :: st) := by
  obtain ⟨hx, hb, hml, hown, hts, hK, hbs, hlk, hrt, hR, hnm⟩ := hB
  subst hR
  intro H locs ls hRp hS hL
  exact W.objInit hx hb hown (hts _ q1) (hts _ q2) (hts _ q3) rfl hL.1 rfl d hfr (by show 2 * 0 + _ + 12 ≤ _; omega) (kk H locs ls hRp hS hL)
end
/-- the field words of the classes -/
theorem inX0 : ∀ w ∈ u_ws RX0 TX0 7, w ∈ lw_g := by decide +kernel
theorem inX1 : ∀ w ∈ u_ws RX1 TX1 3, w ∈ lw_g := by decide +kernel
theorem inX2 : ∀ w ∈ u_ws RX2 TX2 10, w ∈ lw_g := by decide +kernel
theorem inX3 : ∀ w ∈ u_ws RX3 TX3 4, w ∈ lw_g := by decide +kernel
theorem inX4 : ∀ w ∈ u_ws RX4 TX4 5, w ∈ lw_g := by decide +kernel
theorem inX5 : ∀ w ∈ u_ws RX5 TX5 3, w ∈ lw_g := by decide +kernel
theorem inX6 : ∀ w ∈ u_ws RX6 TX6 7, w ∈ lw_g := by decide +kernel
theorem inX7 : ∀ w ∈ u_ws RX7 TX7 14, w ∈ lw_g := by decide +kernel
end
section
/-! calls -/
def Ms (y : MethodName) (cc : ByteArray) (nL : Nat) (ret : Option FieldType) (na : Nat) : Prop := (.code y cc nL ret : Cond) ∈ lw_g ∧ (.instanceMethod y : Cond) ∈ lw_g ∧ (.selects y.cls y y : Cond) ∈ lw_g ∧ (.initialized y.cls : Cond) ∈ lw_g ∧ y.cls ≠ "java/lang/invoke/MethodHandle" ∧ y.cls ≠ "java/lang/invoke/VarHandle" ∧ (parseMethodDescriptor y.desc).map (fun d => d.parameters.length) = some na
def Mt (y : MethodName) (cc : ByteArray) (nL : Nat) (ret : Option FieldType) (na : Nat) : Prop := (.code y cc nL ret : Cond) ∈ lw_g ∧ (.static y : Cond) ∈ lw_g ∧ (.initialized y.cls : Cond) ∈ lw_g ∧ y.cls ≠ "java/lang/invoke/MethodHandle" ∧ y.cls ≠ "java/lang/invoke/VarHandle" ∧ (parseMethodDescriptor y.desc).map (fun d => d.parameters.length) = some na
def Mi (y : MethodName) (cc : ByteArray) (nL : Nat) (na : Nat) : Prop := (.code y cc nL none : Cond) ∈ lw_g ∧ (.instanceMethod y : Cond) ∈ lw_g ∧ (.initialized y.cls : Cond) ∈ lw_g ∧ y.cls ≠ "java/lang/invoke/MethodHandle" ∧ y.cls ≠ "java/lang/invoke/VarHandle" ∧ (parseMethodDescriptor y.desc).map (fun d => d.parameters.length) = some na ∧ y.name = "<init>"
theorem good_g {w : Cond} (h : w ∈ lw_g) : (w.onTables && w.keeps) = true ∨ ∃ ty, w = .arrayClass ty := good_of_word (List.mem_filter.mp h).2
theorem gd_app {a c : List Cond} (ha : ∀ w ∈ a, w ∈ lw_g) (hc : GoodIn lw_g c) : GoodIn lw_g (a ++ c) := fun w h => (List.mem_append.mp h).elim (fun h => ⟨ha w h, good_g (ha w h)⟩) (hc w)
section
variable {x : gX} {G : gG} {b cl sl nL : Nat} {own nm : String} {cc : ByteArray} {ret : Option FieldType} {rm : Room} {n : Int} {w : Int → va_E} {pc : Nat} {lv : List (Nat × Value)} {st stk : List Value}
variable {y : MethodName} {cc' : ByteArray} {nL' na index : Nat} {ret' : Option FieldType} {rm' : Room} {K : State → Prop} {av : List Value} {Po : gP}
/-- behind a call -/
theorem y_back {Qa : Array Value} (kk : ∀ (r : Option Value) (n' : Int) (w' : Int → va_E), Po r n' w' → Y x G b (cl + rm'.cells) (sl + rm'.slots) n' w' (pc + 3) lv (r.toList ++ st)) {H : Heap} {locs : List Loc} {ls : Array Slot} (hS : va_S (fun q => b ≤ q) (gs x).heap H locs) (hL : lv_has ls (gc x).maxLocals lv)
    (hr : va_Run x.1.1 x.1.2.1 x.1.2.2.1 x.1.2.2.2.1 (gs x) x.2.1.1 x.2.1.2.1 x.2.1.2.2.1 x.2.1.2.2.2.1 (gc x) H locs cl sl rm'.cells rm'.slots (F0 x.2.1.1 pc ls stk) st (Qx G b Po Qa) (fun q => b ≤ q)) : gW x H locs cl sl (F0 x.2.1.1 pc ls stk) := by
  intro T hT X
  obtain ⟨v, st₀, t, T', L, h0, X', hL9, e1, e2, ⟨r, n', w', hv, hp, hRp, hz, hk⟩, stp⟩ := hr T hT X
  cases hv
  rw [h0] at hz hk
  obtain ⟨t2, a1, b1⟩ := kk _ n' w' hp T'.heap (locs ++ L) ls (by rw [e1]; exact hRp)
    ⟨Nat.le_trans hS.1 (by rw [e1]; exact hz), fun q h1 h2 => by rw [e1, hk q (Nat.lt_of_lt_of_le h1 hS.1) h2]; exact hS.2.1 q h1 h2, fun q hq => by
      rcases List.mem_append.mp hq with h | h
      · exact hS.2.2 q h
      · exact hL9 q h⟩ hL T' rfl X'
  exact ⟨t2, stp t2 a1, b1⟩
theorem y_callVK (hB : Bx x G b own cc nL ret rm nm) (hM : Ms y cc' nL' ret' na) (q1 : (.methodLink own index y : Cond) ∈ lw_g) {k : Int} {As : List Value} (hC : CtK x.1.2.1 G b K y cc' nL' ret' rm' (.ref (ad b k) :: As) n w Po)
    (hKb : ∀ (U : State) (g : JFrame) (mk : MethodId) (a : Array Value), K U → K (U.calling g mk a)) (hKs : ∀ (H : Heap) (locs : List Loc) (U : State), va_S (fun q => b ≤ q) (gs x).heap H locs → U.heap = H → (gs x).WarmedH U.vm → K U)
    (hk : 0 ≤ k ∧ k < n) {ci : Nat} {fs : List Value} {qq : vw_C} (hw : w k = .inr (ci, fs)) (hc : vwCl[ci]? = some qq) (hcn : qq.1 = y.cls) (hn : As.length = na) (hst : stk = As.reverse ++ .ref (ad b k) :: st) (hR0 : rm'.frames + 1 ≤ rm.frames ∧ 8 + (nL' + 11) + rm'.locals ≤ rm.locals) (hrs : (st.map fun v => v.category).sum ≤ 8) (hcl : cl + rm'.cells ≤ rm.cells ∧ sl + rm'.slots ≤ rm.slots) (d : decode cc pc = .ok (.invokevirtual index, 3))
    (kk : ∀ (r : Option Value) (n' : Int) (w' : Int → va_E), Po r n' w' → Y x G b (cl + rm'.cells) (sl + rm'.slots) n' w' (pc + 3) lv (r.toList ++ st)) : Y x G b cl sl n w pc lv stk := by
  obtain ⟨hx, hb, hml, hown, hts, hK, hbs, hlk, hrt, hR, hnm⟩ := hB
  obtain ⟨m1, m2, m3, m4, m5, m6, m7⟩ := hM
  subst hR
  intro H locs ls hRp hS hL
  have hrec := hRp.recv hK hk hw hc
  rw [hcn] at hrec
  refine y_back kk hS hL (va_runV (C := y.cls) (n := na) (nL := nL) ⟨hx, hb, hml, hown, hts⟩ hC (cwV na hts (gd_app (fun w hw => by
    simp only [List.mem_cons, List.not_mem_nil, or_false] at hw
    rcases hw with rfl | rfl | rfl | rfl
    · exact q1
    · exact m2
    · exact m3
    · exact m4) (gd_all m1)) rfl rfl rfl ⟨rfl, m5, m6, m7⟩ hR0) ⟨Px.blind hKb, hrec, fun U hU hW => ⟨rfl, by rw [hU]; exact hRp, hK.warm hW, hKs H locs U hS hU hW⟩⟩ rfl hn (by rw [← hml]; exact hL.1) hst (by show 2 * 0 + _ ≤ 8; omega) d hcl)
theorem y_callSK (hB : Bx x G b own cc nL ret rm nm) (hM : Mt y cc' nL' ret' na) (q1 : (.methodLink own index y : Cond) ∈ lw_g) {As : List Value} (hC : CtK x.1.2.1 G b K y cc' nL' ret' rm' As n w Po)
    (hKb : ∀ (U : State) (g : JFrame) (mk : MethodId) (a : Array Value), K U → K (U.calling g mk a)) (hKs : ∀ (H : Heap) (locs : List Loc) (U : State), va_S (fun q => b ≤ q) (gs x).heap H locs → U.heap = H → (gs x).WarmedH U.vm → K U)
    (hn : As.length = na) (hst : stk = As.reverse ++ st) (hR0 : rm'.frames + 1 ≤ rm.frames ∧ 8 + (nL' + 11) + rm'.locals ≤ rm.locals) (hrs : (st.map fun v => v.category).sum ≤ 8) (hcl : cl + rm'.cells ≤ rm.cells ∧ sl + rm'.slots ≤ rm.slots) (d : decode cc pc = .ok (.invokestatic index, 3))
    (kk : ∀ (r : Option Value) (n' : Int) (w' : Int → va_E), Po r n' w' → Y x G b (cl + rm'.cells) (sl + rm'.slots) n' w' (pc + 3) lv (r.toList ++ st)) : Y x G b cl sl n w pc lv stk := by
  obtain ⟨hx, hb, hml, hown, hts, hK, hbs, hlk, hrt, hR, hnm⟩ := hB
  obtain ⟨m1, m2, m4, m5, m6, m7⟩ := hM
  subst hR
  intro H locs ls hRp hS hL
  refine y_back kk hS hL (va_runS (n := na) (nL := nL) ⟨hx, hb, hml, hown, hts⟩ hC (va_cwS na hts (gd_app (fun w hw => by
    simp only [List.mem_cons, List.not_mem_nil, or_false] at hw
    rcases hw with rfl | rfl | rfl
    · exact q1
    · exact m2
    · exact m4) (gd_all m1)) rfl rfl rfl ⟨m5, m6, m7⟩ hR0) ⟨Px.blind hKb, fun U hU hW => ⟨rfl, by rw [hU]; exact hRp, hK.warm hW, hKs H locs U hS hU hW⟩⟩ rfl hn (by rw [← hml]; exact hL.1) hst (by show 2 * 0 + _ ≤ 8; omega) d hcl)
theorem y_callSNK (hB : Bx x G b own cc nL ret rm nm) (hM : Mt y cc' nL' ret' na) {host : String} (q1 : (.methodLinkNest own index y host : Cond) ∈ nestW) {As : List Value} (hC : CtK x.1.2.1 G b K y cc' nL' ret' rm' As n w Po)
    (hKb : ∀ (U : State) (g : JFrame) (mk : MethodId) (a : Array Value), K U → K (U.calling g mk a)) (hKs : ∀ (H : Heap) (locs : List Loc) (U : State), va_S (fun q => b ≤ q) (gs x).heap H locs → U.heap = H → (gs x).WarmedH U.vm → K U)
    (hn : As.length = na) (hst : stk = As.reverse ++ st) (hR0 : rm'.frames + 1 ≤ rm.frames ∧ 8 + (nL' + 11) + rm'.locals ≤ rm.locals) (hrs : (st.map fun v => v.category).sum ≤ 8) (hcl : cl + rm'.cells ≤ rm.cells ∧ sl + rm'.slots ≤ rm.slots) (d : decode cc pc = .ok (.invokestatic index, 3))
    (kk : ∀ (r : Option Value) (n' : Int) (w' : Int → va_E), Po r n' w' → Y x G b (cl + rm'.cells) (sl + rm'.slots) n' w' (pc + 3) lv (r.toList ++ st)) : Y x G b cl sl n w pc lv stk := by
  obtain ⟨hx, hb, hml, hown, hts, hK, hbs, hlk, hrt, hR, hnm⟩ := hB
  obtain ⟨m1, m2, m4, m5, m6, m7⟩ := hM
  subst hR
  intro H locs ls hRp hS hL
  exact y_back kk hS hL (va_runSN (n := na) (nL := nL) (host := host) ⟨hx, hb, hml, hown, hts⟩ hC ⟨va_cnB na hts (gd_all m1) rfl rfl rfl (hK.2.2.2 _ q1) (hts _ m4) ⟨m5, m6, m7⟩ hR0, hts _ m2, trivial⟩ ⟨Px.blind hKb, fun U hU hW => ⟨rfl, by rw [hU]; exact hRp, hK.warm hW, hKs H locs U hS hU hW⟩⟩ rfl hn (by rw [← hml]; exact hL.1) hst (by show 2 * 0 + _ ≤ 8; omega) d hcl)
theorem y_callI (hB : Bx x G b own cc nL ret rm nm) (hM : Mi y cc' nL' na) (q1 : (.methodLink own index y : Cond) ∈ lw_g) {k : Nat} {As : List Value} (hC : Ct x.1.2.1 G b y cc' nL' none rm' (.ref k :: As) n w Po)
    (hn : As.length = na) (hst : stk = As.reverse ++ .ref k :: st) (hR0 : rm'.frames + 1 ≤ rm.frames ∧ 8 + (nL' + 11) + rm'.locals ≤ rm.locals) (hrs : (st.map fun v => v.category).sum ≤ 8) (hcl : cl + rm'.cells ≤ rm.cells ∧ sl + rm'.slots ≤ rm.slots) (d : decode cc pc = .ok (.invokespecial index, 3))
    (kk : ∀ (r : Option Value) (n' : Int) (w' : Int → va_E), Po r n' w' → Y x G b (cl + rm'.cells) (sl + rm'.slots) n' w' (pc + 3) lv (r.toList ++ st)) : Y x G b cl sl n w pc lv stk := by
  obtain ⟨hx, hb, hml, hown, hts, hK, hbs, hlk, hrt, hR, hnm⟩ := hB
  obtain ⟨m1, m2, m4, m5, m6, m7, m8⟩ := hM
  subst hR
  intro H locs ls hRp hS hL
  exact y_back kk hS hL (va_runI (n := na) (nL := nL) ⟨hx, hb, hml, hown, hts⟩ hC (cwI na hts (gd_all m1) rfl rfl rfl (hts _ m4) (hts _ q1) (hts _ m2) m8 ⟨m5, m6, m7⟩ hR0) ⟨Px.blind (fun _ _ _ _ h => h), fun U hU hW => ⟨rfl, by rw [hU]; exact hRp, hK.warm hW, trivial⟩⟩ rfl hn (by rw [← hml]; exact hL.1) hst (by show 2 * 0 + _ ≤ 8; omega) d hcl)
theorem y_callIN (hB : Bx x G b own cc nL ret rm nm) (hM : Mi y cc' nL' na) {host : String} (q1 : (.methodLinkNest own index y host : Cond) ∈ nestW) {k : Nat} {As : List Value} (hC : Ct x.1.2.1 G b y cc' nL' none rm' (.ref k :: As) n w Po)
    (hn : As.length = na) (hst : stk = As.reverse ++ .ref k :: st) (hR0 : rm'.frames + 1 ≤ rm.frames ∧ 8 + (nL' + 11) + rm'.locals ≤ rm.locals) (hrs : (st.map fun v => v.category).sum ≤ 8) (hcl : cl + rm'.cells ≤ rm.cells ∧ sl + rm'.slots ≤ rm.slots) (d : decode cc pc = .ok (.invokespecial index, 3))
    (kk : ∀ (r : Option Value) (n' : Int) (w' : Int → va_E), Po r n' w' → Y x G b (cl + rm'.cells) (sl + rm'.slots) n' w' (pc + 3) lv (r.toList ++ st)) : Y x G b cl sl n w pc lv stk := by
  obtain ⟨hx, hb, hml, hown, hts, hK, hbs, hlk, hrt, hR, hnm⟩ := hB
  obtain ⟨m1, m2, m4, m5, m6, m7, m8⟩ := hM
  subst hR
  intro H locs ls hRp hS hL
  exact y_back kk hS hL (va_runIN (n := na) (nL := nL) (host := host) ⟨hx, hb, hml, hown, hts⟩ hC ⟨va_cnB na hts (gd_all m1) rfl rfl rfl (hK.2.2.2 _ q1) (hts _ m4) ⟨m5, m6, m7⟩ hR0, m8, hts _ m2⟩ ⟨Px.blind (fun _ _ _ _ h => h), fun U hU hW => ⟨rfl, by rw [hU]; exact hRp, hK.warm hW, trivial⟩⟩ rfl hn (by rw [← hml]; exact hL.1) hst (by show 2 * 0 + _ ≤ 8; omega) d hcl)
end
end
section
/-! the cells: kinds by numbers; C: what the class's cells hold, S: the reference's -/
def up1 (c : Int → Int) (j x : Int) : Int → Int := fun i => if i = j then x else c i
def up2 (C : Int → Int → Int) (k j x : Int) : Int → Int → Int := fun a => if a = k then up1 (C k) j x else C a
theorem up2_self (C : Int → Int → Int) (k j x : Int) : up2 C k j x k = up1 (C k) j x := by simp [up2]
theorem up2_ne (C : Int → Int → Int) {k a : Int} (j x : Int) (h : a ≠ k) : up2 C k j x a = C a := by simp [up2, h]
theorem rd_hit {C : Int → Int → Int} {k j x a i : Int} (h : a = k) (h2 : i = j) : up2 C k j x a i = x := by subst h; subst h2; rw [up2_self]; simp [up1]
theorem rd_k {C : Int → Int → Int} {k j x a i : Int} (h : a ≠ k) : up2 C k j x a i = C a i := by rw [up2_ne _ _ _ h]
theorem rd_i {C : Int → Int → Int} {k j x a i : Int} (h : i ≠ j) : up2 C k j x a i = C a i := by
  by_cases ha : a = k
  · subst ha; rw [up2_self]; simp [up1, h]
  · rw [up2_ne _ _ _ ha]
def lk (r : Int) : Nat := if r = 0 then 5 else 6
def dk (r : Int) : Nat := if r = 0 then 1 else if r = 1 then 2 else if r = 2 then 3 else if r = 3 then 4 else lk ((r - 4) % 4)
def kd (k : Int) : Nat :=
  if k < 0 then 99 else if k = 0 then 0 else if k < 169 then dk ((k - 1) % 84) else if k = 169 then 7 else if k = 170 then 8 else if k < 507 then dk ((k - 171) % 84)
  else if k = 507 then 9 else if k = 508 then 10 else if k = 509 then 11 else if k < 570 then lk ((k - 510) % 4) else if k = 570 then 12 else if k = 571 then 13 else if k = 572 then 13
  else if k = 573 then 14 else if k = 574 then 12 else if k < 578 then 13 else if k = 578 then 20 else if k = 579 then 21 else if k = 580 then 22 else if k = 581 then 23 else if k = 582 then 24
  else if k = 583 then 25 else if k = 584 then 26 else if k = 585 then 27 else 99
theorem kd_rng {k : Int} {t : Nat} (h : kd k = t) (ht : t ≠ 99) : 0 ≤ k ∧ k < 586 := by
  subst h
  by_cases h1 : k < 0
  · exact absurd (by unfold kd; rw [if_pos h1]) ht
  · by_cases h2 : k < 586
    · omega
    · refine absurd ?_ ht
      unfold kd
      repeat rw [if_neg (by omega)]
def wS (G : gG) (b : Nat) (t : Nat) (k : Int) (c s : Int → Int) : va_E := match t with
  | 0 => .inr (6, [.ref (ad b (k + 1)), .ref (ad b (k + 85)), .int (iI (c 2)), .ref (ad b (k + 169)), .ref (ad b (k + 507)), .ref (ad b (k + 570)), .ref (ad b (k + 573))])
  | 1 => .inr (0, [.ref (ad b (k + 1)), .ref (ad b (k + 2)), .ref (ad b (k + 3)), .int (iI (c 3)), .int (iI (c 4)), .int (iI (c 5)), .int (iI (c 6))])
  | 5 => .inr (2, [.int (iI (c 0)), .int (iI (c 1)), .int (iI (c 2)), .int (iI (c 3)), .int (iI (c 4)), .int (iI (c 5)), .int (iI (c 6)), .ref (ad b (k + 1)), .ref (ad b (k + 2)), .ref (ad b (k + 3))])
  | 7 => .inr (1, [.ref (ad b (k + 1)), .int (iI (c 1)), .int (iI (c 2))])
  | 9 => .inr (4, [.ref (ad b (k + 1)), .int (iI (c 1)), .ref (ad b (k + 2)), .int (iI (c 3)), .int (iI (c 4))])
  | 12 => .inr (5, [.ref (ad b (k + 1)), .ref (ad b (k + 2)), .int (iI (c 2))])
  | 14 => .inr (3, [.ref (ad b (k + 1)), .ref (ad b (k + 4)), .int (iI (c 2)), .int (iI (c 3))])
  | 20 => .inr (7, [.ref (ad b (k + 1)), .ref (ad b (k + 2)), .ref (ad b (k + 3)), .ref (ad b (k + 4)), .ref (ad b (k + 5)), .int (iI (s 5)), .int (iI (s 6)), .ref (ad b (k + 6)), .int (iI (s 8)), .int (iI (s 9)), .int (iI (s 10)), .ref (ad b (k + 7)), .int (iI (s 12)), .int (iI (s 13))])
  | 2 => .inl (G.2 0, 5, .inl (fun j : Nat => iI (c j)))
  | 3 => .inl (G.2 0, 6, .inl (fun j : Nat => iI (c j)))
  | 6 => .inl (G.2 0, 8, .inl (fun j : Nat => iI (c j)))
  | 10 => .inl (G.2 2, 60, .inl (fun j : Nat => iI (c j)))
  | 13 => .inl (G.2 0, 20, .inl (fun j : Nat => iI (c j)))
  | 21 => .inl (G.2 0, 656, .inl (fun j : Nat => iI (s j)))
  | 22 => .inl (G.2 0, 2624, .inl (fun j : Nat => iI (s j)))
  | 23 => .inl (G.2 0, 656, .inl (fun j : Nat => iI (s j)))
  | 24 => .inl (G.2 0, 20, .inl (fun j : Nat => iI (s j)))
  | 25 => .inl (G.2 1, 20, .inl (fun j : Nat => iI (s j)))
  | 26 => .inl (G.2 2, 60, .inl (fun j : Nat => iI (s j)))
  | 27 => .inl (G.2 0, 400, .inl (fun j : Nat => iI (s j)))
  | 4 => .inl (G.2 3, 20, .inr (.inr (.inr (.inr (fun j : Nat => some (ad b (k + 1 + 4 * j)))))))
  | 8 => .inl (G.2 4, 4, .inr (.inr (.inr (.inr (fun j : Nat => some (ad b (k + 1 + 84 * j)))))))
  | 11 => .inl (G.2 3, 15, .inr (.inr (.inr (.inr (fun j : Nat => some (ad b (k + 1 + 4 * j)))))))
  | _ => .inr (0, [])
def wM (G : gG) (b : Nat) (C S : Int → Int → Int) (k : Int) : va_E := wS G b (kd k) k (C k) (S k)
theorem wM_at {G : gG} {b : Nat} {C S : Int → Int → Int} {k : Int} {t : Nat} (h : kd k = t) : wM G b C S k = wS G b t k (C k) (S k) := by unfold wM; rw [h]
theorem wM_putC {G : gG} {b : Nat} {C S : Int → Int → Int} {k j x : Int} {e : va_E} {t : Nat} (h : kd k = t) (he : wS G b t k (up1 (C k) j x) (S k) = e) : upW (wM G b C S) k e = wM G b (up2 C k j x) S := by
  funext i
  by_cases hi : i = k
  · subst hi
    rw [upW_self, wM_at h, up2_self, he]
  · rw [upW_ne _ _ hi]
    unfold wM
    rw [up2_ne _ _ _ hi]
theorem wM_putS {G : gG} {b : Nat} {C S : Int → Int → Int} {k j x : Int} {e : va_E} {t : Nat} (h : kd k = t) (he : wS G b t k (C k) (up1 (S k) j x) = e) : upW (wM G b C S) k e = wM G b C (up2 S k j x) := by
  funext i
  by_cases hi : i = k
  · subst hi
    rw [upW_self, wM_at h, up2_self, he]
  · rw [upW_ne _ _ hi]
    unfold wM
    rw [up2_ne _ _ _ hi]
theorem arr_up (c : Int → Int) {i x : Int} (hi : 0 ≤ i) : (fun j : Nat => iI (up1 c i x j)) = upd (fun j : Nat => iI (c j)) i.toNat (iI x) := by
  funext j
  unfold up1 upd
  by_cases h : j = i.toNat
  · rw [if_pos h, if_pos (by omega)]
  · rw [if_neg h, if_neg (by omega)]
abbrev YM (x : gX) (G : gG) (b cl sl : Nat) (C S : Int → Int → Int) (pc : Nat) (lv : List (Nat × Value)) (st : List Value) : Prop := Y x G b cl sl 586 (wM G b C S) pc lv st
section
variable {x : gX} {G : gG} {b cl sl nL : Nat} {nm own : String} {cc : ByteArray} {ret : Option FieldType} {rm : Room} {C S : Int → Int → Int} {pc : Nat} {lv : List (Nat × Value)} {st : List Value} {k : Int}
theorem gt_0_0 (hB : Bx x G b RX0 cc nL ret rm nm) (hk : kd k = 1) {t1 : Int} (e : k + 1 = t1) (d : decode cc pc = .ok (.getfield 9, 3)) (kk : YM x G b cl sl C S (pc + 3) lv (.ref (ad b t1) :: st)) : YM x G b cl sl C S pc lv (.ref (ad b k) :: st) := by
  subst e
  exact y_get hB (C := RX0) (T := TX0) (N := 7) inX0 (kd_rng hk (by decide)) (wM_at hk) rfl 0 (by decide) q101 rfl d kk
theorem gt_0_1 (hB : Bx x G b RX0 cc nL ret rm nm) (hk : kd k = 1) {t1 : Int} (e : k + 2 = t1) (d : decode cc pc = .ok (.getfield 15, 3)) (kk : YM x G b cl sl C S (pc + 3) lv (.ref (ad b t1) :: st)) : YM x G b cl sl C S pc lv (.ref (ad b k) :: st) := by
  subst e
  exact y_get hB (C := RX0) (T := TX0) (N := 7) inX0 (kd_rng hk (by decide)) (wM_at hk) rfl 1 (by decide) q102 rfl d kk
theorem gt_0_2 (hB : Bx x G b RX0 cc nL ret rm nm) (hk : kd k = 1) {t1 : Int} (e : k + 3 = t1) (d : decode cc pc = .ok (.getfield 20, 3)) (kk : YM x G b cl sl C S (pc + 3) lv (.ref (ad b t1) :: st)) : YM x G b cl sl C S pc lv (.ref (ad b k) :: st) := by
  subst e
  exact y_get hB (C := RX0) (T := TX0) (N := 7) inX0 (kd_rng hk (by decide)) (wM_at hk) rfl 2 (by decide) q103 rfl d kk
theorem gt_0_3 (hB : Bx x G b RX0 cc nL ret rm nm) (hk : kd k = 1) {t1 : Int} (e : C k 3 = t1) (d : decode cc pc = .ok (.getfield 35, 3)) (kk : YM x G b cl sl C S (pc + 3) lv (.int (iI t1) :: st)) : YM x G b cl sl C S pc lv (.ref (ad b k) :: st) := by
  subst e
  exact y_get hB (C := RX0) (T := TX0) (N := 7) inX0 (kd_rng hk (by decide)) (wM_at hk) rfl 3 (by decide) q104 rfl d kk
theorem pt_0_3 (hB : Bx x G b RX0 cc nL ret rm nm) (hk : kd k = 1) {x1 : Int} (d : decode cc pc = .ok (.putfield 35, 3)) (kk : YM x G b cl sl (up2 C k 3 x1) S (pc + 3) lv st) : YM x G b cl sl C S pc lv (.int (iI x1) :: .ref (ad b k) :: st) := y_put hB (C := RX0) (T := TX0) (N := 7) tyX0 tyX0_ok nmX0 inX0 (kd_rng hk (by decide)) (wM_at hk) rfl 3 (by decide) q104 rfl rfl rfl (Nat.le_of_ble_eq_true rfl) d (by rw [wM_putC (j := 3) (x := x1) hk (by rfl)]; exact kk)
theorem gt_0_4 (hB : Bx x G b RX0 cc nL ret rm nm) (hk : kd k = 1) {t1 : Int} (e : C k 4 = t1) (d : decode cc pc = .ok (.getfield 38, 3)) (kk : YM x G b cl sl C S (pc + 3) lv (.int (iI t1) :: st)) : YM x G b cl sl C S pc lv (.ref (ad b k) :: st) := by
  subst e
  exact y_get hB (C := RX0) (T := TX0) (N := 7) inX0 (kd_rng hk (by decide)) (wM_at hk) rfl 4 (by decide) q105 rfl d kk
theorem pt_0_4 (hB : Bx x G b RX0 cc nL ret rm nm) (hk : kd k = 1) {x1 : Int} (d : decode cc pc = .ok (.putfield 38, 3)) (kk : YM x G b cl sl (up2 C k 4 x1) S (pc + 3) lv st) : YM x G b cl sl C S pc lv (.int (iI x1) :: .ref (ad b k) :: st) := y_put hB (C := RX0) (T := TX0) (N := 7) tyX0 tyX0_ok nmX0 inX0 (kd_rng hk (by decide)) (wM_at hk) rfl 4 (by decide) q105 rfl rfl rfl (Nat.le_of_ble_eq_true rfl) d (by rw [wM_putC (j := 4) (x := x1) hk (by rfl)]; exact kk)
theorem gt_0_5 (hB : Bx x G b RX0 cc nL ret rm nm) (hk : kd k = 1) {t1 : Int} (e : C k 5 = t1) (d : decode cc pc = .ok (.getfield 25, 3)) (kk : YM x G b cl sl C S (pc + 3) lv (.int (iI t1) :: st)) : YM x G b cl sl C S pc lv (.ref (ad b k) :: st) := by
  subst e
  exact y_get hB (C := RX0) (T := TX0) (N := 7) inX0 (kd_rng hk (by decide)) (wM_at hk) rfl 5 (by decide) q106 rfl d kk
theorem pt_0_5 (hB : Bx x G b RX0 cc nL ret rm nm) (hk : kd k = 1) {x1 : Int} (d : decode cc pc = .ok (.putfield 25, 3)) (kk : YM x G b cl sl (up2 C k 5 x1) S (pc + 3) lv st) : YM x G b cl sl C S pc lv (.int (iI x1) :: .ref (ad b k) :: st) := y_put hB (C := RX0) (T := TX0) (N := 7) tyX0 tyX0_ok nmX0 inX0 (kd_rng hk (by decide)) (wM_at hk) rfl 5 (by decide) q106 rfl rfl rfl (Nat.le_of_ble_eq_true rfl) d (by rw [wM_putC (j := 5) (x := x1) hk (by rfl)]; exact kk)
theorem gt_0_6 (hB : Bx x G b RX0 cc nL ret rm nm) (hk : kd k = 1) {t1 : Int} (e : C k 6 = t1) (d : decode cc pc = .ok (.getfield 41, 3)) (kk : YM x G b cl sl C S (pc + 3) lv (.int (iI t1) :: st)) : YM x G b cl sl C S pc lv (.ref (ad b k) :: st) := by
  subst e
  exact y_get hB (C := RX0) (T := TX0) (N := 7) inX0 (kd_rng hk (by decide)) (wM_at hk) rfl 6 (by decide) q107 rfl d kk
theorem pt_0_6 (hB : Bx x G b RX0 cc nL ret rm nm) (hk : kd k = 1) {x1 : Int} (d : decode cc pc = .ok (.putfield 41, 3)) (kk : YM x G b cl sl (up2 C k 6 x1) S (pc + 3) lv st) : YM x G b cl sl C S pc lv (.int (iI x1) :: .ref (ad b k) :: st) := y_put hB (C := RX0) (T := TX0) (N := 7) tyX0 tyX0_ok nmX0 inX0 (kd_rng hk (by decide)) (wM_at hk) rfl 6 (by decide) q107 rfl rfl rfl (Nat.le_of_ble_eq_true rfl) d (by rw [wM_putC (j := 6) (x := x1) hk (by rfl)]; exact kk)
theorem gt_1_0 (hB : Bx x G b RX1 cc nL ret rm nm) (hk : kd k = 7) {t1 : Int} (e : k + 1 = t1) (d : decode cc pc = .ok (.getfield 11, 3)) (kk : YM x G b cl sl C S (pc + 3) lv (.ref (ad b t1) :: st)) : YM x G b cl sl C S pc lv (.ref (ad b k) :: st) := by
  subst e
  exact y_get hB (C := RX1) (T := TX1) (N := 3) inX1 (kd_rng hk (by decide)) (wM_at hk) rfl 0 (by decide) q132 rfl d kk
theorem gt_1_1 (hB : Bx x G b RX1 cc nL ret rm nm) (hk : kd k = 7) {t1 : Int} (e : C k 1 = t1) (d : decode cc pc = .ok (.getfield 22, 3)) (kk : YM x G b cl sl C S (pc + 3) lv (.int (iI t1) :: st)) : YM x G b cl sl C S pc lv (.ref (ad b k) :: st) := by
  subst e
  exact y_get hB (C := RX1) (T := TX1) (N := 3) inX1 (kd_rng hk (by decide)) (wM_at hk) rfl 1 (by decide) q133 rfl d kk
theorem pt_1_1 (hB : Bx x G b RX1 cc nL ret rm nm) (hk : kd k = 7) {x1 : Int} (d : decode cc pc = .ok (.putfield 22, 3)) (kk : YM x G b cl sl (up2 C k 1 x1) S (pc + 3) lv st) : YM x G b cl sl C S pc lv (.int (iI x1) :: .ref (ad b k) :: st) := y_put hB (C := RX1) (T := TX1) (N := 3) tyX1 tyX1_ok nmX1 inX1 (kd_rng hk (by decide)) (wM_at hk) rfl 1 (by decide) q133 rfl rfl rfl (Nat.le_of_ble_eq_true rfl) d (by rw [wM_putC (j := 1) (x := x1) hk (by rfl)]; exact kk)
theorem gt_1_2 (hB : Bx x G b RX1 cc nL ret rm nm) (hk : kd k = 7) {t1 : Int} (e : C k 2 = t1) (d : decode cc pc = .ok (.getfield 18, 3)) (kk : YM x G b cl sl C S (pc + 3) lv (.int (iI t1) :: st)) : YM x G b cl sl C S pc lv (.ref (ad b k) :: st) := by
  subst e
  exact y_get hB (C := RX1) (T := TX1) (N := 3) inX1 (kd_rng hk (by decide)) (wM_at hk) rfl 2 (by decide) q134 rfl d kk
theorem pt_1_2 (hB : Bx x G b RX1 cc nL ret rm nm) (hk : kd k = 7) {x1 : Int} (d : decode cc pc = .ok (.putfield 18, 3)) (kk : YM x G b cl sl (up2 C k 2 x1) S (pc + 3) lv st) : YM x G b cl sl C S pc lv (.int (iI x1) :: .ref (ad b k) :: st) := y_put hB (C := RX1) (T := TX1) (N := 3) tyX1 tyX1_ok nmX1 inX1 (kd_rng hk (by decide)) (wM_at hk) rfl 2 (by decide) q134 rfl rfl rfl (Nat.le_of_ble_eq_true rfl) d (by rw [wM_putC (j := 2) (x := x1) hk (by rfl)]; exact kk)
theorem gt_2_0 (hB : Bx x G b RX2 cc nL ret rm nm) (hk : kd k = 5) {t1 : Int} (e : C k 0 = t1) (d : decode cc pc = .ok (.getfield 31, 3)) (kk : YM x G b cl sl C S (pc + 3) lv (.int (iI t1) :: st)) : YM x G b cl sl C S pc lv (.ref (ad b k) :: st) := by
  subst e
  exact y_get hB (C := RX2) (T := TX2) (N := 10) inX2 (kd_rng hk (by decide)) (wM_at hk) rfl 0 (by decide) q69 rfl d kk
theorem pt_2_0 (hB : Bx x G b RX2 cc nL ret rm nm) (hk : kd k = 5) {x1 : Int} (d : decode cc pc = .ok (.putfield 31, 3)) (kk : YM x G b cl sl (up2 C k 0 x1) S (pc + 3) lv st) : YM x G b cl sl C S pc lv (.int (iI x1) :: .ref (ad b k) :: st) := y_put hB (C := RX2) (T := TX2) (N := 10) tyX2 tyX2_ok nmX2 inX2 (kd_rng hk (by decide)) (wM_at hk) rfl 0 (by decide) q69 rfl rfl rfl (Nat.le_of_ble_eq_true rfl) d (by rw [wM_putC (j := 0) (x := x1) hk (by rfl)]; exact kk)
theorem gt_2_1 (hB : Bx x G b RX2 cc nL ret rm nm) (hk : kd k = 5) {t1 : Int} (e : C k 1 = t1) (d : decode cc pc = .ok (.getfield 34, 3)) (kk : YM x G b cl sl C S (pc + 3) lv (.int (iI t1) :: st)) : YM x G b cl sl C S pc lv (.ref (ad b k) :: st) := by
  subst e
  exact y_get hB (C := RX2) (T := TX2) (N := 10) inX2 (kd_rng hk (by decide)) (wM_at hk) rfl 1 (by decide) q70 rfl d kk
theorem pt_2_1 (hB : Bx x G b RX2 cc nL ret rm nm) (hk : kd k = 5) {x1 : Int} (d : decode cc pc = .ok (.putfield 34, 3)) (kk : YM x G b cl sl (up2 C k 1 x1) S (pc + 3) lv st) : YM x G b cl sl C S pc lv (.int (iI x1) :: .ref (ad b k) :: st) := y_put hB (C := RX2) (T := TX2) (N := 10) tyX2 tyX2_ok nmX2 inX2 (kd_rng hk (by decide)) (wM_at hk) rfl 1 (by decide) q70 rfl rfl rfl (Nat.le_of_ble_eq_true rfl) d (by rw [wM_putC (j := 1) (x := x1) hk (by rfl)]; exact kk)
theorem gt_2_2 (hB : Bx x G b RX2 cc nL ret rm nm) (hk : kd k = 5) {t1 : Int} (e : C k 2 = t1) (d : decode cc pc = .ok (.getfield 43, 3)) (kk : YM x G b cl sl C S (pc + 3) lv (.int (iI t1) :: st)) : YM x G b cl sl C S pc lv (.ref (ad b k) :: st) := by
  subst e
  exact y_get hB (C := RX2) (T := TX2) (N := 10) inX2 (kd_rng hk (by decide)) (wM_at hk) rfl 2 (by decide) q71 rfl d kk
theorem pt_2_2 (hB : Bx x G b RX2 cc nL ret rm nm) (hk : kd k = 5) {x1 : Int} (d : decode cc pc = .ok (.putfield 43, 3)) (kk : YM x G b cl sl (up2 C k 2 x1) S (pc + 3) lv st) : YM x G b cl sl C S pc lv (.int (iI x1) :: .ref (ad b k) :: st) := y_put hB (C := RX2) (T := TX2) (N := 10) tyX2 tyX2_ok nmX2 inX2 (kd_rng hk (by decide)) (wM_at hk) rfl 2 (by decide) q71 rfl rfl rfl (Nat.le_of_ble_eq_true rfl) d (by rw [wM_putC (j := 2) (x := x1) hk (by rfl)]; exact kk)
theorem gt_2_3 (hB : Bx x G b RX2 cc nL ret rm nm) (hk : kd k = 5) {t1 : Int} (e : C k 3 = t1) (d : decode cc pc = .ok (.getfield 9, 3)) (kk : YM x G b cl sl C S (pc + 3) lv (.int (iI t1) :: st)) : YM x G b cl sl C S pc lv (.ref (ad b k) :: st) := by
  subst e
  exact y_get hB (C := RX2) (T := TX2) (N := 10) inX2 (kd_rng hk (by decide)) (wM_at hk) rfl 3 (by decide) q72 rfl d kk
theorem pt_2_3 (hB : Bx x G b RX2 cc nL ret rm nm) (hk : kd k = 5) {x1 : Int} (d : decode cc pc = .ok (.putfield 9, 3)) (kk : YM x G b cl sl (up2 C k 3 x1) S (pc + 3) lv st) : YM x G b cl sl C S pc lv (.int (iI x1) :: .ref (ad b k) :: st) := y_put hB (C := RX2) (T := TX2) (N := 10) tyX2 tyX2_ok nmX2 inX2 (kd_rng hk (by decide)) (wM_at hk) rfl 3 (by decide) q72 rfl rfl rfl (Nat.le_of_ble_eq_true rfl) d (by rw [wM_putC (j := 3) (x := x1) hk (by rfl)]; exact kk)
theorem gt_2_4 (hB : Bx x G b RX2 cc nL ret rm nm) (hk : kd k = 5) {t1 : Int} (e : C k 4 = t1) (d : decode cc pc = .ok (.getfield 15, 3)) (kk : YM x G b cl sl C S (pc + 3) lv (.int (iI t1) :: st)) : YM x G b cl sl C S pc lv (.ref (ad b k) :: st) := by
  subst e
  exact y_get hB (C := RX2) (T := TX2) (N := 10) inX2 (kd_rng hk (by decide)) (wM_at hk) rfl 4 (by decide) q73 rfl d kk
theorem pt_2_4 (hB : Bx x G b RX2 cc nL ret rm nm) (hk : kd k = 5) {x1 : Int} (d : decode cc pc = .ok (.putfield 15, 3)) (kk : YM x G b cl sl (up2 C k 4 x1) S (pc + 3) lv st) : YM x G b cl sl C S pc lv (.int (iI x1) :: .ref (ad b k) :: st) := y_put hB (C := RX2) (T := TX2) (N := 10) tyX2 tyX2_ok nmX2 inX2 (kd_rng hk (by decide)) (wM_at hk) rfl 4 (by decide) q73 rfl rfl rfl (Nat.le_of_ble_eq_true rfl) d (by rw [wM_putC (j := 4) (x := x1) hk (by rfl)]; exact kk)
theorem gt_2_5 (hB : Bx x G b RX2 cc nL ret rm nm) (hk : kd k = 5) {t1 : Int} (e : C k 5 = t1) (d : decode cc pc = .ok (.getfield 18, 3)) (kk : YM x G b cl sl C S (pc + 3) lv (.int (iI t1) :: st)) : YM x G b cl sl C S pc lv (.ref (ad b k) :: st) := by
  subst e
  exact y_get hB (C := RX2) (T := TX2) (N := 10) inX2 (kd_rng hk (by decide)) (wM_at hk) rfl 5 (by decide) q74 rfl d kk
theorem pt_2_5 (hB : Bx x G b RX2 cc nL ret rm nm) (hk : kd k = 5) {x1 : Int} (d : decode cc pc = .ok (.putfield 18, 3)) (kk : YM x G b cl sl (up2 C k 5 x1) S (pc + 3) lv st) : YM x G b cl sl C S pc lv (.int (iI x1) :: .ref (ad b k) :: st) := y_put hB (C := RX2) (T := TX2) (N := 10) tyX2 tyX2_ok nmX2 inX2 (kd_rng hk (by decide)) (wM_at hk) rfl 5 (by decide) q74 rfl rfl rfl (Nat.le_of_ble_eq_true rfl) d (by rw [wM_putC (j := 5) (x := x1) hk (by rfl)]; exact kk)
theorem gt_2_6 (hB : Bx x G b RX2 cc nL ret rm nm) (hk : kd k = 5) {t1 : Int} (e : C k 6 = t1) (d : decode cc pc = .ok (.getfield 37, 3)) (kk : YM x G b cl sl C S (pc + 3) lv (.int (iI t1) :: st)) : YM x G b cl sl C S pc lv (.ref (ad b k) :: st) := by
  subst e
  exact y_get hB (C := RX2) (T := TX2) (N := 10) inX2 (kd_rng hk (by decide)) (wM_at hk) rfl 6 (by decide) q75 rfl d kk
theorem pt_2_6 (hB : Bx x G b RX2 cc nL ret rm nm) (hk : kd k = 5) {x1 : Int} (d : decode cc pc = .ok (.putfield 37, 3)) (kk : YM x G b cl sl (up2 C k 6 x1) S (pc + 3) lv st) : YM x G b cl sl C S pc lv (.int (iI x1) :: .ref (ad b k) :: st) := y_put hB (C := RX2) (T := TX2) (N := 10) tyX2 tyX2_ok nmX2 inX2 (kd_rng hk (by decide)) (wM_at hk) rfl 6 (by decide) q75 rfl rfl rfl (Nat.le_of_ble_eq_true rfl) d (by rw [wM_putC (j := 6) (x := x1) hk (by rfl)]; exact kk)
theorem gt_2_7 (hB : Bx x G b RX2 cc nL ret rm nm) (hk : kd k = 5) {t1 : Int} (e : k + 1 = t1) (d : decode cc pc = .ok (.getfield 21, 3)) (kk : YM x G b cl sl C S (pc + 3) lv (.ref (ad b t1) :: st)) : YM x G b cl sl C S pc lv (.ref (ad b k) :: st) := by
  subst e
  exact y_get hB (C := RX2) (T := TX2) (N := 10) inX2 (kd_rng hk (by decide)) (wM_at hk) rfl 7 (by decide) q76 rfl d kk
theorem gt_2_8 (hB : Bx x G b RX2 cc nL ret rm nm) (hk : kd k = 5) {t1 : Int} (e : k + 2 = t1) (d : decode cc pc = .ok (.getfield 25, 3)) (kk : YM x G b cl sl C S (pc + 3) lv (.ref (ad b t1) :: st)) : YM x G b cl sl C S pc lv (.ref (ad b k) :: st) := by
  subst e
  exact y_get hB (C := RX2) (T := TX2) (N := 10) inX2 (kd_rng hk (by decide)) (wM_at hk) rfl 8 (by decide) q77 rfl d kk
theorem gt_2_9 (hB : Bx x G b RX2 cc nL ret rm nm) (hk : kd k = 5) {t1 : Int} (e : k + 3 = t1) (d : decode cc pc = .ok (.getfield 28, 3)) (kk : YM x G b cl sl C S (pc + 3) lv (.ref (ad b t1) :: st)) : YM x G b cl sl C S pc lv (.ref (ad b k) :: st) := by
  subst e
  exact y_get hB (C := RX2) (T := TX2) (N := 10) inX2 (kd_rng hk (by decide)) (wM_at hk) rfl 9 (by decide) q78 rfl d kk
theorem gt_3_0 (hB : Bx x G b RX3 cc nL ret rm nm) (hk : kd k = 14) {t1 : Int} (e : k + 1 = t1) (d : decode cc pc = .ok (.getfield 12, 3)) (kk : YM x G b cl sl C S (pc + 3) lv (.ref (ad b t1) :: st)) : YM x G b cl sl C S pc lv (.ref (ad b k) :: st) := by
  subst e
  exact y_get hB (C := RX3) (T := TX3) (N := 4) inX3 (kd_rng hk (by decide)) (wM_at hk) rfl 0 (by decide) q191 rfl d kk
theorem gt_3_1 (hB : Bx x G b RX3 cc nL ret rm nm) (hk : kd k = 14) {t1 : Int} (e : k + 4 = t1) (d : decode cc pc = .ok (.getfield 18, 3)) (kk : YM x G b cl sl C S (pc + 3) lv (.ref (ad b t1) :: st)) : YM x G b cl sl C S pc lv (.ref (ad b k) :: st) := by
  subst e
  exact y_get hB (C := RX3) (T := TX3) (N := 4) inX3 (kd_rng hk (by decide)) (wM_at hk) rfl 1 (by decide) q192 rfl d kk
theorem gt_3_2 (hB : Bx x G b RX3 cc nL ret rm nm) (hk : kd k = 14) {t1 : Int} (e : C k 2 = t1) (d : decode cc pc = .ok (.getfield 26, 3)) (kk : YM x G b cl sl C S (pc + 3) lv (.int (iI t1) :: st)) : YM x G b cl sl C S pc lv (.ref (ad b k) :: st) := by
  subst e
  exact y_get hB (C := RX3) (T := TX3) (N := 4) inX3 (kd_rng hk (by decide)) (wM_at hk) rfl 2 (by decide) q193 rfl d kk
theorem pt_3_2 (hB : Bx x G b RX3 cc nL ret rm nm) (hk : kd k = 14) {x1 : Int} (d : decode cc pc = .ok (.putfield 26, 3)) (kk : YM x G b cl sl (up2 C k 2 x1) S (pc + 3) lv st) : YM x G b cl sl C S pc lv (.int (iI x1) :: .ref (ad b k) :: st) := y_put hB (C := RX3) (T := TX3) (N := 4) tyX3 tyX3_ok nmX3 inX3 (kd_rng hk (by decide)) (wM_at hk) rfl 2 (by decide) q193 rfl rfl rfl (Nat.le_of_ble_eq_true rfl) d (by rw [wM_putC (j := 2) (x := x1) hk (by rfl)]; exact kk)
theorem gt_3_3 (hB : Bx x G b RX3 cc nL ret rm nm) (hk : kd k = 14) {t1 : Int} (e : C k 3 = t1) (d : decode cc pc = .ok (.getfield 36, 3)) (kk : YM x G b cl sl C S (pc + 3) lv (.int (iI t1) :: st)) : YM x G b cl sl C S pc lv (.ref (ad b k) :: st) := by
  subst e
  exact y_get hB (C := RX3) (T := TX3) (N := 4) inX3 (kd_rng hk (by decide)) (wM_at hk) rfl 3 (by decide) q194 rfl d kk
theorem pt_3_3 (hB : Bx x G b RX3 cc nL ret rm nm) (hk : kd k = 14) {x1 : Int} (d : decode cc pc = .ok (.putfield 36, 3)) (kk : YM x G b cl sl (up2 C k 3 x1) S (pc + 3) lv st) : YM x G b cl sl C S pc lv (.int (iI x1) :: .ref (ad b k) :: st) := y_put hB (C := RX3) (T := TX3) (N := 4) tyX3 tyX3_ok nmX3 inX3 (kd_rng hk (by decide)) (wM_at hk) rfl 3 (by decide) q194 rfl rfl rfl (Nat.le_of_ble_eq_true rfl) d (by rw [wM_putC (j := 3) (x := x1) hk (by rfl)]; exact kk)
theorem gt_4_0 (hB : Bx x G b RX4 cc nL ret rm nm) (hk : kd k = 9) {t1 : Int} (e : k + 1 = t1) (d : decode cc pc = .ok (.getfield 9, 3)) (kk : YM x G b cl sl C S (pc + 3) lv (.ref (ad b t1) :: st)) : YM x G b cl sl C S pc lv (.ref (ad b k) :: st) := by
  subst e
  exact y_get hB (C := RX4) (T := TX4) (N := 5) inX4 (kd_rng hk (by decide)) (wM_at hk) rfl 0 (by decide) q150 rfl d kk
theorem gt_4_1 (hB : Bx x G b RX4 cc nL ret rm nm) (hk : kd k = 9) {t1 : Int} (e : C k 1 = t1) (d : decode cc pc = .ok (.getfield 22, 3)) (kk : YM x G b cl sl C S (pc + 3) lv (.int (iI t1) :: st)) : YM x G b cl sl C S pc lv (.ref (ad b k) :: st) := by
  subst e
  exact y_get hB (C := RX4) (T := TX4) (N := 5) inX4 (kd_rng hk (by decide)) (wM_at hk) rfl 1 (by decide) q151 rfl d kk
theorem pt_4_1 (hB : Bx x G b RX4 cc nL ret rm nm) (hk : kd k = 9) {x1 : Int} (d : decode cc pc = .ok (.putfield 22, 3)) (kk : YM x G b cl sl (up2 C k 1 x1) S (pc + 3) lv st) : YM x G b cl sl C S pc lv (.int (iI x1) :: .ref (ad b k) :: st) := y_put hB (C := RX4) (T := TX4) (N := 5) tyX4 tyX4_ok nmX4 inX4 (kd_rng hk (by decide)) (wM_at hk) rfl 1 (by decide) q151 rfl rfl rfl (Nat.le_of_ble_eq_true rfl) d (by rw [wM_putC (j := 1) (x := x1) hk (by rfl)]; exact kk)
theorem gt_4_2 (hB : Bx x G b RX4 cc nL ret rm nm) (hk : kd k = 9) {t1 : Int} (e : k + 2 = t1) (d : decode cc pc = .ok (.getfield 17, 3)) (kk : YM x G b cl sl C S (pc + 3) lv (.ref (ad b t1) :: st)) : YM x G b cl sl C S pc lv (.ref (ad b k) :: st) := by
  subst e
  exact y_get hB (C := RX4) (T := TX4) (N := 5) inX4 (kd_rng hk (by decide)) (wM_at hk) rfl 2 (by decide) q152 rfl d kk
theorem gt_4_3 (hB : Bx x G b RX4 cc nL ret rm nm) (hk : kd k = 9) {t1 : Int} (e : C k 3 = t1) (d : decode cc pc = .ok (.getfield 29, 3)) (kk : YM x G b cl sl C S (pc + 3) lv (.int (iI t1) :: st)) : YM x G b cl sl C S pc lv (.ref (ad b k) :: st) := by
  subst e
  exact y_get hB (C := RX4) (T := TX4) (N := 5) inX4 (kd_rng hk (by decide)) (wM_at hk) rfl 3 (by decide) q153 rfl d kk
theorem pt_4_3 (hB : Bx x G b RX4 cc nL ret rm nm) (hk : kd k = 9) {x1 : Int} (d : decode cc pc = .ok (.putfield 29, 3)) (kk : YM x G b cl sl (up2 C k 3 x1) S (pc + 3) lv st) : YM x G b cl sl C S pc lv (.int (iI x1) :: .ref (ad b k) :: st) := y_put hB (C := RX4) (T := TX4) (N := 5) tyX4 tyX4_ok nmX4 inX4 (kd_rng hk (by decide)) (wM_at hk) rfl 3 (by decide) q153 rfl rfl rfl (Nat.le_of_ble_eq_true rfl) d (by rw [wM_putC (j := 3) (x := x1) hk (by rfl)]; exact kk)
theorem gt_4_4 (hB : Bx x G b RX4 cc nL ret rm nm) (hk : kd k = 9) {t1 : Int} (e : C k 4 = t1) (d : decode cc pc = .ok (.getfield 26, 3)) (kk : YM x G b cl sl C S (pc + 3) lv (.int (iI t1) :: st)) : YM x G b cl sl C S pc lv (.ref (ad b k) :: st) := by
  subst e
  exact y_get hB (C := RX4) (T := TX4) (N := 5) inX4 (kd_rng hk (by decide)) (wM_at hk) rfl 4 (by decide) q154 rfl d kk
theorem pt_4_4 (hB : Bx x G b RX4 cc nL ret rm nm) (hk : kd k = 9) {x1 : Int} (d : decode cc pc = .ok (.putfield 26, 3)) (kk : YM x G b cl sl (up2 C k 4 x1) S (pc + 3) lv st) : YM x G b cl sl C S pc lv (.int (iI x1) :: .ref (ad b k) :: st) := y_put hB (C := RX4) (T := TX4) (N := 5) tyX4 tyX4_ok nmX4 inX4 (kd_rng hk (by decide)) (wM_at hk) rfl 4 (by decide) q154 rfl rfl rfl (Nat.le_of_ble_eq_true rfl) d (by rw [wM_putC (j := 4) (x := x1) hk (by rfl)]; exact kk)
theorem gt_5_0 (hB : Bx x G b RX5 cc nL ret rm nm) (hk : kd k = 12) {t1 : Int} (e : k + 1 = t1) (d : decode cc pc = .ok (.getfield 9, 3)) (kk : YM x G b cl sl C S (pc + 3) lv (.ref (ad b t1) :: st)) : YM x G b cl sl C S pc lv (.ref (ad b k) :: st) := by
  subst e
  exact y_get hB (C := RX5) (T := TX5) (N := 3) inX5 (kd_rng hk (by decide)) (wM_at hk) rfl 0 (by decide) q173 rfl d kk
theorem gt_5_1 (hB : Bx x G b RX5 cc nL ret rm nm) (hk : kd k = 12) {t1 : Int} (e : k + 2 = t1) (d : decode cc pc = .ok (.getfield 15, 3)) (kk : YM x G b cl sl C S (pc + 3) lv (.ref (ad b t1) :: st)) : YM x G b cl sl C S pc lv (.ref (ad b k) :: st) := by
  subst e
  exact y_get hB (C := RX5) (T := TX5) (N := 3) inX5 (kd_rng hk (by decide)) (wM_at hk) rfl 1 (by decide) q174 rfl d kk
theorem gt_5_2 (hB : Bx x G b RX5 cc nL ret rm nm) (hk : kd k = 12) {t1 : Int} (e : C k 2 = t1) (d : decode cc pc = .ok (.getfield 18, 3)) (kk : YM x G b cl sl C S (pc + 3) lv (.int (iI t1) :: st)) : YM x G b cl sl C S pc lv (.ref (ad b k) :: st) := by
  subst e
  exact y_get hB (C := RX5) (T := TX5) (N := 3) inX5 (kd_rng hk (by decide)) (wM_at hk) rfl 2 (by decide) q175 rfl d kk
theorem pt_5_2 (hB : Bx x G b RX5 cc nL ret rm nm) (hk : kd k = 12) {x1 : Int} (d : decode cc pc = .ok (.putfield 18, 3)) (kk : YM x G b cl sl (up2 C k 2 x1) S (pc + 3) lv st) : YM x G b cl sl C S pc lv (.int (iI x1) :: .ref (ad b k) :: st) := y_put hB (C := RX5) (T := TX5) (N := 3) tyX5 tyX5_ok nmX5 inX5 (kd_rng hk (by decide)) (wM_at hk) rfl 2 (by decide) q175 rfl rfl rfl (Nat.le_of_ble_eq_true rfl) d (by rw [wM_putC (j := 2) (x := x1) hk (by rfl)]; exact kk)
theorem gt_6_0 (hB : Bx x G b RX6 cc nL ret rm nm) (hk : kd k = 0) {t1 : Int} (e : k + 1 = t1) (d : decode cc pc = .ok (.getfield 10, 3)) (kk : YM x G b cl sl C S (pc + 3) lv (.ref (ad b t1) :: st)) : YM x G b cl sl C S pc lv (.ref (ad b k) :: st) := by
  subst e
  exact y_get hB (C := RX6) (T := TX6) (N := 7) inX6 (kd_rng hk (by decide)) (wM_at hk) rfl 0 (by decide) q204 rfl d kk
theorem gt_6_1 (hB : Bx x G b RX6 cc nL ret rm nm) (hk : kd k = 0) {t1 : Int} (e : k + 85 = t1) (d : decode cc pc = .ok (.getfield 16, 3)) (kk : YM x G b cl sl C S (pc + 3) lv (.ref (ad b t1) :: st)) : YM x G b cl sl C S pc lv (.ref (ad b k) :: st) := by
  subst e
  exact y_get hB (C := RX6) (T := TX6) (N := 7) inX6 (kd_rng hk (by decide)) (wM_at hk) rfl 1 (by decide) q205 rfl d kk
theorem gt_6_2 (hB : Bx x G b RX6 cc nL ret rm nm) (hk : kd k = 0) {t1 : Int} (e : C k 2 = t1) (d : decode cc pc = .ok (.getfield 211, 3)) (kk : YM x G b cl sl C S (pc + 3) lv (.int (iI t1) :: st)) : YM x G b cl sl C S pc lv (.ref (ad b k) :: st) := by
  subst e
  exact y_get hB (C := RX6) (T := TX6) (N := 7) inX6 (kd_rng hk (by decide)) (wM_at hk) rfl 2 (by decide) q206 rfl d kk
theorem pt_6_2 (hB : Bx x G b RX6 cc nL ret rm nm) (hk : kd k = 0) {x1 : Int} (hz : x1 = 0 ∨ x1 = 1) (d : decode cc pc = .ok (.putfield 211, 3)) (kk : YM x G b cl sl (up2 C k 2 x1) S (pc + 3) lv st) : YM x G b cl sl C S pc lv (.int (iI x1) :: .ref (ad b k) :: st) := y_put hB (C := RX6) (T := TX6) (N := 7) tyX6 tyX6_ok nmX6 inX6 (kd_rng hk (by decide)) (wM_at hk) rfl 2 (by decide) q206 rfl (by rcases hz with rfl | rfl <;> rfl) (by rcases hz with rfl | rfl <;> rfl) (Nat.le_of_ble_eq_true rfl) d (by rw [wM_putC (j := 2) (x := x1) hk (by rfl)]; exact kk)
theorem gt_6_3 (hB : Bx x G b RX6 cc nL ret rm nm) (hk : kd k = 0) {t1 : Int} (e : k + 169 = t1) (d : decode cc pc = .ok (.getfield 22, 3)) (kk : YM x G b cl sl C S (pc + 3) lv (.ref (ad b t1) :: st)) : YM x G b cl sl C S pc lv (.ref (ad b k) :: st) := by
  subst e
  exact y_get hB (C := RX6) (T := TX6) (N := 7) inX6 (kd_rng hk (by decide)) (wM_at hk) rfl 3 (by decide) q207 rfl d kk
theorem gt_6_4 (hB : Bx x G b RX6 cc nL ret rm nm) (hk : kd k = 0) {t1 : Int} (e : k + 507 = t1) (d : decode cc pc = .ok (.getfield 29, 3)) (kk : YM x G b cl sl C S (pc + 3) lv (.ref (ad b t1) :: st)) : YM x G b cl sl C S pc lv (.ref (ad b k) :: st) := by
  subst e
  exact y_get hB (C := RX6) (T := TX6) (N := 7) inX6 (kd_rng hk (by decide)) (wM_at hk) rfl 4 (by decide) q208 rfl d kk
theorem gt_6_5 (hB : Bx x G b RX6 cc nL ret rm nm) (hk : kd k = 0) {t1 : Int} (e : k + 570 = t1) (d : decode cc pc = .ok (.getfield 36, 3)) (kk : YM x G b cl sl C S (pc + 3) lv (.ref (ad b t1) :: st)) : YM x G b cl sl C S pc lv (.ref (ad b k) :: st) := by
  subst e
  exact y_get hB (C := RX6) (T := TX6) (N := 7) inX6 (kd_rng hk (by decide)) (wM_at hk) rfl 5 (by decide) q209 rfl d kk
theorem gt_6_6 (hB : Bx x G b RX6 cc nL ret rm nm) (hk : kd k = 0) {t1 : Int} (e : k + 573 = t1) (d : decode cc pc = .ok (.getfield 43, 3)) (kk : YM x G b cl sl C S (pc + 3) lv (.ref (ad b t1) :: st)) : YM x G b cl sl C S pc lv (.ref (ad b k) :: st) := by
  subst e
  exact y_get hB (C := RX6) (T := TX6) (N := 7) inX6 (kd_rng hk (by decide)) (wM_at hk) rfl 6 (by decide) q210 rfl d kk
theorem gt_7_0 (hB : Bx x G b RX7 cc nL ret rm nm) (hk : kd k = 20) {t1 : Int} (e : k + 1 = t1) (d : decode cc pc = .ok (.getfield 7, 3)) (kk : YM x G b cl sl C S (pc + 3) lv (.ref (ad b t1) :: st)) : YM x G b cl sl C S pc lv (.ref (ad b k) :: st) := by
  subst e
  exact y_get hB (C := RX7) (T := TX7) (N := 14) inX7 (kd_rng hk (by decide)) (wM_at hk) rfl 0 (by decide) q744 rfl d kk
theorem gt_7_1 (hB : Bx x G b RX7 cc nL ret rm nm) (hk : kd k = 20) {t1 : Int} (e : k + 2 = t1) (d : decode cc pc = .ok (.getfield 13, 3)) (kk : YM x G b cl sl C S (pc + 3) lv (.ref (ad b t1) :: st)) : YM x G b cl sl C S pc lv (.ref (ad b k) :: st) := by
  subst e
  exact y_get hB (C := RX7) (T := TX7) (N := 14) inX7 (kd_rng hk (by decide)) (wM_at hk) rfl 1 (by decide) q745 rfl d kk
theorem gt_7_2 (hB : Bx x G b RX7 cc nL ret rm nm) (hk : kd k = 20) {t1 : Int} (e : k + 3 = t1) (d : decode cc pc = .ok (.getfield 16, 3)) (kk : YM x G b cl sl C S (pc + 3) lv (.ref (ad b t1) :: st)) : YM x G b cl sl C S pc lv (.ref (ad b k) :: st) := by
  subst e
  exact y_get hB (C := RX7) (T := TX7) (N := 14) inX7 (kd_rng hk (by decide)) (wM_at hk) rfl 2 (by decide) q746 rfl d kk
theorem gt_7_3 (hB : Bx x G b RX7 cc nL ret rm nm) (hk : kd k = 20) {t1 : Int} (e : k + 4 = t1) (d : decode cc pc = .ok (.getfield 19, 3)) (kk : YM x G b cl sl C S (pc + 3) lv (.ref (ad b t1) :: st)) : YM x G b cl sl C S pc lv (.ref (ad b k) :: st) := by
  subst e
  exact y_get hB (C := RX7) (T := TX7) (N := 14) inX7 (kd_rng hk (by decide)) (wM_at hk) rfl 3 (by decide) q747 rfl d kk
theorem gt_7_4 (hB : Bx x G b RX7 cc nL ret rm nm) (hk : kd k = 20) {t1 : Int} (e : k + 5 = t1) (d : decode cc pc = .ok (.getfield 22, 3)) (kk : YM x G b cl sl C S (pc + 3) lv (.ref (ad b t1) :: st)) : YM x G b cl sl C S pc lv (.ref (ad b k) :: st) := by
  subst e
  exact y_get hB (C := RX7) (T := TX7) (N := 14) inX7 (kd_rng hk (by decide)) (wM_at hk) rfl 4 (by decide) q748 rfl d kk
theorem gt_7_5 (hB : Bx x G b RX7 cc nL ret rm nm) (hk : kd k = 20) {t1 : Int} (e : S k 5 = t1) (d : decode cc pc = .ok (.getfield 135, 3)) (kk : YM x G b cl sl C S (pc + 3) lv (.int (iI t1) :: st)) : YM x G b cl sl C S pc lv (.ref (ad b k) :: st) := by
  subst e
  exact y_get hB (C := RX7) (T := TX7) (N := 14) inX7 (kd_rng hk (by decide)) (wM_at hk) rfl 5 (by decide) q749 rfl d kk
theorem pt_7_5 (hB : Bx x G b RX7 cc nL ret rm nm) (hk : kd k = 20) {x1 : Int} (d : decode cc pc = .ok (.putfield 135, 3)) (kk : YM x G b cl sl C (up2 S k 5 x1) (pc + 3) lv st) : YM x G b cl sl C S pc lv (.int (iI x1) :: .ref (ad b k) :: st) := y_put hB (C := RX7) (T := TX7) (N := 14) tyX7 tyX7_ok nmX7 inX7 (kd_rng hk (by decide)) (wM_at hk) rfl 5 (by decide) q749 rfl rfl rfl (Nat.le_of_ble_eq_true rfl) d (by rw [wM_putS (j := 5) (x := x1) hk (by rfl)]; exact kk)
theorem gt_7_6 (hB : Bx x G b RX7 cc nL ret rm nm) (hk : kd k = 20) {t1 : Int} (e : S k 6 = t1) (d : decode cc pc = .ok (.getfield 138, 3)) (kk : YM x G b cl sl C S (pc + 3) lv (.int (iI t1) :: st)) : YM x G b cl sl C S pc lv (.ref (ad b k) :: st) := by
  subst e
  exact y_get hB (C := RX7) (T := TX7) (N := 14) inX7 (kd_rng hk (by decide)) (wM_at hk) rfl 6 (by decide) q750 rfl d kk
theorem pt_7_6 (hB : Bx x G b RX7 cc nL ret rm nm) (hk : kd k = 20) {x1 : Int} (d : decode cc pc = .ok (.putfield 138, 3)) (kk : YM x G b cl sl C (up2 S k 6 x1) (pc + 3) lv st) : YM x G b cl sl C S pc lv (.int (iI x1) :: .ref (ad b k) :: st) := y_put hB (C := RX7) (T := TX7) (N := 14) tyX7 tyX7_ok nmX7 inX7 (kd_rng hk (by decide)) (wM_at hk) rfl 6 (by decide) q750 rfl rfl rfl (Nat.le_of_ble_eq_true rfl) d (by rw [wM_putS (j := 6) (x := x1) hk (by rfl)]; exact kk)
theorem gt_7_7 (hB : Bx x G b RX7 cc nL ret rm nm) (hk : kd k = 20) {t1 : Int} (e : k + 6 = t1) (d : decode cc pc = .ok (.getfield 26, 3)) (kk : YM x G b cl sl C S (pc + 3) lv (.ref (ad b t1) :: st)) : YM x G b cl sl C S pc lv (.ref (ad b k) :: st) := by
  subst e
  exact y_get hB (C := RX7) (T := TX7) (N := 14) inX7 (kd_rng hk (by decide)) (wM_at hk) rfl 7 (by decide) q751 rfl d kk
theorem gt_7_8 (hB : Bx x G b RX7 cc nL ret rm nm) (hk : kd k = 20) {t1 : Int} (e : S k 8 = t1) (d : decode cc pc = .ok (.getfield 77, 3)) (kk : YM x G b cl sl C S (pc + 3) lv (.int (iI t1) :: st)) : YM x G b cl sl C S pc lv (.ref (ad b k) :: st) := by
  subst e
  exact y_get hB (C := RX7) (T := TX7) (N := 14) inX7 (kd_rng hk (by decide)) (wM_at hk) rfl 8 (by decide) q752 rfl d kk
theorem pt_7_8 (hB : Bx x G b RX7 cc nL ret rm nm) (hk : kd k = 20) {x1 : Int} (d : decode cc pc = .ok (.putfield 77, 3)) (kk : YM x G b cl sl C (up2 S k 8 x1) (pc + 3) lv st) : YM x G b cl sl C S pc lv (.int (iI x1) :: .ref (ad b k) :: st) := y_put hB (C := RX7) (T := TX7) (N := 14) tyX7 tyX7_ok nmX7 inX7 (kd_rng hk (by decide)) (wM_at hk) rfl 8 (by decide) q752 rfl rfl rfl (Nat.le_of_ble_eq_true rfl) d (by rw [wM_putS (j := 8) (x := x1) hk (by rfl)]; exact kk)
theorem gt_7_9 (hB : Bx x G b RX7 cc nL ret rm nm) (hk : kd k = 20) {t1 : Int} (e : S k 9 = t1) (d : decode cc pc = .ok (.getfield 33, 3)) (kk : YM x G b cl sl C S (pc + 3) lv (.int (iI t1) :: st)) : YM x G b cl sl C S pc lv (.ref (ad b k) :: st) := by
  subst e
  exact y_get hB (C := RX7) (T := TX7) (N := 14) inX7 (kd_rng hk (by decide)) (wM_at hk) rfl 9 (by decide) q753 rfl d kk
theorem pt_7_9 (hB : Bx x G b RX7 cc nL ret rm nm) (hk : kd k = 20) {x1 : Int} (d : decode cc pc = .ok (.putfield 33, 3)) (kk : YM x G b cl sl C (up2 S k 9 x1) (pc + 3) lv st) : YM x G b cl sl C S pc lv (.int (iI x1) :: .ref (ad b k) :: st) := y_put hB (C := RX7) (T := TX7) (N := 14) tyX7 tyX7_ok nmX7 inX7 (kd_rng hk (by decide)) (wM_at hk) rfl 9 (by decide) q753 rfl rfl rfl (Nat.le_of_ble_eq_true rfl) d (by rw [wM_putS (j := 9) (x := x1) hk (by rfl)]; exact kk)
theorem gt_7_10 (hB : Bx x G b RX7 cc nL ret rm nm) (hk : kd k = 20) {t1 : Int} (e : S k 10 = t1) (d : decode cc pc = .ok (.getfield 153, 3)) (kk : YM x G b cl sl C S (pc + 3) lv (.int (iI t1) :: st)) : YM x G b cl sl C S pc lv (.ref (ad b k) :: st) := by
  subst e
  exact y_get hB (C := RX7) (T := TX7) (N := 14) inX7 (kd_rng hk (by decide)) (wM_at hk) rfl 10 (by decide) q754 rfl d kk
theorem pt_7_10 (hB : Bx x G b RX7 cc nL ret rm nm) (hk : kd k = 20) {x1 : Int} (hz : x1 = 0 ∨ x1 = 1) (d : decode cc pc = .ok (.putfield 153, 3)) (kk : YM x G b cl sl C (up2 S k 10 x1) (pc + 3) lv st) : YM x G b cl sl C S pc lv (.int (iI x1) :: .ref (ad b k) :: st) := y_put hB (C := RX7) (T := TX7) (N := 14) tyX7 tyX7_ok nmX7 inX7 (kd_rng hk (by decide)) (wM_at hk) rfl 10 (by decide) q754 rfl (by rcases hz with rfl | rfl <;> rfl) (by rcases hz with rfl | rfl <;> rfl) (Nat.le_of_ble_eq_true rfl) d (by rw [wM_putS (j := 10) (x := x1) hk (by rfl)]; exact kk)
theorem gt_7_11 (hB : Bx x G b RX7 cc nL ret rm nm) (hk : kd k = 20) {t1 : Int} (e : k + 7 = t1) (d : decode cc pc = .ok (.getfield 30, 3)) (kk : YM x G b cl sl C S (pc + 3) lv (.ref (ad b t1) :: st)) : YM x G b cl sl C S pc lv (.ref (ad b k) :: st) := by
  subst e
  exact y_get hB (C := RX7) (T := TX7) (N := 14) inX7 (kd_rng hk (by decide)) (wM_at hk) rfl 11 (by decide) q755 rfl d kk
theorem gt_7_12 (hB : Bx x G b RX7 cc nL ret rm nm) (hk : kd k = 20) {t1 : Int} (e : S k 12 = t1) (d : decode cc pc = .ok (.getfield 80, 3)) (kk : YM x G b cl sl C S (pc + 3) lv (.int (iI t1) :: st)) : YM x G b cl sl C S pc lv (.ref (ad b k) :: st) := by
  subst e
  exact y_get hB (C := RX7) (T := TX7) (N := 14) inX7 (kd_rng hk (by decide)) (wM_at hk) rfl 12 (by decide) q756 rfl d kk
theorem pt_7_12 (hB : Bx x G b RX7 cc nL ret rm nm) (hk : kd k = 20) {x1 : Int} (d : decode cc pc = .ok (.putfield 80, 3)) (kk : YM x G b cl sl C (up2 S k 12 x1) (pc + 3) lv st) : YM x G b cl sl C S pc lv (.int (iI x1) :: .ref (ad b k) :: st) := y_put hB (C := RX7) (T := TX7) (N := 14) tyX7 tyX7_ok nmX7 inX7 (kd_rng hk (by decide)) (wM_at hk) rfl 12 (by decide) q756 rfl rfl rfl (Nat.le_of_ble_eq_true rfl) d (by rw [wM_putS (j := 12) (x := x1) hk (by rfl)]; exact kk)
theorem gt_7_13 (hB : Bx x G b RX7 cc nL ret rm nm) (hk : kd k = 20) {t1 : Int} (e : S k 13 = t1) (d : decode cc pc = .ok (.getfield 95, 3)) (kk : YM x G b cl sl C S (pc + 3) lv (.int (iI t1) :: st)) : YM x G b cl sl C S pc lv (.ref (ad b k) :: st) := by
  subst e
  exact y_get hB (C := RX7) (T := TX7) (N := 14) inX7 (kd_rng hk (by decide)) (wM_at hk) rfl 13 (by decide) q757 rfl d kk
theorem pt_7_13 (hB : Bx x G b RX7 cc nL ret rm nm) (hk : kd k = 20) {x1 : Int} (d : decode cc pc = .ok (.putfield 95, 3)) (kk : YM x G b cl sl C (up2 S k 13 x1) (pc + 3) lv st) : YM x G b cl sl C S pc lv (.int (iI x1) :: .ref (ad b k) :: st) := y_put hB (C := RX7) (T := TX7) (N := 14) tyX7 tyX7_ok nmX7 inX7 (kd_rng hk (by decide)) (wM_at hk) rfl 13 (by decide) q757 rfl rfl rfl (Nat.le_of_ble_eq_true rfl) d (by rw [wM_putS (j := 13) (x := x1) hk (by rfl)]; exact kk)
theorem ald_2 (hB : Bx x G b own cc nL ret rm nm) (hk : kd k = 2) {i t1 : Int} (hi : 0 ≤ i ∧ i < 5) (e : C k i = t1) (d : decode cc pc = .ok (.iaload, 1)) (kk : YM x G b cl sl C S (pc + 1) lv (.int (iI t1) :: st)) : YM x G b cl sl C S pc lv (.int (iI i) :: .ref (ad b k) :: st) := by
  subst e
  exact y_ald 0 hB (kd_rng hk (by decide)) (wM_at hk) (by decide) hi (by decide) d (by show YM x G b cl sl C S (pc + 1) lv (.int (iI (C k (i.toNat : Int))) :: st); rw [Int.toNat_of_nonneg hi.1]; exact kk)
theorem ast_2 (hB : Bx x G b own cc nL ret rm nm) (hk : kd k = 2) {i x1 : Int} (hi : 0 ≤ i ∧ i < 5) (d : decode cc pc = .ok (.iastore, 1)) (kk : YM x G b cl sl (up2 C k i x1) S (pc + 1) lv st) : YM x G b cl sl C S pc lv (.int (iI x1) :: .int (iI i) :: .ref (ad b k) :: st) := y_iast hB (kd_rng hk (by decide)) (wM_at hk) hi (by decide) d (by rw [wM_putC (j := i) (x := x1) hk (by simp only [wS]; rw [arr_up _ hi.1])]; exact kk)
theorem ald_3 (hB : Bx x G b own cc nL ret rm nm) (hk : kd k = 3) {i t1 : Int} (hi : 0 ≤ i ∧ i < 6) (e : C k i = t1) (d : decode cc pc = .ok (.iaload, 1)) (kk : YM x G b cl sl C S (pc + 1) lv (.int (iI t1) :: st)) : YM x G b cl sl C S pc lv (.int (iI i) :: .ref (ad b k) :: st) := by
  subst e
  exact y_ald 0 hB (kd_rng hk (by decide)) (wM_at hk) (by decide) hi (by decide) d (by show YM x G b cl sl C S (pc + 1) lv (.int (iI (C k (i.toNat : Int))) :: st); rw [Int.toNat_of_nonneg hi.1]; exact kk)
theorem ast_3 (hB : Bx x G b own cc nL ret rm nm) (hk : kd k = 3) {i x1 : Int} (hi : 0 ≤ i ∧ i < 6) (d : decode cc pc = .ok (.iastore, 1)) (kk : YM x G b cl sl (up2 C k i x1) S (pc + 1) lv st) : YM x G b cl sl C S pc lv (.int (iI x1) :: .int (iI i) :: .ref (ad b k) :: st) := y_iast hB (kd_rng hk (by decide)) (wM_at hk) hi (by decide) d (by rw [wM_putC (j := i) (x := x1) hk (by simp only [wS]; rw [arr_up _ hi.1])]; exact kk)
theorem ald_6 (hB : Bx x G b own cc nL ret rm nm) (hk : kd k = 6) {i t1 : Int} (hi : 0 ≤ i ∧ i < 8) (e : C k i = t1) (d : decode cc pc = .ok (.iaload, 1)) (kk : YM x G b cl sl C S (pc + 1) lv (.int (iI t1) :: st)) : YM x G b cl sl C S pc lv (.int (iI i) :: .ref (ad b k) :: st) := by
  subst e
  exact y_ald 0 hB (kd_rng hk (by decide)) (wM_at hk) (by decide) hi (by decide) d (by show YM x G b cl sl C S (pc + 1) lv (.int (iI (C k (i.toNat : Int))) :: st); rw [Int.toNat_of_nonneg hi.1]; exact kk)
theorem ast_6 (hB : Bx x G b own cc nL ret rm nm) (hk : kd k = 6) {i x1 : Int} (hi : 0 ≤ i ∧ i < 8) (d : decode cc pc = .ok (.iastore, 1)) (kk : YM x G b cl sl (up2 C k i x1) S (pc + 1) lv st) : YM x G b cl sl C S pc lv (.int (iI x1) :: .int (iI i) :: .ref (ad b k) :: st) := y_iast hB (kd_rng hk (by decide)) (wM_at hk) hi (by decide) d (by rw [wM_putC (j := i) (x := x1) hk (by simp only [wS]; rw [arr_up _ hi.1])]; exact kk)
theorem ald_10 (hB : Bx x G b own cc nL ret rm nm) (hk : kd k = 10) {i t1 : Int} (hi : 0 ≤ i ∧ i < 60) (e : C k i = t1) (d : decode cc pc = .ok (.caload, 1)) (kk : YM x G b cl sl C S (pc + 1) lv (.int (iI t1) :: st)) : YM x G b cl sl C S pc lv (.int (iI i) :: .ref (ad b k) :: st) := by
  subst e
  exact y_ald 2 hB (kd_rng hk (by decide)) (wM_at hk) (by decide) hi (by decide) d (by show YM x G b cl sl C S (pc + 1) lv (.int (iI (C k (i.toNat : Int))) :: st); rw [Int.toNat_of_nonneg hi.1]; exact kk)
theorem ast_10 (hB : Bx x G b own cc nL ret rm nm) (hk : kd k = 10) {i x1 : Int} (hi : 0 ≤ i ∧ i < 60) (hv : 0 ≤ x1 ∧ x1 < 65536) (d : decode cc pc = .ok (.castore, 1)) (kk : YM x G b cl sl (up2 C k i x1) S (pc + 1) lv st) : YM x G b cl sl C S pc lv (.int (iI x1) :: .int (iI i) :: .ref (ad b k) :: st) := y_cast hB (kd_rng hk (by decide)) (wM_at hk) hi (by decide) hv d (by rw [wM_putC (j := i) (x := x1) hk (by simp only [wS]; rw [arr_up _ hi.1])]; exact kk)
theorem ald_13 (hB : Bx x G b own cc nL ret rm nm) (hk : kd k = 13) {i t1 : Int} (hi : 0 ≤ i ∧ i < 20) (e : C k i = t1) (d : decode cc pc = .ok (.iaload, 1)) (kk : YM x G b cl sl C S (pc + 1) lv (.int (iI t1) :: st)) : YM x G b cl sl C S pc lv (.int (iI i) :: .ref (ad b k) :: st) := by
  subst e
  exact y_ald 0 hB (kd_rng hk (by decide)) (wM_at hk) (by decide) hi (by decide) d (by show YM x G b cl sl C S (pc + 1) lv (.int (iI (C k (i.toNat : Int))) :: st); rw [Int.toNat_of_nonneg hi.1]; exact kk)
theorem ast_13 (hB : Bx x G b own cc nL ret rm nm) (hk : kd k = 13) {i x1 : Int} (hi : 0 ≤ i ∧ i < 20) (d : decode cc pc = .ok (.iastore, 1)) (kk : YM x G b cl sl (up2 C k i x1) S (pc + 1) lv st) : YM x G b cl sl C S pc lv (.int (iI x1) :: .int (iI i) :: .ref (ad b k) :: st) := y_iast hB (kd_rng hk (by decide)) (wM_at hk) hi (by decide) d (by rw [wM_putC (j := i) (x := x1) hk (by simp only [wS]; rw [arr_up _ hi.1])]; exact kk)
theorem ald_21 (hB : Bx x G b own cc nL ret rm nm) (hk : kd k = 21) {i t1 : Int} (hi : 0 ≤ i ∧ i < 656) (e : S k i = t1) (d : decode cc pc = .ok (.iaload, 1)) (kk : YM x G b cl sl C S (pc + 1) lv (.int (iI t1) :: st)) : YM x G b cl sl C S pc lv (.int (iI i) :: .ref (ad b k) :: st) := by
  subst e
  exact y_ald 0 hB (kd_rng hk (by decide)) (wM_at hk) (by decide) hi (by decide) d (by show YM x G b cl sl C S (pc + 1) lv (.int (iI (S k (i.toNat : Int))) :: st); rw [Int.toNat_of_nonneg hi.1]; exact kk)
theorem ast_21 (hB : Bx x G b own cc nL ret rm nm) (hk : kd k = 21) {i x1 : Int} (hi : 0 ≤ i ∧ i < 656) (d : decode cc pc = .ok (.iastore, 1)) (kk : YM x G b cl sl C (up2 S k i x1) (pc + 1) lv st) : YM x G b cl sl C S pc lv (.int (iI x1) :: .int (iI i) :: .ref (ad b k) :: st) := y_iast hB (kd_rng hk (by decide)) (wM_at hk) hi (by decide) d (by rw [wM_putS (j := i) (x := x1) hk (by simp only [wS]; rw [arr_up _ hi.1])]; exact kk)
theorem ald_22 (hB : Bx x G b own cc nL ret rm nm) (hk : kd k = 22) {i t1 : Int} (hi : 0 ≤ i ∧ i < 2624) (e : S k i = t1) (d : decode cc pc = .ok (.iaload, 1)) (kk : YM x G b cl sl C S (pc + 1) lv (.int (iI t1) :: st)) : YM x G b cl sl C S pc lv (.int (iI i) :: .ref (ad b k) :: st) := by
  subst e
  exact y_ald 0 hB (kd_rng hk (by decide)) (wM_at hk) (by decide) hi (by decide) d (by show YM x G b cl sl C S (pc + 1) lv (.int (iI (S k (i.toNat : Int))) :: st); rw [Int.toNat_of_nonneg hi.1]; exact kk)
theorem ast_22 (hB : Bx x G b own cc nL ret rm nm) (hk : kd k = 22) {i x1 : Int} (hi : 0 ≤ i ∧ i < 2624) (d : decode cc pc = .ok (.iastore, 1)) (kk : YM x G b cl sl C (up2 S k i x1) (pc + 1) lv st) : YM x G b cl sl C S pc lv (.int (iI x1) :: .int (iI i) :: .ref (ad b k) :: st) := y_iast hB (kd_rng hk (by decide)) (wM_at hk) hi (by decide) d (by rw [wM_putS (j := i) (x := x1) hk (by simp only [wS]; rw [arr_up _ hi.1])]; exact kk)
theorem ald_23 (hB : Bx x G b own cc nL ret rm nm) (hk : kd k = 23) {i t1 : Int} (hi : 0 ≤ i ∧ i < 656) (e : S k i = t1) (d : decode cc pc = .ok (.iaload, 1)) (kk : YM x G b cl sl C S (pc + 1) lv (.int (iI t1) :: st)) : YM x G b cl sl C S pc lv (.int (iI i) :: .ref (ad b k) :: st) := by
  subst e
  exact y_ald 0 hB (kd_rng hk (by decide)) (wM_at hk) (by decide) hi (by decide) d (by show YM x G b cl sl C S (pc + 1) lv (.int (iI (S k (i.toNat : Int))) :: st); rw [Int.toNat_of_nonneg hi.1]; exact kk)
theorem ast_23 (hB : Bx x G b own cc nL ret rm nm) (hk : kd k = 23) {i x1 : Int} (hi : 0 ≤ i ∧ i < 656) (d : decode cc pc = .ok (.iastore, 1)) (kk : YM x G b cl sl C (up2 S k i x1) (pc + 1) lv st) : YM x G b cl sl C S pc lv (.int (iI x1) :: .int (iI i) :: .ref (ad b k) :: st) := y_iast hB (kd_rng hk (by decide)) (wM_at hk) hi (by decide) d (by rw [wM_putS (j := i) (x := x1) hk (by simp only [wS]; rw [arr_up _ hi.1])]; exact kk)
theorem ald_24 (hB : Bx x G b own cc nL ret rm nm) (hk : kd k = 24) {i t1 : Int} (hi : 0 ≤ i ∧ i < 20) (e : S k i = t1) (d : decode cc pc = .ok (.iaload, 1)) (kk : YM x G b cl sl C S (pc + 1) lv (.int (iI t1) :: st)) : YM x G b cl sl C S pc lv (.int (iI i) :: .ref (ad b k) :: st) := by
  subst e
  exact y_ald 0 hB (kd_rng hk (by decide)) (wM_at hk) (by decide) hi (by decide) d (by show YM x G b cl sl C S (pc + 1) lv (.int (iI (S k (i.toNat : Int))) :: st); rw [Int.toNat_of_nonneg hi.1]; exact kk)
theorem ast_24 (hB : Bx x G b own cc nL ret rm nm) (hk : kd k = 24) {i x1 : Int} (hi : 0 ≤ i ∧ i < 20) (d : decode cc pc = .ok (.iastore, 1)) (kk : YM x G b cl sl C (up2 S k i x1) (pc + 1) lv st) : YM x G b cl sl C S pc lv (.int (iI x1) :: .int (iI i) :: .ref (ad b k) :: st) := y_iast hB (kd_rng hk (by decide)) (wM_at hk) hi (by decide) d (by rw [wM_putS (j := i) (x := x1) hk (by simp only [wS]; rw [arr_up _ hi.1])]; exact kk)
theorem ald_25 (hB : Bx x G b own cc nL ret rm nm) (hk : kd k = 25) {i t1 : Int} (hi : 0 ≤ i ∧ i < 20) (e : S k i = t1) (d : decode cc pc = .ok (.baload, 1)) (kk : YM x G b cl sl C S (pc + 1) lv (.int (iI t1) :: st)) : YM x G b cl sl C S pc lv (.int (iI i) :: .ref (ad b k) :: st) := by
  subst e
  exact y_ald 1 hB (kd_rng hk (by decide)) (wM_at hk) (by decide) hi (by decide) d (by show YM x G b cl sl C S (pc + 1) lv (.int (iI (S k (i.toNat : Int))) :: st); rw [Int.toNat_of_nonneg hi.1]; exact kk)
theorem ast_25 (hB : Bx x G b own cc nL ret rm nm) (hk : kd k = 25) {i x1 : Int} (hi : 0 ≤ i ∧ i < 20) (hv : x1 = 0 ∨ x1 = 1) (d : decode cc pc = .ok (.bastore, 1)) (kk : YM x G b cl sl C (up2 S k i x1) (pc + 1) lv st) : YM x G b cl sl C S pc lv (.int (iI x1) :: .int (iI i) :: .ref (ad b k) :: st) := y_zast hB (kd_rng hk (by decide)) (wM_at hk) hi (by decide) hv d (by rw [wM_putS (j := i) (x := x1) hk (by simp only [wS]; rw [arr_up _ hi.1])]; exact kk)
theorem ald_26 (hB : Bx x G b own cc nL ret rm nm) (hk : kd k = 26) {i t1 : Int} (hi : 0 ≤ i ∧ i < 60) (e : S k i = t1) (d : decode cc pc = .ok (.caload, 1)) (kk : YM x G b cl sl C S (pc + 1) lv (.int (iI t1) :: st)) : YM x G b cl sl C S pc lv (.int (iI i) :: .ref (ad b k) :: st) := by
  subst e
  exact y_ald 2 hB (kd_rng hk (by decide)) (wM_at hk) (by decide) hi (by decide) d (by show YM x G b cl sl C S (pc + 1) lv (.int (iI (S k (i.toNat : Int))) :: st); rw [Int.toNat_of_nonneg hi.1]; exact kk)
theorem ast_26 (hB : Bx x G b own cc nL ret rm nm) (hk : kd k = 26) {i x1 : Int} (hi : 0 ≤ i ∧ i < 60) (hv : 0 ≤ x1 ∧ x1 < 65536) (d : decode cc pc = .ok (.castore, 1)) (kk : YM x G b cl sl C (up2 S k i x1) (pc + 1) lv st) : YM x G b cl sl C S pc lv (.int (iI x1) :: .int (iI i) :: .ref (ad b k) :: st) := y_cast hB (kd_rng hk (by decide)) (wM_at hk) hi (by decide) hv d (by rw [wM_putS (j := i) (x := x1) hk (by simp only [wS]; rw [arr_up _ hi.1])]; exact kk)
theorem ald_27 (hB : Bx x G b own cc nL ret rm nm) (hk : kd k = 27) {i t1 : Int} (hi : 0 ≤ i ∧ i < 400) (e : S k i = t1) (d : decode cc pc = .ok (.iaload, 1)) (kk : YM x G b cl sl C S (pc + 1) lv (.int (iI t1) :: st)) : YM x G b cl sl C S pc lv (.int (iI i) :: .ref (ad b k) :: st) := by
  subst e
  exact y_ald 0 hB (kd_rng hk (by decide)) (wM_at hk) (by decide) hi (by decide) d (by show YM x G b cl sl C S (pc + 1) lv (.int (iI (S k (i.toNat : Int))) :: st); rw [Int.toNat_of_nonneg hi.1]; exact kk)
theorem ast_27 (hB : Bx x G b own cc nL ret rm nm) (hk : kd k = 27) {i x1 : Int} (hi : 0 ≤ i ∧ i < 400) (d : decode cc pc = .ok (.iastore, 1)) (kk : YM x G b cl sl C (up2 S k i x1) (pc + 1) lv st) : YM x G b cl sl C S pc lv (.int (iI x1) :: .int (iI i) :: .ref (ad b k) :: st) := y_iast hB (kd_rng hk (by decide)) (wM_at hk) hi (by decide) d (by rw [wM_putS (j := i) (x := x1) hk (by simp only [wS]; rw [arr_up _ hi.1])]; exact kk)
theorem ald_4 (hB : Bx x G b own cc nL ret rm nm) (hk : kd k = 4) {i : Int} (hi : 0 ≤ i ∧ i < 20) {t1 : Int} (e : k + 1 + 4 * i = t1) (d : decode cc pc = .ok (.aaload, 1)) (kk : YM x G b cl sl C S (pc + 1) lv (.ref (ad b t1) :: st)) : YM x G b cl sl C S pc lv (.int (iI i) :: .ref (ad b k) :: st) := by
  subst e
  exact y_aald 3 hB (kd_rng hk (by decide)) (wM_at hk) (by decide) hi (by decide) d (by show YM x G b cl sl C S (pc + 1) lv (.ref (ad b (k + 1 + 4 * (i.toNat : Int))) :: st); rw [Int.toNat_of_nonneg hi.1]; exact kk)
theorem ald_8 (hB : Bx x G b own cc nL ret rm nm) (hk : kd k = 8) {i : Int} (hi : 0 ≤ i ∧ i < 4) {t1 : Int} (e : k + 1 + 84 * i = t1) (d : decode cc pc = .ok (.aaload, 1)) (kk : YM x G b cl sl C S (pc + 1) lv (.ref (ad b t1) :: st)) : YM x G b cl sl C S pc lv (.int (iI i) :: .ref (ad b k) :: st) := by
  subst e
  exact y_aald 4 hB (kd_rng hk (by decide)) (wM_at hk) (by decide) hi (by decide) d (by show YM x G b cl sl C S (pc + 1) lv (.ref (ad b (k + 1 + 84 * (i.toNat : Int))) :: st); rw [Int.toNat_of_nonneg hi.1]; exact kk)
theorem ald_11 (hB : Bx x G b own cc nL ret rm nm) (hk : kd k = 11) {i : Int} (hi : 0 ≤ i ∧ i < 15) {t1 : Int} (e : k + 1 + 4 * i = t1) (d : decode cc pc = .ok (.aaload, 1)) (kk : YM x G b cl sl C S (pc + 1) lv (.ref (ad b t1) :: st)) : YM x G b cl sl C S pc lv (.int (iI i) :: .ref (ad b k) :: st) := by
  subst e
  exact y_aald 3 hB (kd_rng hk (by decide)) (wM_at hk) (by decide) hi (by decide) d (by show YM x G b cl sl C S (pc + 1) lv (.ref (ad b (k + 1 + 4 * (i.toNat : Int))) :: st); rw [Int.toNat_of_nonneg hi.1]; exact kk)
end
end
section
/-! contracts and calls over the two memories -/
abbrev gM : Type := Int → Int → Int
def RI (G : gG) (b : Nat) (C S : gM) (Q : Int → Prop) : gP := fun r n w => ∃ v : Int, r = some (.int (iI v)) ∧ n = 586 ∧ w = wM G b C S ∧ Q v
def RF (G : gG) (b : Nat) (C S : gM) (Q : UInt32 → Prop) : gP := fun r n w => ∃ v : UInt32, r = some (.float v) ∧ n = 586 ∧ w = wM G b C S ∧ Q v
def RR (G : gG) (b : Nat) (C S : gM) (v : Value) : gP := fun r n w => r = some v ∧ n = 586 ∧ w = wM G b C S
def WI (G : gG) (b : Nat) (S : gM) (Q : Int → gM → Prop) : gP := fun r n w => ∃ (v : Int) (C' : gM), r = some (.int (iI v)) ∧ n = 586 ∧ w = wM G b C' S ∧ Q v C'
def WV (G : gG) (b : Nat) (S : gM) (Q : gM → Prop) : gP := fun r n w => ∃ (C' : gM), r = none ∧ n = 586 ∧ w = wM G b C' S ∧ Q C'
def SI (G : gG) (b : Nat) (C : gM) (Q : Int → gM → Prop) : gP := fun r n w => ∃ (v : Int) (S' : gM), r = some (.int (iI v)) ∧ n = 586 ∧ w = wM G b C S' ∧ Q v S'
def SV (G : gG) (b : Nat) (C : gM) (Q : gM → Prop) : gP := fun r n w => ∃ (S' : gM), r = none ∧ n = 586 ∧ w = wM G b C S' ∧ Q S'
section
variable {x : gX} {G : gG} {b cl sl nL : Nat} {own nm : String} {cc : ByteArray} {ty : FieldType} {rm : Room} {pc : Nat} {lv : List (Nat × Value)} {C S : gM}
theorem m_ri (hB : Bx x G b own cc nL (some ty) rm nm) {Q : Int → Prop} {v : Int} (hE : Ex x G b (RI G b C S Q) cl sl) (d : decode cc pc = .ok (.ireturn, 1)) (hn : narrow ty (.int (iI v)) = .int (iI v)) (hq : Q v) : YM x G b cl sl C S pc lv [.int (iI v)] := y_iret hB hE d hn ⟨v, rfl, rfl, rfl, hq⟩
theorem m_rf (hB : Bx x G b own cc nL (some .float) rm nm) {Q : UInt32 → Prop} {v : UInt32} (hE : Ex x G b (RF G b C S Q) cl sl) (d : decode cc pc = .ok (.freturn, 1)) (hq : Q v) : YM x G b cl sl C S pc lv [.float v] := y_fret hB hE d ⟨v, rfl, rfl, rfl, hq⟩
theorem m_rr {Cn : String} (hB : Bx x G b own cc nL (some (.object Cn)) rm nm) {v : Value} (hE : Ex x G b (RR G b C S v) cl sl) (d : decode cc pc = .ok (.areturn, 1)) (hv : v = .null ∨ ∃ a, v = .ref a) : YM x G b cl sl C S pc lv [v] := y_aret hB hE d hv ⟨rfl, rfl, rfl⟩
theorem m_wi (hB : Bx x G b own cc nL (some ty) rm nm) {Q : Int → gM → Prop} {v : Int} (hE : Ex x G b (WI G b S Q) cl sl) (d : decode cc pc = .ok (.ireturn, 1)) (hn : narrow ty (.int (iI v)) = .int (iI v)) (hq : Q v C) : YM x G b cl sl C S pc lv [.int (iI v)] := y_iret hB hE d hn ⟨v, C, rfl, rfl, rfl, hq⟩
theorem m_wv (hB : Bx x G b own cc nL none rm nm) {Q : gM → Prop} (hE : Ex x G b (WV G b S Q) cl sl) (d : decode cc pc = .ok (.return_, 1)) (hq : Q C) : YM x G b cl sl C S pc lv [] := y_vret hB hE d ⟨C, rfl, rfl, rfl, hq⟩
theorem m_si (hB : Bx x G b own cc nL (some ty) rm nm) {Q : Int → gM → Prop} {v : Int} (hE : Ex x G b (SI G b C Q) cl sl) (d : decode cc pc = .ok (.ireturn, 1)) (hn : narrow ty (.int (iI v)) = .int (iI v)) (hq : Q v S) : YM x G b cl sl C S pc lv [.int (iI v)] := y_iret hB hE d hn ⟨v, S, rfl, rfl, rfl, hq⟩
theorem m_sv (hB : Bx x G b own cc nL none rm nm) {Q : gM → Prop} (hE : Ex x G b (SV G b C Q) cl sl) (d : decode cc pc = .ok (.return_, 1)) (hq : Q S) : YM x G b cl sl C S pc lv [] := y_vret hB hE d ⟨S, rfl, rfl, rfl, hq⟩
end
section
variable {x : gX} {G : gG} {b cl sl nL : Nat} {own nm : String} {cc : ByteArray} {ret : Option FieldType} {rm : Room} {C S : gM} {pc : Nat} {lv : List (Nat × Value)} {st stk : List Value}
variable {y : MethodName} {cc' : ByteArray} {nL' na index : Nat} {ret' : Option FieldType} {rm' : Room} {av : List Value} {Po : gP}
/-- the three kinds of calls, of methods that make nothing -/
theorem m_V (hB : Bx x G b own cc nL ret rm nm) (hM : Ms y cc' nL' ret' na) (q1 : (.methodLink own index y : Cond) ∈ lw_g) {k : Int} {As : List Value} (hC : Ct x.1.2.1 G b y cc' nL' ret' rm' (.ref (ad b k) :: As) 586 (wM G b C S) Po)
    {t ci : Nat} {fs : List Value} {qq : vw_C} (hk : kd k = t) (ht : t ≠ 99) (hw : wS G b t k (C k) (S k) = .inr (ci, fs)) (hc : vwCl[ci]? = some qq) (hcn : qq.1 = y.cls) (hn : As.length = na) (hst : stk = As.reverse ++ .ref (ad b k) :: st) (hR0 : rm'.frames + 1 ≤ rm.frames ∧ 8 + (nL' + 11) + rm'.locals ≤ rm.locals) (hrs : (st.map fun v => v.category).sum ≤ 8) (hz : rm'.cells = 0 ∧ rm'.slots = 0) (hcl : cl ≤ rm.cells ∧ sl ≤ rm.slots) (d : decode cc pc = .ok (.invokevirtual index, 3))
    (kk : ∀ (r : Option Value) (n' : Int) (w' : Int → va_E), Po r n' w' → Y x G b cl sl n' w' (pc + 3) lv (r.toList ++ st)) : YM x G b cl sl C S pc lv stk := by
  obtain ⟨z1, z2⟩ := hz
  exact y_callVK hB hM q1 hC (fun _ _ _ _ h => h) (fun _ _ _ _ _ _ => trivial) (kd_rng hk ht) ((wM_at hk).trans hw) hc hcn hn hst hR0 hrs (by rw [z1, z2]; exact hcl) d (by rw [z1, z2]; exact kk)
theorem m_S (hB : Bx x G b own cc nL ret rm nm) (hM : Mt y cc' nL' ret' na) (q1 : (.methodLink own index y : Cond) ∈ lw_g) {As : List Value} (hC : Ct x.1.2.1 G b y cc' nL' ret' rm' As 586 (wM G b C S) Po)
    (hn : As.length = na) (hst : stk = As.reverse ++ st) (hR0 : rm'.frames + 1 ≤ rm.frames ∧ 8 + (nL' + 11) + rm'.locals ≤ rm.locals) (hrs : (st.map fun v => v.category).sum ≤ 8) (hz : rm'.cells = 0 ∧ rm'.slots = 0) (hcl : cl ≤ rm.cells ∧ sl ≤ rm.slots) (d : decode cc pc = .ok (.invokestatic index, 3))
    (kk : ∀ (r : Option Value) (n' : Int) (w' : Int → va_E), Po r n' w' → Y x G b cl sl n' w' (pc + 3) lv (r.toList ++ st)) : YM x G b cl sl C S pc lv stk := by
  obtain ⟨z1, z2⟩ := hz
  exact y_callSK hB hM q1 hC (fun _ _ _ _ h => h) (fun _ _ _ _ _ _ => trivial) hn hst hR0 hrs (by rw [z1, z2]; exact hcl) d (by rw [z1, z2]; exact kk)
theorem m_N (hB : Bx x G b own cc nL ret rm nm) (hM : Mt y cc' nL' ret' na) {host : String} (q1 : (.methodLinkNest own index y host : Cond) ∈ nestW) {As : List Value} (hC : Ct x.1.2.1 G b y cc' nL' ret' rm' As 586 (wM G b C S) Po)
    (hn : As.length = na) (hst : stk = As.reverse ++ st) (hR0 : rm'.frames + 1 ≤ rm.frames ∧ 8 + (nL' + 11) + rm'.locals ≤ rm.locals) (hrs : (st.map fun v => v.category).sum ≤ 8) (hz : rm'.cells = 0 ∧ rm'.slots = 0) (hcl : cl ≤ rm.cells ∧ sl ≤ rm.slots) (d : decode cc pc = .ok (.invokestatic index, 3))
    (kk : ∀ (r : Option Value) (n' : Int) (w' : Int → va_E), Po r n' w' → Y x G b cl sl n' w' (pc + 3) lv (r.toList ++ st)) : YM x G b cl sl C S pc lv stk := by
  obtain ⟨z1, z2⟩ := hz
  exact y_callSNK hB hM q1 hC (fun _ _ _ _ h => h) (fun _ _ _ _ _ _ => trivial) hn hst hR0 hrs (by rw [z1, z2]; exact hcl) d (by rw [z1, z2]; exact kk)
variable {cl sl : Nat} {x : gX} {pc : Nat} {lv : List (Nat × Value)} {st : List Value}
/-- what comes back, by the kind of the contract -/
theorem k_RI {Q : Int → Prop} (kk : ∀ v : Int, Q v → YM x G b cl sl C S pc lv (.int (iI v) :: st)) : ∀ (r : Option Value) (n' : Int) (w' : Int → va_E), RI G b C S Q r n' w' → Y x G b cl sl n' w' pc lv (r.toList ++ st) := by
  rintro r n' w' ⟨v, rfl, rfl, rfl, hq⟩
  exact kk v hq
theorem k_RF {Q : UInt32 → Prop} (kk : ∀ v : UInt32, Q v → YM x G b cl sl C S pc lv (.float v :: st)) : ∀ (r : Option Value) (n' : Int) (w' : Int → va_E), RF G b C S Q r n' w' → Y x G b cl sl n' w' pc lv (r.toList ++ st) := by
  rintro r n' w' ⟨v, rfl, rfl, rfl, hq⟩
  exact kk v hq
theorem k_RR {v : Value} (kk : YM x G b cl sl C S pc lv (v :: st)) : ∀ (r : Option Value) (n' : Int) (w' : Int → va_E), RR G b C S v r n' w' → Y x G b cl sl n' w' pc lv (r.toList ++ st) := by
  rintro r n' w' ⟨rfl, rfl, rfl⟩
  exact kk
theorem k_WI {Q : Int → gM → Prop} (kk : ∀ (v : Int) (C' : gM), Q v C' → YM x G b cl sl C' S pc lv (.int (iI v) :: st)) : ∀ (r : Option Value) (n' : Int) (w' : Int → va_E), WI G b S Q r n' w' → Y x G b cl sl n' w' pc lv (r.toList ++ st) := by
  rintro r n' w' ⟨v, C', rfl, rfl, rfl, hq⟩
  exact kk v C' hq
theorem k_WV {Q : gM → Prop} (kk : ∀ (C' : gM), Q C' → YM x G b cl sl C' S pc lv st) : ∀ (r : Option Value) (n' : Int) (w' : Int → va_E), WV G b S Q r n' w' → Y x G b cl sl n' w' pc lv (r.toList ++ st) := by
  rintro r n' w' ⟨C', rfl, rfl, rfl, hq⟩
  exact kk C' hq
theorem k_SI {Q : Int → gM → Prop} (kk : ∀ (v : Int) (S' : gM), Q v S' → YM x G b cl sl C S' pc lv (.int (iI v) :: st)) : ∀ (r : Option Value) (n' : Int) (w' : Int → va_E), SI G b C Q r n' w' → Y x G b cl sl n' w' pc lv (r.toList ++ st) := by
  rintro r n' w' ⟨v, S', rfl, rfl, rfl, hq⟩
  exact kk v S' hq
theorem k_SV {Q : gM → Prop} (kk : ∀ (S' : gM), Q S' → YM x G b cl sl C S' pc lv st) : ∀ (r : Option Value) (n' : Int) (w' : Int → va_E), SV G b C Q r n' w' → Y x G b cl sl n' w' pc lv (r.toList ++ st) := by
  rintro r n' w' ⟨S', rfl, rfl, rfl, hq⟩
  exact kk S' hq
end
def isLife (q : Int) : Prop := kd q = 5 ∧ kd (q + 1) = 6 ∧ kd (q + 2) = 6 ∧ kd (q + 3) = 6 ∧ 0 ≤ q
def isDesk (o : Int) : Prop := kd o = 1 ∧ kd (o + 1) = 2 ∧ kd (o + 2) = 3 ∧ kd (o + 3) = 4 ∧ 0 ≤ o ∧ ∀ i : Int, 0 ≤ i ∧ i < 20 → isLife (o + 4 + 4 * i)
theorem co_all {P : Int → Prop} [DecidablePred P] (m : Nat) (h : (List.range m).all (fun i => decide (P (i : Int))) = true) {i : Int} (hi : 0 ≤ i ∧ i < m) : P i := by
  have h1 := List.all_eq_true.mp h i.toNat (List.mem_range.mpr (by omega))
  have h2 := of_decide_eq_true h1
  rwa [Int.toNat_of_nonneg hi.1] at h2
theorem desk_1 : isDesk 1 := ⟨by decide, by decide, by decide, by decide, by decide, fun i hi => co_all (P := fun i => kd (1 + 4 + 4 * i) = 5 ∧ kd (1 + 4 + 4 * i + 1) = 6 ∧ kd (1 + 4 + 4 * i + 2) = 6 ∧ kd (1 + 4 + 4 * i + 3) = 6 ∧ 0 ≤ 1 + 4 + 4 * i) 20 (by decide +kernel) hi⟩
theorem desk_85 : isDesk 85 := ⟨by decide, by decide, by decide, by decide, by decide, fun i hi => co_all (P := fun i => kd (85 + 4 + 4 * i) = 5 ∧ kd (85 + 4 + 4 * i + 1) = 6 ∧ kd (85 + 4 + 4 * i + 2) = 6 ∧ kd (85 + 4 + 4 * i + 3) = 6 ∧ 0 ≤ 85 + 4 + 4 * i) 20 (by decide +kernel) hi⟩
theorem desk_h0 : isDesk 171 := ⟨by decide, by decide, by decide, by decide, by decide, fun i hi => co_all (P := fun i => kd (171 + 4 + 4 * i) = 5 ∧ kd (171 + 4 + 4 * i + 1) = 6 ∧ kd (171 + 4 + 4 * i + 2) = 6 ∧ kd (171 + 4 + 4 * i + 3) = 6 ∧ 0 ≤ 171 + 4 + 4 * i) 20 (by decide +kernel) hi⟩
theorem desk_h1 : isDesk 255 := ⟨by decide, by decide, by decide, by decide, by decide, fun i hi => co_all (P := fun i => kd (255 + 4 + 4 * i) = 5 ∧ kd (255 + 4 + 4 * i + 1) = 6 ∧ kd (255 + 4 + 4 * i + 2) = 6 ∧ kd (255 + 4 + 4 * i + 3) = 6 ∧ 0 ≤ 255 + 4 + 4 * i) 20 (by decide +kernel) hi⟩
theorem desk_h2 : isDesk 339 := ⟨by decide, by decide, by decide, by decide, by decide, fun i hi => co_all (P := fun i => kd (339 + 4 + 4 * i) = 5 ∧ kd (339 + 4 + 4 * i + 1) = 6 ∧ kd (339 + 4 + 4 * i + 2) = 6 ∧ kd (339 + 4 + 4 * i + 3) = 6 ∧ 0 ≤ 339 + 4 + 4 * i) 20 (by decide +kernel) hi⟩
theorem desk_h3 : isDesk 423 := ⟨by decide, by decide, by decide, by decide, by decide, fun i hi => co_all (P := fun i => kd (423 + 4 + 4 * i) = 5 ∧ kd (423 + 4 + 4 * i + 1) = 6 ∧ kd (423 + 4 + 4 * i + 2) = 6 ∧ kd (423 + 4 + 4 * i + 3) = 6 ∧ 0 ≤ 423 + 4 + 4 * i) 20 (by decide +kernel) hi⟩
theorem desk_h {t : Int} (h : 0 ≤ t ∧ t < 4) : isDesk (170 + 1 + 84 * t) := by
  rcases (show t = 0 ∨ t = 1 ∨ t = 2 ∨ t = 3 by omega) with rfl | rfl | rfl | rfl
  · exact desk_h0
  · exact desk_h1
  · exact desk_h2
  · exact desk_h3
theorem life_t {i : Int} (h : 0 ≤ i ∧ i < 15) : isLife (509 + 1 + 4 * i) := co_all (P := fun i => kd (509 + 1 + 4 * i) = 5 ∧ kd (509 + 1 + 4 * i + 1) = 6 ∧ kd (509 + 1 + 4 * i + 2) = 6 ∧ kd (509 + 1 + 4 * i + 3) = 6 ∧ 0 ≤ 509 + 1 + 4 * i) 15 (by decide +kernel) h
end
section
theorem dX0_init_0 : decode cX0_init 0 = .ok (.aload_n 0, 1) := by decide +kernel
theorem dX0_init_1 : decode cX0_init 1 = .ok (.invokespecial 3, 3) := by decide +kernel
theorem dX0_init_4 : decode cX0_init 4 = .ok (.aload_n 0, 1) := by decide +kernel
theorem dX0_init_5 : decode cX0_init 5 = .ok (.iconst 5, 1) := by decide +kernel
theorem dX0_init_6 : decode cX0_init 6 = .ok (.newarray .int, 2) := by decide +kernel
theorem dX0_init_8 : decode cX0_init 8 = .ok (.dup, 1) := by decide +kernel
theorem dX0_init_9 : decode cX0_init 9 = .ok (.iconst 0, 1) := by decide +kernel
theorem dX0_init_10 : decode cX0_init 10 = .ok (.bipush 8, 2) := by decide +kernel
theorem dX0_init_12 : decode cX0_init 12 = .ok (.iastore, 1) := by decide +kernel
theorem dX0_init_13 : decode cX0_init 13 = .ok (.dup, 1) := by decide +kernel
theorem dX0_init_14 : decode cX0_init 14 = .ok (.iconst 1, 1) := by decide +kernel
theorem dX0_init_15 : decode cX0_init 15 = .ok (.bipush 40, 2) := by decide +kernel
theorem dX0_init_17 : decode cX0_init 17 = .ok (.iastore, 1) := by decide +kernel
theorem dX0_init_18 : decode cX0_init 18 = .ok (.dup, 1) := by decide +kernel
theorem dX0_init_19 : decode cX0_init 19 = .ok (.iconst 2, 1) := by decide +kernel
theorem dX0_init_20 : decode cX0_init 20 = .ok (.bipush 30, 2) := by decide +kernel
theorem dX0_init_22 : decode cX0_init 22 = .ok (.iastore, 1) := by decide +kernel
theorem dX0_init_23 : decode cX0_init 23 = .ok (.dup, 1) := by decide +kernel
theorem dX0_init_24 : decode cX0_init 24 = .ok (.iconst 3, 1) := by decide +kernel
theorem dX0_init_25 : decode cX0_init 25 = .ok (.iconst 2, 1) := by decide +kernel
theorem dX0_init_26 : decode cX0_init 26 = .ok (.iastore, 1) := by decide +kernel
theorem dX0_init_27 : decode cX0_init 27 = .ok (.dup, 1) := by decide +kernel
theorem dX0_init_28 : decode cX0_init 28 = .ok (.iconst 4, 1) := by decide +kernel
theorem dX0_init_29 : decode cX0_init 29 = .ok (.iconst 3, 1) := by decide +kernel
theorem dX0_init_30 : decode cX0_init 30 = .ok (.iastore, 1) := by decide +kernel
theorem dX0_init_31 : decode cX0_init 31 = .ok (.putfield 9, 3) := by decide +kernel
theorem dX0_init_34 : decode cX0_init 34 = .ok (.aload_n 0, 1) := by decide +kernel
theorem dX0_init_35 : decode cX0_init 35 = .ok (.bipush 6, 2) := by decide +kernel
theorem dX0_init_37 : decode cX0_init 37 = .ok (.newarray .int, 2) := by decide +kernel
theorem dX0_init_39 : decode cX0_init 39 = .ok (.dup, 1) := by decide +kernel
theorem dX0_init_40 : decode cX0_init 40 = .ok (.iconst 0, 1) := by decide +kernel
theorem dX0_init_41 : decode cX0_init 41 = .ok (.bipush 50, 2) := by decide +kernel
theorem dX0_init_43 : decode cX0_init 43 = .ok (.iastore, 1) := by decide +kernel
theorem dX0_init_44 : decode cX0_init 44 = .ok (.dup, 1) := by decide +kernel
theorem dX0_init_45 : decode cX0_init 45 = .ok (.iconst 1, 1) := by decide +kernel
theorem dX0_init_46 : decode cX0_init 46 = .ok (.bipush 50, 2) := by decide +kernel
theorem dX0_init_48 : decode cX0_init 48 = .ok (.iastore, 1) := by decide +kernel
theorem dX0_init_49 : decode cX0_init 49 = .ok (.dup, 1) := by decide +kernel
theorem dX0_init_50 : decode cX0_init 50 = .ok (.iconst 2, 1) := by decide +kernel
theorem dX0_init_51 : decode cX0_init 51 = .ok (.bipush 50, 2) := by decide +kernel
theorem dX0_init_53 : decode cX0_init 53 = .ok (.iastore, 1) := by decide +kernel
theorem dX0_init_54 : decode cX0_init 54 = .ok (.dup, 1) := by decide +kernel
theorem dX0_init_55 : decode cX0_init 55 = .ok (.iconst 3, 1) := by decide +kernel
theorem dX0_init_56 : decode cX0_init 56 = .ok (.bipush 50, 2) := by decide +kernel
theorem dX0_init_58 : decode cX0_init 58 = .ok (.iastore, 1) := by decide +kernel
theorem dX0_init_59 : decode cX0_init 59 = .ok (.dup, 1) := by decide +kernel
theorem dX0_init_60 : decode cX0_init 60 = .ok (.iconst 4, 1) := by decide +kernel
theorem dX0_init_61 : decode cX0_init 61 = .ok (.bipush 50, 2) := by decide +kernel
theorem dX0_init_63 : decode cX0_init 63 = .ok (.iastore, 1) := by decide +kernel
theorem dX0_init_64 : decode cX0_init 64 = .ok (.dup, 1) := by decide +kernel
theorem dX0_init_65 : decode cX0_init 65 = .ok (.iconst 5, 1) := by decide +kernel
theorem dX0_init_66 : decode cX0_init 66 = .ok (.bipush 50, 2) := by decide +kernel
theorem dX0_init_68 : decode cX0_init 68 = .ok (.iastore, 1) := by decide +kernel
theorem dX0_init_69 : decode cX0_init 69 = .ok (.putfield 15, 3) := by decide +kernel
theorem dX0_init_72 : decode cX0_init 72 = .ok (.aload_n 0, 1) := by decide +kernel
theorem dX0_init_73 : decode cX0_init 73 = .ok (.bipush 20, 2) := by decide +kernel
theorem dX0_init_75 : decode cX0_init 75 = .ok (.anewarray 18, 3) := by decide +kernel
theorem dX0_init_78 : decode cX0_init 78 = .ok (.putfield 20, 3) := by decide +kernel
theorem dX0_init_81 : decode cX0_init 81 = .ok (.iconst 0, 1) := by decide +kernel
theorem dX0_init_82 : decode cX0_init 82 = .ok (.istore_n 1, 1) := by decide +kernel
theorem dX0_init_83 : decode cX0_init 83 = .ok (.iload_n 1, 1) := by decide +kernel
theorem dX0_init_84 : decode cX0_init 84 = .ok (.bipush 20, 2) := by decide +kernel
theorem dX0_init_86 : decode cX0_init 86 = .ok (.if_icmp .ge 22, 3) := by decide +kernel
theorem dX0_init_89 : decode cX0_init 89 = .ok (.aload_n 0, 1) := by decide +kernel
theorem dX0_init_90 : decode cX0_init 90 = .ok (.getfield 20, 3) := by decide +kernel
theorem dX0_init_93 : decode cX0_init 93 = .ok (.iload_n 1, 1) := by decide +kernel
theorem dX0_init_94 : decode cX0_init 94 = .ok (.new 18, 3) := by decide +kernel
theorem dX0_init_97 : decode cX0_init 97 = .ok (.dup, 1) := by decide +kernel
theorem dX0_init_98 : decode cX0_init 98 = .ok (.invokespecial 24, 3) := by decide +kernel
theorem dX0_init_101 : decode cX0_init 101 = .ok (.aastore, 1) := by decide +kernel
theorem dX0_init_102 : decode cX0_init 102 = .ok (.iinc 1 1, 3) := by decide +kernel
theorem dX0_init_105 : decode cX0_init 105 = .ok (.goto (-22), 3) := by decide +kernel
theorem dX0_init_108 : decode cX0_init 108 = .ok (.aload_n 0, 1) := by decide +kernel
theorem dX0_init_109 : decode cX0_init 109 = .ok (.aload_n 0, 1) := by decide +kernel
theorem dX0_init_110 : decode cX0_init 110 = .ok (.getfield 9, 3) := by decide +kernel
theorem dX0_init_113 : decode cX0_init 113 = .ok (.iconst 0, 1) := by decide +kernel
theorem dX0_init_114 : decode cX0_init 114 = .ok (.iaload, 1) := by decide +kernel
theorem dX0_init_115 : decode cX0_init 115 = .ok (.putfield 25, 3) := by decide +kernel
theorem dX0_init_118 : decode cX0_init 118 = .ok (.return_, 1) := by decide +kernel
theorem dX0_copyFrom_0 : decode cX0_copyFrom 0 = .ok (.aload_n 1, 1) := by decide +kernel
theorem dX0_copyFrom_1 : decode cX0_copyFrom 1 = .ok (.getfield 9, 3) := by decide +kernel
theorem dX0_copyFrom_4 : decode cX0_copyFrom 4 = .ok (.iconst 0, 1) := by decide +kernel
theorem dX0_copyFrom_5 : decode cX0_copyFrom 5 = .ok (.aload_n 0, 1) := by decide +kernel
theorem dX0_copyFrom_6 : decode cX0_copyFrom 6 = .ok (.getfield 9, 3) := by decide +kernel
theorem dX0_copyFrom_9 : decode cX0_copyFrom 9 = .ok (.iconst 0, 1) := by decide +kernel
theorem dX0_copyFrom_10 : decode cX0_copyFrom 10 = .ok (.iconst 5, 1) := by decide +kernel
theorem dX0_copyFrom_11 : decode cX0_copyFrom 11 = .ok (.invokestatic 29, 3) := by decide +kernel
theorem dX0_copyFrom_14 : decode cX0_copyFrom 14 = .ok (.aload_n 1, 1) := by decide +kernel
theorem dX0_copyFrom_15 : decode cX0_copyFrom 15 = .ok (.getfield 15, 3) := by decide +kernel
theorem dX0_copyFrom_18 : decode cX0_copyFrom 18 = .ok (.iconst 0, 1) := by decide +kernel
theorem dX0_copyFrom_19 : decode cX0_copyFrom 19 = .ok (.aload_n 0, 1) := by decide +kernel
theorem dX0_copyFrom_20 : decode cX0_copyFrom 20 = .ok (.getfield 15, 3) := by decide +kernel
theorem dX0_copyFrom_23 : decode cX0_copyFrom 23 = .ok (.iconst 0, 1) := by decide +kernel
theorem dX0_copyFrom_24 : decode cX0_copyFrom 24 = .ok (.bipush 6, 2) := by decide +kernel
theorem dX0_copyFrom_26 : decode cX0_copyFrom 26 = .ok (.invokestatic 29, 3) := by decide +kernel
theorem dX0_copyFrom_29 : decode cX0_copyFrom 29 = .ok (.aload_n 0, 1) := by decide +kernel
theorem dX0_copyFrom_30 : decode cX0_copyFrom 30 = .ok (.aload_n 1, 1) := by decide +kernel
theorem dX0_copyFrom_31 : decode cX0_copyFrom 31 = .ok (.getfield 35, 3) := by decide +kernel
theorem dX0_copyFrom_34 : decode cX0_copyFrom 34 = .ok (.putfield 35, 3) := by decide +kernel
theorem dX0_copyFrom_37 : decode cX0_copyFrom 37 = .ok (.aload_n 0, 1) := by decide +kernel
theorem dX0_copyFrom_38 : decode cX0_copyFrom 38 = .ok (.aload_n 1, 1) := by decide +kernel
theorem dX0_copyFrom_39 : decode cX0_copyFrom 39 = .ok (.getfield 38, 3) := by decide +kernel
theorem dX0_copyFrom_42 : decode cX0_copyFrom 42 = .ok (.putfield 38, 3) := by decide +kernel
theorem dX0_copyFrom_45 : decode cX0_copyFrom 45 = .ok (.aload_n 0, 1) := by decide +kernel
theorem dX0_copyFrom_46 : decode cX0_copyFrom 46 = .ok (.aload_n 1, 1) := by decide +kernel
theorem dX0_copyFrom_47 : decode cX0_copyFrom 47 = .ok (.getfield 25, 3) := by decide +kernel
theorem dX0_copyFrom_50 : decode cX0_copyFrom 50 = .ok (.putfield 25, 3) := by decide +kernel
theorem dX0_copyFrom_53 : decode cX0_copyFrom 53 = .ok (.aload_n 0, 1) := by decide +kernel
theorem dX0_copyFrom_54 : decode cX0_copyFrom 54 = .ok (.aload_n 1, 1) := by decide +kernel
theorem dX0_copyFrom_55 : decode cX0_copyFrom 55 = .ok (.getfield 41, 3) := by decide +kernel
theorem dX0_copyFrom_58 : decode cX0_copyFrom 58 = .ok (.putfield 41, 3) := by decide +kernel
theorem dX0_copyFrom_61 : decode cX0_copyFrom 61 = .ok (.iconst 0, 1) := by decide +kernel
theorem dX0_copyFrom_62 : decode cX0_copyFrom 62 = .ok (.istore_n 2, 1) := by decide +kernel
theorem dX0_copyFrom_63 : decode cX0_copyFrom 63 = .ok (.iload_n 2, 1) := by decide +kernel
theorem dX0_copyFrom_64 : decode cX0_copyFrom 64 = .ok (.aload_n 0, 1) := by decide +kernel
theorem dX0_copyFrom_65 : decode cX0_copyFrom 65 = .ok (.getfield 35, 3) := by decide +kernel
theorem dX0_copyFrom_68 : decode cX0_copyFrom 68 = .ok (.if_icmp .ge 37, 3) := by decide +kernel
theorem dX0_copyFrom_71 : decode cX0_copyFrom 71 = .ok (.aload_n 0, 1) := by decide +kernel
theorem dX0_copyFrom_72 : decode cX0_copyFrom 72 = .ok (.iload_n 2, 1) := by decide +kernel
theorem dX0_copyFrom_73 : decode cX0_copyFrom 73 = .ok (.invokevirtual 44, 3) := by decide +kernel
theorem dX0_copyFrom_76 : decode cX0_copyFrom 76 = .ok (.astore_n 3, 1) := by decide +kernel
theorem dX0_copyFrom_77 : decode cX0_copyFrom 77 = .ok (.aload_n 1, 1) := by decide +kernel
theorem dX0_copyFrom_78 : decode cX0_copyFrom 78 = .ok (.iload_n 2, 1) := by decide +kernel
theorem dX0_copyFrom_79 : decode cX0_copyFrom 79 = .ok (.invokevirtual 44, 3) := by decide +kernel
theorem dX0_copyFrom_82 : decode cX0_copyFrom 82 = .ok (.astore 4, 2) := by decide +kernel
theorem dX0_copyFrom_84 : decode cX0_copyFrom 84 = .ok (.aload_n 3, 1) := by decide +kernel
theorem dX0_copyFrom_85 : decode cX0_copyFrom 85 = .ok (.ifnull 14, 3) := by decide +kernel
theorem dX0_copyFrom_88 : decode cX0_copyFrom 88 = .ok (.aload 4, 2) := by decide +kernel
theorem dX0_copyFrom_90 : decode cX0_copyFrom 90 = .ok (.ifnull 9, 3) := by decide +kernel
theorem dX0_copyFrom_93 : decode cX0_copyFrom 93 = .ok (.aload_n 3, 1) := by decide +kernel
theorem dX0_copyFrom_94 : decode cX0_copyFrom 94 = .ok (.aload 4, 2) := by decide +kernel
theorem dX0_copyFrom_96 : decode cX0_copyFrom 96 = .ok (.invokevirtual 48, 3) := by decide +kernel
theorem dX0_copyFrom_99 : decode cX0_copyFrom 99 = .ok (.iinc 2 1, 3) := by decide +kernel
theorem dX0_copyFrom_102 : decode cX0_copyFrom 102 = .ok (.goto (-39), 3) := by decide +kernel
theorem dX0_copyFrom_105 : decode cX0_copyFrom 105 = .ok (.return_, 1) := by decide +kernel
theorem dX0_today_0 : decode cX0_today 0 = .ok (.aload_n 0, 1) := by decide +kernel
theorem dX0_today_1 : decode cX0_today 1 = .ok (.getfield 38, 3) := by decide +kernel
theorem dX0_today_4 : decode cX0_today 4 = .ok (.ireturn, 1) := by decide +kernel
theorem dX0_hoursLeft_0 : decode cX0_hoursLeft 0 = .ok (.aload_n 0, 1) := by decide +kernel
theorem dX0_hoursLeft_1 : decode cX0_hoursLeft 1 = .ok (.getfield 25, 3) := by decide +kernel
theorem dX0_hoursLeft_4 : decode cX0_hoursLeft 4 = .ok (.ireturn, 1) := by decide +kernel
theorem dX0_persons_0 : decode cX0_persons 0 = .ok (.aload_n 0, 1) := by decide +kernel
theorem dX0_persons_1 : decode cX0_persons 1 = .ok (.getfield 35, 3) := by decide +kernel
theorem dX0_persons_4 : decode cX0_persons 4 = .ok (.ireturn, 1) := by decide +kernel
theorem dX0_corrections_0 : decode cX0_corrections 0 = .ok (.aload_n 0, 1) := by decide +kernel
theorem dX0_corrections_1 : decode cX0_corrections 1 = .ok (.getfield 41, 3) := by decide +kernel
theorem dX0_corrections_4 : decode cX0_corrections 4 = .ok (.ireturn, 1) := by decide +kernel
theorem dX0_roomForPersons_0 : decode cX0_roomForPersons 0 = .ok (.bipush 20, 2) := by decide +kernel
theorem dX0_roomForPersons_2 : decode cX0_roomForPersons 2 = .ok (.aload_n 0, 1) := by decide +kernel
theorem dX0_roomForPersons_3 : decode cX0_roomForPersons 3 = .ok (.getfield 35, 3) := by decide +kernel
theorem dX0_roomForPersons_6 : decode cX0_roomForPersons 6 = .ok (.isub, 1) := by decide +kernel
theorem dX0_roomForPersons_7 : decode cX0_roomForPersons 7 = .ok (.ireturn, 1) := by decide +kernel
theorem dX0_lifeOf_0 : decode cX0_lifeOf 0 = .ok (.iload_n 1, 1) := by decide +kernel
theorem dX0_lifeOf_1 : decode cX0_lifeOf 1 = .ok (.ifCond .lt 17, 3) := by decide +kernel
theorem dX0_lifeOf_4 : decode cX0_lifeOf 4 = .ok (.iload_n 1, 1) := by decide +kernel
theorem dX0_lifeOf_5 : decode cX0_lifeOf 5 = .ok (.aload_n 0, 1) := by decide +kernel
theorem dX0_lifeOf_6 : decode cX0_lifeOf 6 = .ok (.getfield 35, 3) := by decide +kernel
theorem dX0_lifeOf_9 : decode cX0_lifeOf 9 = .ok (.if_icmp .ge 9, 3) := by decide +kernel
theorem dX0_lifeOf_12 : decode cX0_lifeOf 12 = .ok (.iload_n 1, 1) := by decide +kernel
theorem dX0_lifeOf_13 : decode cX0_lifeOf 13 = .ok (.bipush 20, 2) := by decide +kernel
theorem dX0_lifeOf_15 : decode cX0_lifeOf 15 = .ok (.if_icmp .lt 5, 3) := by decide +kernel
theorem dX0_lifeOf_18 : decode cX0_lifeOf 18 = .ok (.aconst_null, 1) := by decide +kernel
theorem dX0_lifeOf_19 : decode cX0_lifeOf 19 = .ok (.areturn, 1) := by decide +kernel
theorem dX0_lifeOf_20 : decode cX0_lifeOf 20 = .ok (.aload_n 0, 1) := by decide +kernel
theorem dX0_lifeOf_21 : decode cX0_lifeOf 21 = .ok (.getfield 20, 3) := by decide +kernel
theorem dX0_lifeOf_24 : decode cX0_lifeOf 24 = .ok (.iload_n 1, 1) := by decide +kernel
theorem dX0_lifeOf_25 : decode cX0_lifeOf 25 = .ok (.aaload, 1) := by decide +kernel
theorem dX0_lifeOf_26 : decode cX0_lifeOf 26 = .ok (.areturn, 1) := by decide +kernel
theorem dX0_join_0 : decode cX0_join 0 = .ok (.aload_n 0, 1) := by decide +kernel
theorem dX0_join_1 : decode cX0_join 1 = .ok (.invokevirtual 52, 3) := by decide +kernel
theorem dX0_join_4 : decode cX0_join 4 = .ok (.iconst 1, 1) := by decide +kernel
theorem dX0_join_5 : decode cX0_join 5 = .ok (.if_icmp .ge 6, 3) := by decide +kernel
theorem dX0_join_8 : decode cX0_join 8 = .ok (.bipush (-3), 2) := by decide +kernel
theorem dX0_join_10 : decode cX0_join 10 = .ok (.ireturn, 1) := by decide +kernel
theorem dX0_join_11 : decode cX0_join 11 = .ok (.aload_n 0, 1) := by decide +kernel
theorem dX0_join_12 : decode cX0_join 12 = .ok (.dup, 1) := by decide +kernel
theorem dX0_join_13 : decode cX0_join 13 = .ok (.getfield 35, 3) := by decide +kernel
theorem dX0_join_16 : decode cX0_join 16 = .ok (.iconst 1, 1) := by decide +kernel
theorem dX0_join_17 : decode cX0_join 17 = .ok (.iadd, 1) := by decide +kernel
theorem dX0_join_18 : decode cX0_join 18 = .ok (.putfield 35, 3) := by decide +kernel
theorem dX0_join_21 : decode cX0_join 21 = .ok (.aload_n 0, 1) := by decide +kernel
theorem dX0_join_22 : decode cX0_join 22 = .ok (.aload_n 0, 1) := by decide +kernel
theorem dX0_join_23 : decode cX0_join 23 = .ok (.getfield 35, 3) := by decide +kernel
theorem dX0_join_26 : decode cX0_join 26 = .ok (.iconst 1, 1) := by decide +kernel
theorem dX0_join_27 : decode cX0_join 27 = .ok (.isub, 1) := by decide +kernel
theorem dX0_join_28 : decode cX0_join 28 = .ok (.invokevirtual 44, 3) := by decide +kernel
theorem dX0_join_31 : decode cX0_join 31 = .ok (.astore_n 3, 1) := by decide +kernel
theorem dX0_join_32 : decode cX0_join 32 = .ok (.aload_n 3, 1) := by decide +kernel
theorem dX0_join_33 : decode cX0_join 33 = .ok (.ifnull 9, 3) := by decide +kernel
theorem dX0_join_36 : decode cX0_join 36 = .ok (.aload_n 3, 1) := by decide +kernel
theorem dX0_join_37 : decode cX0_join 37 = .ok (.iload_n 1, 1) := by decide +kernel
theorem dX0_join_38 : decode cX0_join 38 = .ok (.iload_n 2, 1) := by decide +kernel
theorem dX0_join_39 : decode cX0_join 39 = .ok (.invokevirtual 56, 3) := by decide +kernel
theorem dX0_join_42 : decode cX0_join 42 = .ok (.aload_n 0, 1) := by decide +kernel
theorem dX0_join_43 : decode cX0_join 43 = .ok (.getfield 35, 3) := by decide +kernel
theorem dX0_join_46 : decode cX0_join 46 = .ok (.iconst 1, 1) := by decide +kernel
theorem dX0_join_47 : decode cX0_join 47 = .ok (.isub, 1) := by decide +kernel
theorem dX0_join_48 : decode cX0_join 48 = .ok (.ireturn, 1) := by decide +kernel
theorem dX0_joinLike_0 : decode cX0_joinLike 0 = .ok (.aload_n 1, 1) := by decide +kernel
theorem dX0_joinLike_1 : decode cX0_joinLike 1 = .ok (.ifnonnull 4, 3) := by decide +kernel
theorem dX0_joinLike_4 : decode cX0_joinLike 4 = .ok (.return_, 1) := by decide +kernel
theorem dX0_joinLike_5 : decode cX0_joinLike 5 = .ok (.aload_n 0, 1) := by decide +kernel
theorem dX0_joinLike_6 : decode cX0_joinLike 6 = .ok (.aload_n 0, 1) := by decide +kernel
theorem dX0_joinLike_7 : decode cX0_joinLike 7 = .ok (.aload_n 1, 1) := by decide +kernel
theorem dX0_joinLike_8 : decode cX0_joinLike 8 = .ok (.invokevirtual 60, 3) := by decide +kernel
theorem dX0_joinLike_11 : decode cX0_joinLike 11 = .ok (.aload_n 1, 1) := by decide +kernel
theorem dX0_joinLike_12 : decode cX0_joinLike 12 = .ok (.invokevirtual 63, 3) := by decide +kernel
theorem dX0_joinLike_15 : decode cX0_joinLike 15 = .ok (.invokevirtual 66, 3) := by decide +kernel
theorem dX0_joinLike_18 : decode cX0_joinLike 18 = .ok (.invokevirtual 44, 3) := by decide +kernel
theorem dX0_joinLike_21 : decode cX0_joinLike 21 = .ok (.astore_n 2, 1) := by decide +kernel
theorem dX0_joinLike_22 : decode cX0_joinLike 22 = .ok (.aload_n 2, 1) := by decide +kernel
theorem dX0_joinLike_23 : decode cX0_joinLike 23 = .ok (.ifnull 8, 3) := by decide +kernel
theorem dX0_joinLike_26 : decode cX0_joinLike 26 = .ok (.aload_n 2, 1) := by decide +kernel
theorem dX0_joinLike_27 : decode cX0_joinLike 27 = .ok (.aload_n 1, 1) := by decide +kernel
theorem dX0_joinLike_28 : decode cX0_joinLike 28 = .ok (.invokevirtual 48, 3) := by decide +kernel
theorem dX0_joinLike_31 : decode cX0_joinLike 31 = .ok (.return_, 1) := by decide +kernel
theorem dX0_spendHours_0 : decode cX0_spendHours 0 = .ok (.aload_n 0, 1) := by decide +kernel
theorem dX0_spendHours_1 : decode cX0_spendHours 1 = .ok (.dup, 1) := by decide +kernel
theorem dX0_spendHours_2 : decode cX0_spendHours 2 = .ok (.getfield 25, 3) := by decide +kernel
theorem dX0_spendHours_5 : decode cX0_spendHours 5 = .ok (.iload_n 1, 1) := by decide +kernel
theorem dX0_spendHours_6 : decode cX0_spendHours 6 = .ok (.isub, 1) := by decide +kernel
theorem dX0_spendHours_7 : decode cX0_spendHours 7 = .ok (.putfield 25, 3) := by decide +kernel
theorem dX0_spendHours_10 : decode cX0_spendHours 10 = .ok (.return_, 1) := by decide +kernel
theorem dX0_setting_0 : decode cX0_setting 0 = .ok (.iload_n 1, 1) := by decide +kernel
theorem dX0_setting_1 : decode cX0_setting 1 = .ok (.invokestatic 70, 3) := by decide +kernel
theorem dX0_setting_4 : decode cX0_setting 4 = .ok (.ifCond .eq 12, 3) := by decide +kernel
theorem dX0_setting_7 : decode cX0_setting 7 = .ok (.aload_n 0, 1) := by decide +kernel
theorem dX0_setting_8 : decode cX0_setting 8 = .ok (.getfield 9, 3) := by decide +kernel
theorem dX0_setting_11 : decode cX0_setting 11 = .ok (.iload_n 1, 1) := by decide +kernel
theorem dX0_setting_12 : decode cX0_setting 12 = .ok (.iaload, 1) := by decide +kernel
theorem dX0_setting_13 : decode cX0_setting 13 = .ok (.goto 5, 3) := by decide +kernel
theorem dX0_setting_16 : decode cX0_setting 16 = .ok (.bipush (-2), 2) := by decide +kernel
theorem dX0_setting_18 : decode cX0_setting 18 = .ok (.ireturn, 1) := by decide +kernel
theorem dX0_changeSetting_0 : decode cX0_changeSetting 0 = .ok (.iload_n 1, 1) := by decide +kernel
theorem dX0_changeSetting_1 : decode cX0_changeSetting 1 = .ok (.invokestatic 70, 3) := by decide +kernel
theorem dX0_changeSetting_4 : decode cX0_changeSetting 4 = .ok (.ifCond .eq 10, 3) := by decide +kernel
theorem dX0_changeSetting_7 : decode cX0_changeSetting 7 = .ok (.aload_n 0, 1) := by decide +kernel
theorem dX0_changeSetting_8 : decode cX0_changeSetting 8 = .ok (.getfield 9, 3) := by decide +kernel
theorem dX0_changeSetting_11 : decode cX0_changeSetting 11 = .ok (.iload_n 1, 1) := by decide +kernel
theorem dX0_changeSetting_12 : decode cX0_changeSetting 12 = .ok (.iload_n 2, 1) := by decide +kernel
theorem dX0_changeSetting_13 : decode cX0_changeSetting 13 = .ok (.iastore, 1) := by decide +kernel
theorem dX0_changeSetting_14 : decode cX0_changeSetting 14 = .ok (.return_, 1) := by decide +kernel
theorem dX0_trustOf_0 : decode cX0_trustOf 0 = .ok (.iload_n 1, 1) := by decide +kernel
theorem dX0_trustOf_1 : decode cX0_trustOf 1 = .ok (.invokestatic 74, 3) := by decide +kernel
theorem dX0_trustOf_4 : decode cX0_trustOf 4 = .ok (.ifCond .eq 12, 3) := by decide +kernel
theorem dX0_trustOf_7 : decode cX0_trustOf 7 = .ok (.aload_n 0, 1) := by decide +kernel
theorem dX0_trustOf_8 : decode cX0_trustOf 8 = .ok (.getfield 15, 3) := by decide +kernel
theorem dX0_trustOf_11 : decode cX0_trustOf 11 = .ok (.iload_n 1, 1) := by decide +kernel
theorem dX0_trustOf_12 : decode cX0_trustOf 12 = .ok (.iaload, 1) := by decide +kernel
theorem dX0_trustOf_13 : decode cX0_trustOf 13 = .ok (.goto 4, 3) := by decide +kernel
theorem dX0_trustOf_16 : decode cX0_trustOf 16 = .ok (.iconst 0, 1) := by decide +kernel
theorem dX0_trustOf_17 : decode cX0_trustOf 17 = .ok (.ireturn, 1) := by decide +kernel
theorem dX0_changeTrust_0 : decode cX0_changeTrust 0 = .ok (.iload_n 1, 1) := by decide +kernel
theorem dX0_changeTrust_1 : decode cX0_changeTrust 1 = .ok (.invokestatic 74, 3) := by decide +kernel
theorem dX0_changeTrust_4 : decode cX0_changeTrust 4 = .ok (.ifCond .eq 10, 3) := by decide +kernel
theorem dX0_changeTrust_7 : decode cX0_changeTrust 7 = .ok (.aload_n 0, 1) := by decide +kernel
theorem dX0_changeTrust_8 : decode cX0_changeTrust 8 = .ok (.getfield 15, 3) := by decide +kernel
theorem dX0_changeTrust_11 : decode cX0_changeTrust 11 = .ok (.iload_n 1, 1) := by decide +kernel
theorem dX0_changeTrust_12 : decode cX0_changeTrust 12 = .ok (.iload_n 2, 1) := by decide +kernel
theorem dX0_changeTrust_13 : decode cX0_changeTrust 13 = .ok (.iastore, 1) := by decide +kernel
theorem dX0_changeTrust_14 : decode cX0_changeTrust 14 = .ok (.return_, 1) := by decide +kernel
theorem dX0_countCorrection_0 : decode cX0_countCorrection 0 = .ok (.aload_n 0, 1) := by decide +kernel
theorem dX0_countCorrection_1 : decode cX0_countCorrection 1 = .ok (.dup, 1) := by decide +kernel
theorem dX0_countCorrection_2 : decode cX0_countCorrection 2 = .ok (.getfield 41, 3) := by decide +kernel
theorem dX0_countCorrection_5 : decode cX0_countCorrection 5 = .ok (.iconst 1, 1) := by decide +kernel
theorem dX0_countCorrection_6 : decode cX0_countCorrection 6 = .ok (.iadd, 1) := by decide +kernel
theorem dX0_countCorrection_7 : decode cX0_countCorrection 7 = .ok (.putfield 41, 3) := by decide +kernel
theorem dX0_countCorrection_10 : decode cX0_countCorrection 10 = .ok (.aload_n 0, 1) := by decide +kernel
theorem dX0_countCorrection_11 : decode cX0_countCorrection 11 = .ok (.getfield 41, 3) := by decide +kernel
theorem dX0_countCorrection_14 : decode cX0_countCorrection 14 = .ok (.ireturn, 1) := by decide +kernel
theorem dX0_personsIn_0 : decode cX0_personsIn 0 = .ok (.iconst 0, 1) := by decide +kernel
theorem dX0_personsIn_1 : decode cX0_personsIn 1 = .ok (.istore_n 2, 1) := by decide +kernel
theorem dX0_personsIn_2 : decode cX0_personsIn 2 = .ok (.iconst 0, 1) := by decide +kernel
theorem dX0_personsIn_3 : decode cX0_personsIn 3 = .ok (.istore_n 3, 1) := by decide +kernel
theorem dX0_personsIn_4 : decode cX0_personsIn 4 = .ok (.iload_n 3, 1) := by decide +kernel
theorem dX0_personsIn_5 : decode cX0_personsIn 5 = .ok (.aload_n 0, 1) := by decide +kernel
theorem dX0_personsIn_6 : decode cX0_personsIn 6 = .ok (.getfield 35, 3) := by decide +kernel
theorem dX0_personsIn_9 : decode cX0_personsIn 9 = .ok (.if_icmp .ge 33, 3) := by decide +kernel
theorem dX0_personsIn_12 : decode cX0_personsIn 12 = .ok (.aload_n 0, 1) := by decide +kernel
theorem dX0_personsIn_13 : decode cX0_personsIn 13 = .ok (.iload_n 3, 1) := by decide +kernel
theorem dX0_personsIn_14 : decode cX0_personsIn 14 = .ok (.invokevirtual 44, 3) := by decide +kernel
theorem dX0_personsIn_17 : decode cX0_personsIn 17 = .ok (.astore 4, 2) := by decide +kernel
theorem dX0_personsIn_19 : decode cX0_personsIn 19 = .ok (.aload 4, 2) := by decide +kernel
theorem dX0_personsIn_21 : decode cX0_personsIn 21 = .ok (.ifnull 15, 3) := by decide +kernel
theorem dX0_personsIn_24 : decode cX0_personsIn 24 = .ok (.aload 4, 2) := by decide +kernel
theorem dX0_personsIn_26 : decode cX0_personsIn 26 = .ok (.iload_n 1, 1) := by decide +kernel
theorem dX0_personsIn_27 : decode cX0_personsIn 27 = .ok (.invokevirtual 77, 3) := by decide +kernel
theorem dX0_personsIn_30 : decode cX0_personsIn 30 = .ok (.ifCond .eq 6, 3) := by decide +kernel
theorem dX0_personsIn_33 : decode cX0_personsIn 33 = .ok (.iinc 2 1, 3) := by decide +kernel
theorem dX0_personsIn_36 : decode cX0_personsIn 36 = .ok (.iinc 3 1, 3) := by decide +kernel
theorem dX0_personsIn_39 : decode cX0_personsIn 39 = .ok (.goto (-35), 3) := by decide +kernel
theorem dX0_personsIn_42 : decode cX0_personsIn 42 = .ok (.iload_n 2, 1) := by decide +kernel
theorem dX0_personsIn_43 : decode cX0_personsIn 43 = .ok (.ireturn, 1) := by decide +kernel
theorem dX0_facts_0 : decode cX0_facts 0 = .ok (.iconst 0, 1) := by decide +kernel
theorem dX0_facts_1 : decode cX0_facts 1 = .ok (.istore_n 1, 1) := by decide +kernel
theorem dX0_facts_2 : decode cX0_facts 2 = .ok (.iconst 0, 1) := by decide +kernel
theorem dX0_facts_3 : decode cX0_facts 3 = .ok (.istore_n 2, 1) := by decide +kernel
theorem dX0_facts_4 : decode cX0_facts 4 = .ok (.iload_n 2, 1) := by decide +kernel
theorem dX0_facts_5 : decode cX0_facts 5 = .ok (.aload_n 0, 1) := by decide +kernel
theorem dX0_facts_6 : decode cX0_facts 6 = .ok (.getfield 35, 3) := by decide +kernel
theorem dX0_facts_9 : decode cX0_facts 9 = .ok (.if_icmp .ge 26, 3) := by decide +kernel
theorem dX0_facts_12 : decode cX0_facts 12 = .ok (.aload_n 0, 1) := by decide +kernel
theorem dX0_facts_13 : decode cX0_facts 13 = .ok (.iload_n 2, 1) := by decide +kernel
theorem dX0_facts_14 : decode cX0_facts 14 = .ok (.invokevirtual 44, 3) := by decide +kernel
theorem dX0_facts_17 : decode cX0_facts 17 = .ok (.astore_n 3, 1) := by decide +kernel
theorem dX0_facts_18 : decode cX0_facts 18 = .ok (.aload_n 3, 1) := by decide +kernel
theorem dX0_facts_19 : decode cX0_facts 19 = .ok (.ifnull 10, 3) := by decide +kernel
theorem dX0_facts_22 : decode cX0_facts 22 = .ok (.iload_n 1, 1) := by decide +kernel
theorem dX0_facts_23 : decode cX0_facts 23 = .ok (.aload_n 3, 1) := by decide +kernel
theorem dX0_facts_24 : decode cX0_facts 24 = .ok (.invokevirtual 80, 3) := by decide +kernel
theorem dX0_facts_27 : decode cX0_facts 27 = .ok (.iadd, 1) := by decide +kernel
theorem dX0_facts_28 : decode cX0_facts 28 = .ok (.istore_n 1, 1) := by decide +kernel
theorem dX0_facts_29 : decode cX0_facts 29 = .ok (.iinc 2 1, 3) := by decide +kernel
theorem dX0_facts_32 : decode cX0_facts 32 = .ok (.goto (-28), 3) := by decide +kernel
theorem dX0_facts_35 : decode cX0_facts 35 = .ok (.iload_n 1, 1) := by decide +kernel
theorem dX0_facts_36 : decode cX0_facts 36 = .ok (.ireturn, 1) := by decide +kernel
theorem dX0_worthOf_0 : decode cX0_worthOf 0 = .ok (.aload_n 0, 1) := by decide +kernel
theorem dX0_worthOf_1 : decode cX0_worthOf 1 = .ok (.aload_n 1, 1) := by decide +kernel
theorem dX0_worthOf_2 : decode cX0_worthOf 2 = .ok (.iload_n 2, 1) := by decide +kernel
theorem dX0_worthOf_3 : decode cX0_worthOf 3 = .ok (.invokevirtual 83, 3) := by decide +kernel
theorem dX0_worthOf_6 : decode cX0_worthOf 6 = .ok (.invokevirtual 87, 3) := by decide +kernel
theorem dX0_worthOf_9 : decode cX0_worthOf 9 = .ok (.i2f, 1) := by decide +kernel
theorem dX0_worthOf_10 : decode cX0_worthOf 10 = .ok (.ldc 90, 2) := by decide +kernel
theorem dX0_worthOf_12 : decode cX0_worthOf 12 = .ok (.fdiv, 1) := by decide +kernel
theorem dX0_worthOf_13 : decode cX0_worthOf 13 = .ok (.fstore 4, 2) := by decide +kernel
theorem dX0_worthOf_15 : decode cX0_worthOf 15 = .ok (.iload_n 3, 1) := by decide +kernel
theorem dX0_worthOf_16 : decode cX0_worthOf 16 = .ok (.aload_n 1, 1) := by decide +kernel
theorem dX0_worthOf_17 : decode cX0_worthOf 17 = .ok (.iload_n 2, 1) := by decide +kernel
theorem dX0_worthOf_18 : decode cX0_worthOf 18 = .ok (.invokevirtual 91, 3) := by decide +kernel
theorem dX0_worthOf_21 : decode cX0_worthOf 21 = .ok (.isub, 1) := by decide +kernel
theorem dX0_worthOf_22 : decode cX0_worthOf 22 = .ok (.bipush 10, 2) := by decide +kernel
theorem dX0_worthOf_24 : decode cX0_worthOf 24 = .ok (.idiv, 1) := by decide +kernel
theorem dX0_worthOf_25 : decode cX0_worthOf 25 = .ok (.istore 5, 2) := by decide +kernel
theorem dX0_worthOf_27 : decode cX0_worthOf 27 = .ok (.iconst 0, 1) := by decide +kernel
theorem dX0_worthOf_28 : decode cX0_worthOf 28 = .ok (.istore 6, 2) := by decide +kernel
theorem dX0_worthOf_30 : decode cX0_worthOf 30 = .ok (.iload 6, 2) := by decide +kernel
theorem dX0_worthOf_32 : decode cX0_worthOf 32 = .ok (.iload 5, 2) := by decide +kernel
theorem dX0_worthOf_34 : decode cX0_worthOf 34 = .ok (.if_icmp .ge 16, 3) := by decide +kernel
theorem dX0_worthOf_37 : decode cX0_worthOf 37 = .ok (.fload 4, 2) := by decide +kernel
theorem dX0_worthOf_39 : decode cX0_worthOf 39 = .ok (.ldc 94, 2) := by decide +kernel
theorem dX0_worthOf_41 : decode cX0_worthOf 41 = .ok (.fmul, 1) := by decide +kernel
theorem dX0_worthOf_42 : decode cX0_worthOf 42 = .ok (.fstore 4, 2) := by decide +kernel
theorem dX0_worthOf_44 : decode cX0_worthOf 44 = .ok (.iinc 6 1, 3) := by decide +kernel
theorem dX0_worthOf_47 : decode cX0_worthOf 47 = .ok (.goto (-17), 3) := by decide +kernel
theorem dX0_worthOf_50 : decode cX0_worthOf 50 = .ok (.fload 4, 2) := by decide +kernel
theorem dX0_worthOf_52 : decode cX0_worthOf 52 = .ok (.freturn, 1) := by decide +kernel
theorem dX0_worthOfLife_0 : decode cX0_worthOfLife 0 = .ok (.fconst 0, 1) := by decide +kernel
theorem dX0_worthOfLife_1 : decode cX0_worthOfLife 1 = .ok (.fstore_n 2, 1) := by decide +kernel
theorem dX0_worthOfLife_2 : decode cX0_worthOfLife 2 = .ok (.iconst 0, 1) := by decide +kernel
theorem dX0_worthOfLife_3 : decode cX0_worthOfLife 3 = .ok (.istore_n 3, 1) := by decide +kernel
theorem dX0_worthOfLife_4 : decode cX0_worthOfLife 4 = .ok (.iload_n 3, 1) := by decide +kernel
theorem dX0_worthOfLife_5 : decode cX0_worthOfLife 5 = .ok (.aload_n 1, 1) := by decide +kernel
theorem dX0_worthOfLife_6 : decode cX0_worthOfLife 6 = .ok (.invokevirtual 80, 3) := by decide +kernel
theorem dX0_worthOfLife_9 : decode cX0_worthOfLife 9 = .ok (.if_icmp .ge 29, 3) := by decide +kernel
theorem dX0_worthOfLife_12 : decode cX0_worthOfLife 12 = .ok (.fload_n 2, 1) := by decide +kernel
theorem dX0_worthOfLife_13 : decode cX0_worthOfLife 13 = .ok (.aload_n 0, 1) := by decide +kernel
theorem dX0_worthOfLife_14 : decode cX0_worthOfLife 14 = .ok (.aload_n 1, 1) := by decide +kernel
theorem dX0_worthOfLife_15 : decode cX0_worthOfLife 15 = .ok (.iload_n 3, 1) := by decide +kernel
theorem dX0_worthOfLife_16 : decode cX0_worthOfLife 16 = .ok (.aload_n 0, 1) := by decide +kernel
theorem dX0_worthOfLife_17 : decode cX0_worthOfLife 17 = .ok (.getfield 38, 3) := by decide +kernel
theorem dX0_worthOfLife_20 : decode cX0_worthOfLife 20 = .ok (.invokevirtual 95, 3) := by decide +kernel
theorem dX0_worthOfLife_23 : decode cX0_worthOfLife 23 = .ok (.aload_n 1, 1) := by decide +kernel
theorem dX0_worthOfLife_24 : decode cX0_worthOfLife 24 = .ok (.iload_n 3, 1) := by decide +kernel
theorem dX0_worthOfLife_25 : decode cX0_worthOfLife 25 = .ok (.invokevirtual 99, 3) := by decide +kernel
theorem dX0_worthOfLife_28 : decode cX0_worthOfLife 28 = .ok (.i2f, 1) := by decide +kernel
theorem dX0_worthOfLife_29 : decode cX0_worthOfLife 29 = .ok (.fmul, 1) := by decide +kernel
theorem dX0_worthOfLife_30 : decode cX0_worthOfLife 30 = .ok (.fadd, 1) := by decide +kernel
theorem dX0_worthOfLife_31 : decode cX0_worthOfLife 31 = .ok (.fstore_n 2, 1) := by decide +kernel
theorem dX0_worthOfLife_32 : decode cX0_worthOfLife 32 = .ok (.iinc 3 1, 3) := by decide +kernel
theorem dX0_worthOfLife_35 : decode cX0_worthOfLife 35 = .ok (.goto (-31), 3) := by decide +kernel
theorem dX0_worthOfLife_38 : decode cX0_worthOfLife 38 = .ok (.fload_n 2, 1) := by decide +kernel
theorem dX0_worthOfLife_39 : decode cX0_worthOfLife 39 = .ok (.freturn, 1) := by decide +kernel
theorem dX0_bound_0 : decode cX0_bound 0 = .ok (.aload_n 0, 1) := by decide +kernel
theorem dX0_bound_1 : decode cX0_bound 1 = .ok (.iconst 2, 1) := by decide +kernel
theorem dX0_bound_2 : decode cX0_bound 2 = .ok (.invokevirtual 102, 3) := by decide +kernel
theorem dX0_bound_5 : decode cX0_bound 5 = .ok (.i2f, 1) := by decide +kernel
theorem dX0_bound_6 : decode cX0_bound 6 = .ok (.ldc 90, 2) := by decide +kernel
theorem dX0_bound_8 : decode cX0_bound 8 = .ok (.fdiv, 1) := by decide +kernel
theorem dX0_bound_9 : decode cX0_bound 9 = .ok (.freturn, 1) := by decide +kernel
theorem dX0_isStale_0 : decode cX0_isStale 0 = .ok (.aload_n 0, 1) := by decide +kernel
theorem dX0_isStale_1 : decode cX0_isStale 1 = .ok (.aload_n 1, 1) := by decide +kernel
theorem dX0_isStale_2 : decode cX0_isStale 2 = .ok (.iload_n 2, 1) := by decide +kernel
theorem dX0_isStale_3 : decode cX0_isStale 3 = .ok (.aload_n 0, 1) := by decide +kernel
theorem dX0_isStale_4 : decode cX0_isStale 4 = .ok (.getfield 38, 3) := by decide +kernel
theorem dX0_isStale_7 : decode cX0_isStale 7 = .ok (.invokevirtual 95, 3) := by decide +kernel
theorem dX0_isStale_10 : decode cX0_isStale 10 = .ok (.aload_n 0, 1) := by decide +kernel
theorem dX0_isStale_11 : decode cX0_isStale 11 = .ok (.invokevirtual 105, 3) := by decide +kernel
theorem dX0_isStale_14 : decode cX0_isStale 14 = .ok (.fcmp .g, 1) := by decide +kernel
theorem dX0_isStale_15 : decode cX0_isStale 15 = .ok (.ifCond .ge 7, 3) := by decide +kernel
theorem dX0_isStale_18 : decode cX0_isStale 18 = .ok (.iconst 1, 1) := by decide +kernel
theorem dX0_isStale_19 : decode cX0_isStale 19 = .ok (.goto 4, 3) := by decide +kernel
theorem dX0_isStale_22 : decode cX0_isStale 22 = .ok (.iconst 0, 1) := by decide +kernel
theorem dX0_isStale_23 : decode cX0_isStale 23 = .ok (.ireturn, 1) := by decide +kernel
theorem dX0_staleFactsOf_0 : decode cX0_staleFactsOf 0 = .ok (.aload_n 0, 1) := by decide +kernel
theorem dX0_staleFactsOf_1 : decode cX0_staleFactsOf 1 = .ok (.invokevirtual 105, 3) := by decide +kernel
theorem dX0_staleFactsOf_4 : decode cX0_staleFactsOf 4 = .ok (.fstore_n 3, 1) := by decide +kernel
theorem dX0_staleFactsOf_5 : decode cX0_staleFactsOf 5 = .ok (.iconst 0, 1) := by decide +kernel
theorem dX0_staleFactsOf_6 : decode cX0_staleFactsOf 6 = .ok (.istore 4, 2) := by decide +kernel
theorem dX0_staleFactsOf_8 : decode cX0_staleFactsOf 8 = .ok (.iconst 0, 1) := by decide +kernel
theorem dX0_staleFactsOf_9 : decode cX0_staleFactsOf 9 = .ok (.istore 5, 2) := by decide +kernel
theorem dX0_staleFactsOf_11 : decode cX0_staleFactsOf 11 = .ok (.iload 5, 2) := by decide +kernel
theorem dX0_staleFactsOf_13 : decode cX0_staleFactsOf 13 = .ok (.aload_n 1, 1) := by decide +kernel
theorem dX0_staleFactsOf_14 : decode cX0_staleFactsOf 14 = .ok (.invokevirtual 80, 3) := by decide +kernel
theorem dX0_staleFactsOf_17 : decode cX0_staleFactsOf 17 = .ok (.if_icmp .ge 25, 3) := by decide +kernel
theorem dX0_staleFactsOf_20 : decode cX0_staleFactsOf 20 = .ok (.aload_n 0, 1) := by decide +kernel
theorem dX0_staleFactsOf_21 : decode cX0_staleFactsOf 21 = .ok (.aload_n 1, 1) := by decide +kernel
theorem dX0_staleFactsOf_22 : decode cX0_staleFactsOf 22 = .ok (.iload 5, 2) := by decide +kernel
theorem dX0_staleFactsOf_24 : decode cX0_staleFactsOf 24 = .ok (.iload_n 2, 1) := by decide +kernel
theorem dX0_staleFactsOf_25 : decode cX0_staleFactsOf 25 = .ok (.invokevirtual 95, 3) := by decide +kernel
theorem dX0_staleFactsOf_28 : decode cX0_staleFactsOf 28 = .ok (.fload_n 3, 1) := by decide +kernel
theorem dX0_staleFactsOf_29 : decode cX0_staleFactsOf 29 = .ok (.fcmp .g, 1) := by decide +kernel
theorem dX0_staleFactsOf_30 : decode cX0_staleFactsOf 30 = .ok (.ifCond .ge 6, 3) := by decide +kernel
theorem dX0_staleFactsOf_33 : decode cX0_staleFactsOf 33 = .ok (.iinc 4 1, 3) := by decide +kernel
theorem dX0_staleFactsOf_36 : decode cX0_staleFactsOf 36 = .ok (.iinc 5 1, 3) := by decide +kernel
theorem dX0_staleFactsOf_39 : decode cX0_staleFactsOf 39 = .ok (.goto (-28), 3) := by decide +kernel
theorem dX0_staleFactsOf_42 : decode cX0_staleFactsOf 42 = .ok (.iload 4, 2) := by decide +kernel
theorem dX0_staleFactsOf_44 : decode cX0_staleFactsOf 44 = .ok (.ireturn, 1) := by decide +kernel
theorem dX0_staleFactsOn_0 : decode cX0_staleFactsOn 0 = .ok (.iconst 0, 1) := by decide +kernel
theorem dX0_staleFactsOn_1 : decode cX0_staleFactsOn 1 = .ok (.istore_n 2, 1) := by decide +kernel
theorem dX0_staleFactsOn_2 : decode cX0_staleFactsOn 2 = .ok (.iconst 0, 1) := by decide +kernel
theorem dX0_staleFactsOn_3 : decode cX0_staleFactsOn 3 = .ok (.istore_n 3, 1) := by decide +kernel
theorem dX0_staleFactsOn_4 : decode cX0_staleFactsOn 4 = .ok (.iload_n 3, 1) := by decide +kernel
theorem dX0_staleFactsOn_5 : decode cX0_staleFactsOn 5 = .ok (.aload_n 0, 1) := by decide +kernel
theorem dX0_staleFactsOn_6 : decode cX0_staleFactsOn 6 = .ok (.getfield 35, 3) := by decide +kernel
theorem dX0_staleFactsOn_9 : decode cX0_staleFactsOn 9 = .ok (.if_icmp .ge 40, 3) := by decide +kernel
theorem dX0_staleFactsOn_12 : decode cX0_staleFactsOn 12 = .ok (.aload_n 0, 1) := by decide +kernel
theorem dX0_staleFactsOn_13 : decode cX0_staleFactsOn 13 = .ok (.iload_n 3, 1) := by decide +kernel
theorem dX0_staleFactsOn_14 : decode cX0_staleFactsOn 14 = .ok (.invokevirtual 44, 3) := by decide +kernel
theorem dX0_staleFactsOn_17 : decode cX0_staleFactsOn 17 = .ok (.astore 4, 2) := by decide +kernel
theorem dX0_staleFactsOn_19 : decode cX0_staleFactsOn 19 = .ok (.aload 4, 2) := by decide +kernel
theorem dX0_staleFactsOn_21 : decode cX0_staleFactsOn 21 = .ok (.ifnull 22, 3) := by decide +kernel
theorem dX0_staleFactsOn_24 : decode cX0_staleFactsOn 24 = .ok (.aload 4, 2) := by decide +kernel
theorem dX0_staleFactsOn_26 : decode cX0_staleFactsOn 26 = .ok (.iconst 3, 1) := by decide +kernel
theorem dX0_staleFactsOn_27 : decode cX0_staleFactsOn 27 = .ok (.invokevirtual 77, 3) := by decide +kernel
theorem dX0_staleFactsOn_30 : decode cX0_staleFactsOn 30 = .ok (.ifCond .ne 13, 3) := by decide +kernel
theorem dX0_staleFactsOn_33 : decode cX0_staleFactsOn 33 = .ok (.iload_n 2, 1) := by decide +kernel
theorem dX0_staleFactsOn_34 : decode cX0_staleFactsOn 34 = .ok (.aload_n 0, 1) := by decide +kernel
theorem dX0_staleFactsOn_35 : decode cX0_staleFactsOn 35 = .ok (.aload 4, 2) := by decide +kernel
theorem dX0_staleFactsOn_37 : decode cX0_staleFactsOn 37 = .ok (.iload_n 1, 1) := by decide +kernel
theorem dX0_staleFactsOn_38 : decode cX0_staleFactsOn 38 = .ok (.invokevirtual 109, 3) := by decide +kernel
theorem dX0_staleFactsOn_41 : decode cX0_staleFactsOn 41 = .ok (.iadd, 1) := by decide +kernel
theorem dX0_staleFactsOn_42 : decode cX0_staleFactsOn 42 = .ok (.istore_n 2, 1) := by decide +kernel
theorem dX0_staleFactsOn_43 : decode cX0_staleFactsOn 43 = .ok (.iinc 3 1, 3) := by decide +kernel
theorem dX0_staleFactsOn_46 : decode cX0_staleFactsOn 46 = .ok (.goto (-42), 3) := by decide +kernel
theorem dX0_staleFactsOn_49 : decode cX0_staleFactsOn 49 = .ok (.iload_n 2, 1) := by decide +kernel
theorem dX0_staleFactsOn_50 : decode cX0_staleFactsOn 50 = .ok (.ireturn, 1) := by decide +kernel
theorem dX0_factsFrom_0 : decode cX0_factsFrom 0 = .ok (.iconst 0, 1) := by decide +kernel
theorem dX0_factsFrom_1 : decode cX0_factsFrom 1 = .ok (.istore_n 2, 1) := by decide +kernel
theorem dX0_factsFrom_2 : decode cX0_factsFrom 2 = .ok (.iconst 0, 1) := by decide +kernel
theorem dX0_factsFrom_3 : decode cX0_factsFrom 3 = .ok (.istore_n 3, 1) := by decide +kernel
theorem dX0_factsFrom_4 : decode cX0_factsFrom 4 = .ok (.iload_n 3, 1) := by decide +kernel
theorem dX0_factsFrom_5 : decode cX0_factsFrom 5 = .ok (.aload_n 0, 1) := by decide +kernel
theorem dX0_factsFrom_6 : decode cX0_factsFrom 6 = .ok (.getfield 35, 3) := by decide +kernel
theorem dX0_factsFrom_9 : decode cX0_factsFrom 9 = .ok (.if_icmp .ge 54, 3) := by decide +kernel
theorem dX0_factsFrom_12 : decode cX0_factsFrom 12 = .ok (.aload_n 0, 1) := by decide +kernel
theorem dX0_factsFrom_13 : decode cX0_factsFrom 13 = .ok (.iload_n 3, 1) := by decide +kernel
theorem dX0_factsFrom_14 : decode cX0_factsFrom 14 = .ok (.invokevirtual 44, 3) := by decide +kernel
theorem dX0_factsFrom_17 : decode cX0_factsFrom 17 = .ok (.astore 4, 2) := by decide +kernel
theorem dX0_factsFrom_19 : decode cX0_factsFrom 19 = .ok (.iconst 0, 1) := by decide +kernel
theorem dX0_factsFrom_20 : decode cX0_factsFrom 20 = .ok (.istore 5, 2) := by decide +kernel
theorem dX0_factsFrom_22 : decode cX0_factsFrom 22 = .ok (.aload 4, 2) := by decide +kernel
theorem dX0_factsFrom_24 : decode cX0_factsFrom 24 = .ok (.ifnull 33, 3) := by decide +kernel
theorem dX0_factsFrom_27 : decode cX0_factsFrom 27 = .ok (.iload 5, 2) := by decide +kernel
theorem dX0_factsFrom_29 : decode cX0_factsFrom 29 = .ok (.aload 4, 2) := by decide +kernel
theorem dX0_factsFrom_31 : decode cX0_factsFrom 31 = .ok (.invokevirtual 80, 3) := by decide +kernel
theorem dX0_factsFrom_34 : decode cX0_factsFrom 34 = .ok (.if_icmp .ge 23, 3) := by decide +kernel
theorem dX0_factsFrom_37 : decode cX0_factsFrom 37 = .ok (.aload 4, 2) := by decide +kernel
theorem dX0_factsFrom_39 : decode cX0_factsFrom 39 = .ok (.iload 5, 2) := by decide +kernel
theorem dX0_factsFrom_41 : decode cX0_factsFrom 41 = .ok (.invokevirtual 83, 3) := by decide +kernel
theorem dX0_factsFrom_44 : decode cX0_factsFrom 44 = .ok (.iload_n 1, 1) := by decide +kernel
theorem dX0_factsFrom_45 : decode cX0_factsFrom 45 = .ok (.if_icmp .ne 6, 3) := by decide +kernel
theorem dX0_factsFrom_48 : decode cX0_factsFrom 48 = .ok (.iinc 2 1, 3) := by decide +kernel
theorem dX0_factsFrom_51 : decode cX0_factsFrom 51 = .ok (.iinc 5 1, 3) := by decide +kernel
theorem dX0_factsFrom_54 : decode cX0_factsFrom 54 = .ok (.goto (-32), 3) := by decide +kernel
theorem dX0_factsFrom_57 : decode cX0_factsFrom 57 = .ok (.iinc 3 1, 3) := by decide +kernel
theorem dX0_factsFrom_60 : decode cX0_factsFrom 60 = .ok (.goto (-56), 3) := by decide +kernel
theorem dX0_factsFrom_63 : decode cX0_factsFrom 63 = .ok (.iload_n 2, 1) := by decide +kernel
theorem dX0_factsFrom_64 : decode cX0_factsFrom 64 = .ok (.ireturn, 1) := by decide +kernel
theorem dX0_staleFactsFrom_0 : decode cX0_staleFactsFrom 0 = .ok (.iconst 0, 1) := by decide +kernel
theorem dX0_staleFactsFrom_1 : decode cX0_staleFactsFrom 1 = .ok (.istore_n 2, 1) := by decide +kernel
theorem dX0_staleFactsFrom_2 : decode cX0_staleFactsFrom 2 = .ok (.iconst 0, 1) := by decide +kernel
theorem dX0_staleFactsFrom_3 : decode cX0_staleFactsFrom 3 = .ok (.istore_n 3, 1) := by decide +kernel
theorem dX0_staleFactsFrom_4 : decode cX0_staleFactsFrom 4 = .ok (.iload_n 3, 1) := by decide +kernel
theorem dX0_staleFactsFrom_5 : decode cX0_staleFactsFrom 5 = .ok (.aload_n 0, 1) := by decide +kernel
theorem dX0_staleFactsFrom_6 : decode cX0_staleFactsFrom 6 = .ok (.getfield 35, 3) := by decide +kernel
theorem dX0_staleFactsFrom_9 : decode cX0_staleFactsFrom 9 = .ok (.if_icmp .ge 65, 3) := by decide +kernel
theorem dX0_staleFactsFrom_12 : decode cX0_staleFactsFrom 12 = .ok (.aload_n 0, 1) := by decide +kernel
theorem dX0_staleFactsFrom_13 : decode cX0_staleFactsFrom 13 = .ok (.iload_n 3, 1) := by decide +kernel
theorem dX0_staleFactsFrom_14 : decode cX0_staleFactsFrom 14 = .ok (.invokevirtual 44, 3) := by decide +kernel
theorem dX0_staleFactsFrom_17 : decode cX0_staleFactsFrom 17 = .ok (.astore 4, 2) := by decide +kernel
theorem dX0_staleFactsFrom_19 : decode cX0_staleFactsFrom 19 = .ok (.iconst 0, 1) := by decide +kernel
theorem dX0_staleFactsFrom_20 : decode cX0_staleFactsFrom 20 = .ok (.istore 5, 2) := by decide +kernel
theorem dX0_staleFactsFrom_22 : decode cX0_staleFactsFrom 22 = .ok (.aload 4, 2) := by decide +kernel
theorem dX0_staleFactsFrom_24 : decode cX0_staleFactsFrom 24 = .ok (.ifnull 44, 3) := by decide +kernel
theorem dX0_staleFactsFrom_27 : decode cX0_staleFactsFrom 27 = .ok (.iload 5, 2) := by decide +kernel
theorem dX0_staleFactsFrom_29 : decode cX0_staleFactsFrom 29 = .ok (.aload 4, 2) := by decide +kernel
theorem dX0_staleFactsFrom_31 : decode cX0_staleFactsFrom 31 = .ok (.invokevirtual 80, 3) := by decide +kernel
theorem dX0_staleFactsFrom_34 : decode cX0_staleFactsFrom 34 = .ok (.if_icmp .ge 34, 3) := by decide +kernel
theorem dX0_staleFactsFrom_37 : decode cX0_staleFactsFrom 37 = .ok (.aload 4, 2) := by decide +kernel
theorem dX0_staleFactsFrom_39 : decode cX0_staleFactsFrom 39 = .ok (.iload 5, 2) := by decide +kernel
theorem dX0_staleFactsFrom_41 : decode cX0_staleFactsFrom 41 = .ok (.invokevirtual 83, 3) := by decide +kernel
theorem dX0_staleFactsFrom_44 : decode cX0_staleFactsFrom 44 = .ok (.iload_n 1, 1) := by decide +kernel
theorem dX0_staleFactsFrom_45 : decode cX0_staleFactsFrom 45 = .ok (.if_icmp .ne 17, 3) := by decide +kernel
theorem dX0_staleFactsFrom_48 : decode cX0_staleFactsFrom 48 = .ok (.aload_n 0, 1) := by decide +kernel
theorem dX0_staleFactsFrom_49 : decode cX0_staleFactsFrom 49 = .ok (.aload 4, 2) := by decide +kernel
theorem dX0_staleFactsFrom_51 : decode cX0_staleFactsFrom 51 = .ok (.iload 5, 2) := by decide +kernel
theorem dX0_staleFactsFrom_53 : decode cX0_staleFactsFrom 53 = .ok (.invokevirtual 113, 3) := by decide +kernel
theorem dX0_staleFactsFrom_56 : decode cX0_staleFactsFrom 56 = .ok (.ifCond .eq 6, 3) := by decide +kernel
theorem dX0_staleFactsFrom_59 : decode cX0_staleFactsFrom 59 = .ok (.iinc 2 1, 3) := by decide +kernel
theorem dX0_staleFactsFrom_62 : decode cX0_staleFactsFrom 62 = .ok (.iinc 5 1, 3) := by decide +kernel
theorem dX0_staleFactsFrom_65 : decode cX0_staleFactsFrom 65 = .ok (.goto (-43), 3) := by decide +kernel
theorem dX0_staleFactsFrom_68 : decode cX0_staleFactsFrom 68 = .ok (.iinc 3 1, 3) := by decide +kernel
theorem dX0_staleFactsFrom_71 : decode cX0_staleFactsFrom 71 = .ok (.goto (-67), 3) := by decide +kernel
theorem dX0_staleFactsFrom_74 : decode cX0_staleFactsFrom 74 = .ok (.iload_n 2, 1) := by decide +kernel
theorem dX0_staleFactsFrom_75 : decode cX0_staleFactsFrom 75 = .ok (.ireturn, 1) := by decide +kernel
theorem dX0_linesFrom_0 : decode cX0_linesFrom 0 = .ok (.iconst 0, 1) := by decide +kernel
theorem dX0_linesFrom_1 : decode cX0_linesFrom 1 = .ok (.istore_n 2, 1) := by decide +kernel
theorem dX0_linesFrom_2 : decode cX0_linesFrom 2 = .ok (.iconst 0, 1) := by decide +kernel
theorem dX0_linesFrom_3 : decode cX0_linesFrom 3 = .ok (.istore_n 3, 1) := by decide +kernel
theorem dX0_linesFrom_4 : decode cX0_linesFrom 4 = .ok (.iload_n 3, 1) := by decide +kernel
theorem dX0_linesFrom_5 : decode cX0_linesFrom 5 = .ok (.aload_n 0, 1) := by decide +kernel
theorem dX0_linesFrom_6 : decode cX0_linesFrom 6 = .ok (.getfield 35, 3) := by decide +kernel
theorem dX0_linesFrom_9 : decode cX0_linesFrom 9 = .ok (.if_icmp .ge 61, 3) := by decide +kernel
theorem dX0_linesFrom_12 : decode cX0_linesFrom 12 = .ok (.aload_n 0, 1) := by decide +kernel
theorem dX0_linesFrom_13 : decode cX0_linesFrom 13 = .ok (.iload_n 3, 1) := by decide +kernel
theorem dX0_linesFrom_14 : decode cX0_linesFrom 14 = .ok (.invokevirtual 44, 3) := by decide +kernel
theorem dX0_linesFrom_17 : decode cX0_linesFrom 17 = .ok (.astore 4, 2) := by decide +kernel
theorem dX0_linesFrom_19 : decode cX0_linesFrom 19 = .ok (.iconst 0, 1) := by decide +kernel
theorem dX0_linesFrom_20 : decode cX0_linesFrom 20 = .ok (.istore 5, 2) := by decide +kernel
theorem dX0_linesFrom_22 : decode cX0_linesFrom 22 = .ok (.aload 4, 2) := by decide +kernel
theorem dX0_linesFrom_24 : decode cX0_linesFrom 24 = .ok (.ifnull 40, 3) := by decide +kernel
theorem dX0_linesFrom_27 : decode cX0_linesFrom 27 = .ok (.iload 5, 2) := by decide +kernel
theorem dX0_linesFrom_29 : decode cX0_linesFrom 29 = .ok (.aload 4, 2) := by decide +kernel
theorem dX0_linesFrom_31 : decode cX0_linesFrom 31 = .ok (.invokevirtual 80, 3) := by decide +kernel
theorem dX0_linesFrom_34 : decode cX0_linesFrom 34 = .ok (.if_icmp .ge 30, 3) := by decide +kernel
theorem dX0_linesFrom_37 : decode cX0_linesFrom 37 = .ok (.aload 4, 2) := by decide +kernel
theorem dX0_linesFrom_39 : decode cX0_linesFrom 39 = .ok (.iload 5, 2) := by decide +kernel
theorem dX0_linesFrom_41 : decode cX0_linesFrom 41 = .ok (.invokevirtual 83, 3) := by decide +kernel
theorem dX0_linesFrom_44 : decode cX0_linesFrom 44 = .ok (.iload_n 1, 1) := by decide +kernel
theorem dX0_linesFrom_45 : decode cX0_linesFrom 45 = .ok (.if_icmp .ne 13, 3) := by decide +kernel
theorem dX0_linesFrom_48 : decode cX0_linesFrom 48 = .ok (.iload_n 2, 1) := by decide +kernel
theorem dX0_linesFrom_49 : decode cX0_linesFrom 49 = .ok (.aload 4, 2) := by decide +kernel
theorem dX0_linesFrom_51 : decode cX0_linesFrom 51 = .ok (.iload 5, 2) := by decide +kernel
theorem dX0_linesFrom_53 : decode cX0_linesFrom 53 = .ok (.invokevirtual 99, 3) := by decide +kernel
theorem dX0_linesFrom_56 : decode cX0_linesFrom 56 = .ok (.iadd, 1) := by decide +kernel
theorem dX0_linesFrom_57 : decode cX0_linesFrom 57 = .ok (.istore_n 2, 1) := by decide +kernel
theorem dX0_linesFrom_58 : decode cX0_linesFrom 58 = .ok (.iinc 5 1, 3) := by decide +kernel
theorem dX0_linesFrom_61 : decode cX0_linesFrom 61 = .ok (.goto (-39), 3) := by decide +kernel
theorem dX0_linesFrom_64 : decode cX0_linesFrom 64 = .ok (.iinc 3 1, 3) := by decide +kernel
theorem dX0_linesFrom_67 : decode cX0_linesFrom 67 = .ok (.goto (-63), 3) := by decide +kernel
theorem dX0_linesFrom_70 : decode cX0_linesFrom 70 = .ok (.iload_n 2, 1) := by decide +kernel
theorem dX0_linesFrom_71 : decode cX0_linesFrom 71 = .ok (.ireturn, 1) := by decide +kernel
theorem dX0_urgencyOf_0 : decode cX0_urgencyOf 0 = .ok (.aload_n 1, 1) := by decide +kernel
theorem dX0_urgencyOf_1 : decode cX0_urgencyOf 1 = .ok (.invokevirtual 60, 3) := by decide +kernel
theorem dX0_urgencyOf_4 : decode cX0_urgencyOf 4 = .ok (.bipush 10, 2) := by decide +kernel
theorem dX0_urgencyOf_6 : decode cX0_urgencyOf 6 = .ok (.aload_n 1, 1) := by decide +kernel
theorem dX0_urgencyOf_7 : decode cX0_urgencyOf 7 = .ok (.invokevirtual 63, 3) := by decide +kernel
theorem dX0_urgencyOf_10 : decode cX0_urgencyOf 10 = .ok (.imul, 1) := by decide +kernel
theorem dX0_urgencyOf_11 : decode cX0_urgencyOf 11 = .ok (.iadd, 1) := by decide +kernel
theorem dX0_urgencyOf_12 : decode cX0_urgencyOf 12 = .ok (.iconst 5, 1) := by decide +kernel
theorem dX0_urgencyOf_13 : decode cX0_urgencyOf 13 = .ok (.aload_n 0, 1) := by decide +kernel
theorem dX0_urgencyOf_14 : decode cX0_urgencyOf 14 = .ok (.aload_n 1, 1) := by decide +kernel
theorem dX0_urgencyOf_15 : decode cX0_urgencyOf 15 = .ok (.aload_n 0, 1) := by decide +kernel
theorem dX0_urgencyOf_16 : decode cX0_urgencyOf 16 = .ok (.getfield 38, 3) := by decide +kernel
theorem dX0_urgencyOf_19 : decode cX0_urgencyOf 19 = .ok (.invokevirtual 109, 3) := by decide +kernel
theorem dX0_urgencyOf_22 : decode cX0_urgencyOf 22 = .ok (.imul, 1) := by decide +kernel
theorem dX0_urgencyOf_23 : decode cX0_urgencyOf 23 = .ok (.iadd, 1) := by decide +kernel
theorem dX0_urgencyOf_24 : decode cX0_urgencyOf 24 = .ok (.istore_n 2, 1) := by decide +kernel
theorem dX0_urgencyOf_25 : decode cX0_urgencyOf 25 = .ok (.aload_n 1, 1) := by decide +kernel
theorem dX0_urgencyOf_26 : decode cX0_urgencyOf 26 = .ok (.invokevirtual 80, 3) := by decide +kernel
theorem dX0_urgencyOf_29 : decode cX0_urgencyOf 29 = .ok (.ifCond .ne 10, 3) := by decide +kernel
theorem dX0_urgencyOf_32 : decode cX0_urgencyOf 32 = .ok (.iload_n 2, 1) := by decide +kernel
theorem dX0_urgencyOf_33 : decode cX0_urgencyOf 33 = .ok (.bipush 40, 2) := by decide +kernel
theorem dX0_urgencyOf_35 : decode cX0_urgencyOf 35 = .ok (.iadd, 1) := by decide +kernel
theorem dX0_urgencyOf_36 : decode cX0_urgencyOf 36 = .ok (.goto 4, 3) := by decide +kernel
theorem dX0_urgencyOf_39 : decode cX0_urgencyOf 39 = .ok (.iload_n 2, 1) := by decide +kernel
theorem dX0_urgencyOf_40 : decode cX0_urgencyOf 40 = .ok (.ireturn, 1) := by decide +kernel
theorem dX0_rankUrgencies_0 : decode cX0_rankUrgencies 0 = .ok (.aload_n 1, 1) := by decide +kernel
theorem dX0_rankUrgencies_1 : decode cX0_rankUrgencies 1 = .ok (.invokevirtual 117, 3) := by decide +kernel
theorem dX0_rankUrgencies_4 : decode cX0_rankUrgencies 4 = .ok (.iconst 0, 1) := by decide +kernel
theorem dX0_rankUrgencies_5 : decode cX0_rankUrgencies 5 = .ok (.istore_n 2, 1) := by decide +kernel
theorem dX0_rankUrgencies_6 : decode cX0_rankUrgencies 6 = .ok (.iload_n 2, 1) := by decide +kernel
theorem dX0_rankUrgencies_7 : decode cX0_rankUrgencies 7 = .ok (.aload_n 0, 1) := by decide +kernel
theorem dX0_rankUrgencies_8 : decode cX0_rankUrgencies 8 = .ok (.getfield 35, 3) := by decide +kernel
theorem dX0_rankUrgencies_11 : decode cX0_rankUrgencies 11 = .ok (.if_icmp .ge 37, 3) := by decide +kernel
theorem dX0_rankUrgencies_14 : decode cX0_rankUrgencies 14 = .ok (.aload_n 0, 1) := by decide +kernel
theorem dX0_rankUrgencies_15 : decode cX0_rankUrgencies 15 = .ok (.iload_n 2, 1) := by decide +kernel
theorem dX0_rankUrgencies_16 : decode cX0_rankUrgencies 16 = .ok (.invokevirtual 44, 3) := by decide +kernel
theorem dX0_rankUrgencies_19 : decode cX0_rankUrgencies 19 = .ok (.astore_n 3, 1) := by decide +kernel
theorem dX0_rankUrgencies_20 : decode cX0_rankUrgencies 20 = .ok (.aload_n 3, 1) := by decide +kernel
theorem dX0_rankUrgencies_21 : decode cX0_rankUrgencies 21 = .ok (.ifnull 21, 3) := by decide +kernel
theorem dX0_rankUrgencies_24 : decode cX0_rankUrgencies 24 = .ok (.aload_n 3, 1) := by decide +kernel
theorem dX0_rankUrgencies_25 : decode cX0_rankUrgencies 25 = .ok (.iconst 0, 1) := by decide +kernel
theorem dX0_rankUrgencies_26 : decode cX0_rankUrgencies 26 = .ok (.invokevirtual 77, 3) := by decide +kernel
theorem dX0_rankUrgencies_29 : decode cX0_rankUrgencies 29 = .ok (.ifCond .eq 13, 3) := by decide +kernel
theorem dX0_rankUrgencies_32 : decode cX0_rankUrgencies 32 = .ok (.aload_n 1, 1) := by decide +kernel
theorem dX0_rankUrgencies_33 : decode cX0_rankUrgencies 33 = .ok (.iload_n 2, 1) := by decide +kernel
theorem dX0_rankUrgencies_34 : decode cX0_rankUrgencies 34 = .ok (.aload_n 0, 1) := by decide +kernel
theorem dX0_rankUrgencies_35 : decode cX0_rankUrgencies 35 = .ok (.aload_n 3, 1) := by decide +kernel
theorem dX0_rankUrgencies_36 : decode cX0_rankUrgencies 36 = .ok (.invokevirtual 122, 3) := by decide +kernel
theorem dX0_rankUrgencies_39 : decode cX0_rankUrgencies 39 = .ok (.invokevirtual 126, 3) := by decide +kernel
theorem dX0_rankUrgencies_42 : decode cX0_rankUrgencies 42 = .ok (.iinc 2 1, 3) := by decide +kernel
theorem dX0_rankUrgencies_45 : decode cX0_rankUrgencies 45 = .ok (.goto (-39), 3) := by decide +kernel
theorem dX0_rankUrgencies_48 : decode cX0_rankUrgencies 48 = .ok (.return_, 1) := by decide +kernel
theorem dX0_firstToCheck_0 : decode cX0_firstToCheck 0 = .ok (.iconst 0, 1) := by decide +kernel
theorem dX0_firstToCheck_1 : decode cX0_firstToCheck 1 = .ok (.istore_n 2, 1) := by decide +kernel
theorem dX0_firstToCheck_2 : decode cX0_firstToCheck 2 = .ok (.iload_n 2, 1) := by decide +kernel
theorem dX0_firstToCheck_3 : decode cX0_firstToCheck 3 = .ok (.aload_n 1, 1) := by decide +kernel
theorem dX0_firstToCheck_4 : decode cX0_firstToCheck 4 = .ok (.invokevirtual 80, 3) := by decide +kernel
theorem dX0_firstToCheck_7 : decode cX0_firstToCheck 7 = .ok (.if_icmp .ge 32, 3) := by decide +kernel
theorem dX0_firstToCheck_10 : decode cX0_firstToCheck 10 = .ok (.aload_n 1, 1) := by decide +kernel
theorem dX0_firstToCheck_11 : decode cX0_firstToCheck 11 = .ok (.iload_n 2, 1) := by decide +kernel
theorem dX0_firstToCheck_12 : decode cX0_firstToCheck 12 = .ok (.invokevirtual 91, 3) := by decide +kernel
theorem dX0_firstToCheck_15 : decode cX0_firstToCheck 15 = .ok (.aload_n 0, 1) := by decide +kernel
theorem dX0_firstToCheck_16 : decode cX0_firstToCheck 16 = .ok (.getfield 38, 3) := by decide +kernel
theorem dX0_firstToCheck_19 : decode cX0_firstToCheck 19 = .ok (.if_icmp .eq 14, 3) := by decide +kernel
theorem dX0_firstToCheck_22 : decode cX0_firstToCheck 22 = .ok (.aload_n 0, 1) := by decide +kernel
theorem dX0_firstToCheck_23 : decode cX0_firstToCheck 23 = .ok (.aload_n 1, 1) := by decide +kernel
theorem dX0_firstToCheck_24 : decode cX0_firstToCheck 24 = .ok (.iload_n 2, 1) := by decide +kernel
theorem dX0_firstToCheck_25 : decode cX0_firstToCheck 25 = .ok (.invokevirtual 113, 3) := by decide +kernel
theorem dX0_firstToCheck_28 : decode cX0_firstToCheck 28 = .ok (.ifCond .eq 5, 3) := by decide +kernel
theorem dX0_firstToCheck_31 : decode cX0_firstToCheck 31 = .ok (.iload_n 2, 1) := by decide +kernel
theorem dX0_firstToCheck_32 : decode cX0_firstToCheck 32 = .ok (.ireturn, 1) := by decide +kernel
theorem dX0_firstToCheck_33 : decode cX0_firstToCheck 33 = .ok (.iinc 2 1, 3) := by decide +kernel
theorem dX0_firstToCheck_36 : decode cX0_firstToCheck 36 = .ok (.goto (-34), 3) := by decide +kernel
theorem dX0_firstToCheck_39 : decode cX0_firstToCheck 39 = .ok (.bipush (-5), 2) := by decide +kernel
theorem dX0_firstToCheck_41 : decode cX0_firstToCheck 41 = .ok (.ireturn, 1) := by decide +kernel
theorem dX0_mostUrgentToCheck_0 : decode cX0_mostUrgentToCheck 0 = .ok (.aload_n 0, 1) := by decide +kernel
theorem dX0_mostUrgentToCheck_1 : decode cX0_mostUrgentToCheck 1 = .ok (.getfield 25, 3) := by decide +kernel
theorem dX0_mostUrgentToCheck_4 : decode cX0_mostUrgentToCheck 4 = .ok (.iconst 1, 1) := by decide +kernel
theorem dX0_mostUrgentToCheck_5 : decode cX0_mostUrgentToCheck 5 = .ok (.if_icmp .ge 5, 3) := by decide +kernel
theorem dX0_mostUrgentToCheck_8 : decode cX0_mostUrgentToCheck 8 = .ok (.aconst_null, 1) := by decide +kernel
theorem dX0_mostUrgentToCheck_9 : decode cX0_mostUrgentToCheck 9 = .ok (.areturn, 1) := by decide +kernel
theorem dX0_mostUrgentToCheck_10 : decode cX0_mostUrgentToCheck 10 = .ok (.aconst_null, 1) := by decide +kernel
theorem dX0_mostUrgentToCheck_11 : decode cX0_mostUrgentToCheck 11 = .ok (.astore_n 1, 1) := by decide +kernel
theorem dX0_mostUrgentToCheck_12 : decode cX0_mostUrgentToCheck 12 = .ok (.iconst 0, 1) := by decide +kernel
theorem dX0_mostUrgentToCheck_13 : decode cX0_mostUrgentToCheck 13 = .ok (.istore_n 2, 1) := by decide +kernel
theorem dX0_mostUrgentToCheck_14 : decode cX0_mostUrgentToCheck 14 = .ok (.iconst 0, 1) := by decide +kernel
theorem dX0_mostUrgentToCheck_15 : decode cX0_mostUrgentToCheck 15 = .ok (.istore_n 3, 1) := by decide +kernel
theorem dX0_mostUrgentToCheck_16 : decode cX0_mostUrgentToCheck 16 = .ok (.iload_n 3, 1) := by decide +kernel
theorem dX0_mostUrgentToCheck_17 : decode cX0_mostUrgentToCheck 17 = .ok (.aload_n 0, 1) := by decide +kernel
theorem dX0_mostUrgentToCheck_18 : decode cX0_mostUrgentToCheck 18 = .ok (.getfield 35, 3) := by decide +kernel
theorem dX0_mostUrgentToCheck_21 : decode cX0_mostUrgentToCheck 21 = .ok (.if_icmp .ge 65, 3) := by decide +kernel
theorem dX0_mostUrgentToCheck_24 : decode cX0_mostUrgentToCheck 24 = .ok (.aload_n 0, 1) := by decide +kernel
theorem dX0_mostUrgentToCheck_25 : decode cX0_mostUrgentToCheck 25 = .ok (.iload_n 3, 1) := by decide +kernel
theorem dX0_mostUrgentToCheck_26 : decode cX0_mostUrgentToCheck 26 = .ok (.invokevirtual 44, 3) := by decide +kernel
theorem dX0_mostUrgentToCheck_29 : decode cX0_mostUrgentToCheck 29 = .ok (.astore 4, 2) := by decide +kernel
theorem dX0_mostUrgentToCheck_31 : decode cX0_mostUrgentToCheck 31 = .ok (.aload 4, 2) := by decide +kernel
theorem dX0_mostUrgentToCheck_33 : decode cX0_mostUrgentToCheck 33 = .ok (.ifnull 47, 3) := by decide +kernel
theorem dX0_mostUrgentToCheck_36 : decode cX0_mostUrgentToCheck 36 = .ok (.aload 4, 2) := by decide +kernel
theorem dX0_mostUrgentToCheck_38 : decode cX0_mostUrgentToCheck 38 = .ok (.iconst 0, 1) := by decide +kernel
theorem dX0_mostUrgentToCheck_39 : decode cX0_mostUrgentToCheck 39 = .ok (.invokevirtual 77, 3) := by decide +kernel
theorem dX0_mostUrgentToCheck_42 : decode cX0_mostUrgentToCheck 42 = .ok (.ifCond .eq 38, 3) := by decide +kernel
theorem dX0_mostUrgentToCheck_45 : decode cX0_mostUrgentToCheck 45 = .ok (.aload_n 0, 1) := by decide +kernel
theorem dX0_mostUrgentToCheck_46 : decode cX0_mostUrgentToCheck 46 = .ok (.aload 4, 2) := by decide +kernel
theorem dX0_mostUrgentToCheck_48 : decode cX0_mostUrgentToCheck 48 = .ok (.invokevirtual 129, 3) := by decide +kernel
theorem dX0_mostUrgentToCheck_51 : decode cX0_mostUrgentToCheck 51 = .ok (.bipush (-5), 2) := by decide +kernel
theorem dX0_mostUrgentToCheck_53 : decode cX0_mostUrgentToCheck 53 = .ok (.if_icmp .eq 27, 3) := by decide +kernel
theorem dX0_mostUrgentToCheck_56 : decode cX0_mostUrgentToCheck 56 = .ok (.aload_n 0, 1) := by decide +kernel
theorem dX0_mostUrgentToCheck_57 : decode cX0_mostUrgentToCheck 57 = .ok (.aload 4, 2) := by decide +kernel
theorem dX0_mostUrgentToCheck_59 : decode cX0_mostUrgentToCheck 59 = .ok (.invokevirtual 122, 3) := by decide +kernel
theorem dX0_mostUrgentToCheck_62 : decode cX0_mostUrgentToCheck 62 = .ok (.istore 5, 2) := by decide +kernel
theorem dX0_mostUrgentToCheck_64 : decode cX0_mostUrgentToCheck 64 = .ok (.aload_n 1, 1) := by decide +kernel
theorem dX0_mostUrgentToCheck_65 : decode cX0_mostUrgentToCheck 65 = .ok (.ifnull 9, 3) := by decide +kernel
theorem dX0_mostUrgentToCheck_68 : decode cX0_mostUrgentToCheck 68 = .ok (.iload 5, 2) := by decide +kernel
theorem dX0_mostUrgentToCheck_70 : decode cX0_mostUrgentToCheck 70 = .ok (.iload_n 2, 1) := by decide +kernel
theorem dX0_mostUrgentToCheck_71 : decode cX0_mostUrgentToCheck 71 = .ok (.if_icmp .le 9, 3) := by decide +kernel
theorem dX0_mostUrgentToCheck_74 : decode cX0_mostUrgentToCheck 74 = .ok (.aload 4, 2) := by decide +kernel
theorem dX0_mostUrgentToCheck_76 : decode cX0_mostUrgentToCheck 76 = .ok (.astore_n 1, 1) := by decide +kernel
theorem dX0_mostUrgentToCheck_77 : decode cX0_mostUrgentToCheck 77 = .ok (.iload 5, 2) := by decide +kernel
theorem dX0_mostUrgentToCheck_79 : decode cX0_mostUrgentToCheck 79 = .ok (.istore_n 2, 1) := by decide +kernel
theorem dX0_mostUrgentToCheck_80 : decode cX0_mostUrgentToCheck 80 = .ok (.iinc 3 1, 3) := by decide +kernel
theorem dX0_mostUrgentToCheck_83 : decode cX0_mostUrgentToCheck 83 = .ok (.goto (-67), 3) := by decide +kernel
theorem dX0_mostUrgentToCheck_86 : decode cX0_mostUrgentToCheck 86 = .ok (.aload_n 1, 1) := by decide +kernel
theorem dX0_mostUrgentToCheck_87 : decode cX0_mostUrgentToCheck 87 = .ok (.areturn, 1) := by decide +kernel
theorem dX0_checkToday_0 : decode cX0_checkToday 0 = .ok (.aload_n 1, 1) := by decide +kernel
theorem dX0_checkToday_1 : decode cX0_checkToday 1 = .ok (.iload_n 2, 1) := by decide +kernel
theorem dX0_checkToday_2 : decode cX0_checkToday 2 = .ok (.aload_n 0, 1) := by decide +kernel
theorem dX0_checkToday_3 : decode cX0_checkToday 3 = .ok (.getfield 38, 3) := by decide +kernel
theorem dX0_checkToday_6 : decode cX0_checkToday 6 = .ok (.invokevirtual 132, 3) := by decide +kernel
theorem dX0_checkToday_9 : decode cX0_checkToday 9 = .ok (.aload_n 0, 1) := by decide +kernel
theorem dX0_checkToday_10 : decode cX0_checkToday 10 = .ok (.iconst 1, 1) := by decide +kernel
theorem dX0_checkToday_11 : decode cX0_checkToday 11 = .ok (.invokevirtual 135, 3) := by decide +kernel
theorem dX0_checkToday_14 : decode cX0_checkToday 14 = .ok (.return_, 1) := by decide +kernel
theorem dX0_couldPrint_0 : decode cX0_couldPrint 0 = .ok (.aload_n 1, 1) := by decide +kernel
theorem dX0_couldPrint_1 : decode cX0_couldPrint 1 = .ok (.invokevirtual 139, 3) := by decide +kernel
theorem dX0_couldPrint_4 : decode cX0_couldPrint 4 = .ok (.aload_n 0, 1) := by decide +kernel
theorem dX0_couldPrint_5 : decode cX0_couldPrint 5 = .ok (.iconst 3, 1) := by decide +kernel
theorem dX0_couldPrint_6 : decode cX0_couldPrint 6 = .ok (.invokevirtual 102, 3) := by decide +kernel
theorem dX0_couldPrint_9 : decode cX0_couldPrint 9 = .ok (.if_icmp .lt 19, 3) := by decide +kernel
theorem dX0_couldPrint_12 : decode cX0_couldPrint 12 = .ok (.aload_n 0, 1) := by decide +kernel
theorem dX0_couldPrint_13 : decode cX0_couldPrint 13 = .ok (.aload_n 1, 1) := by decide +kernel
theorem dX0_couldPrint_14 : decode cX0_couldPrint 14 = .ok (.aload_n 0, 1) := by decide +kernel
theorem dX0_couldPrint_15 : decode cX0_couldPrint 15 = .ok (.getfield 38, 3) := by decide +kernel
theorem dX0_couldPrint_18 : decode cX0_couldPrint 18 = .ok (.invokevirtual 109, 3) := by decide +kernel
theorem dX0_couldPrint_21 : decode cX0_couldPrint 21 = .ok (.ifCond .ne 7, 3) := by decide +kernel
theorem dX0_couldPrint_24 : decode cX0_couldPrint 24 = .ok (.iconst 1, 1) := by decide +kernel
theorem dX0_couldPrint_25 : decode cX0_couldPrint 25 = .ok (.goto 4, 3) := by decide +kernel
theorem dX0_couldPrint_28 : decode cX0_couldPrint 28 = .ok (.iconst 0, 1) := by decide +kernel
theorem dX0_couldPrint_29 : decode cX0_couldPrint 29 = .ok (.ireturn, 1) := by decide +kernel
theorem dX0_markPrinted_0 : decode cX0_markPrinted 0 = .ok (.aload_n 0, 1) := by decide +kernel
theorem dX0_markPrinted_1 : decode cX0_markPrinted 1 = .ok (.iload_n 1, 1) := by decide +kernel
theorem dX0_markPrinted_2 : decode cX0_markPrinted 2 = .ok (.invokevirtual 44, 3) := by decide +kernel
theorem dX0_markPrinted_5 : decode cX0_markPrinted 5 = .ok (.astore_n 2, 1) := by decide +kernel
theorem dX0_markPrinted_6 : decode cX0_markPrinted 6 = .ok (.aload_n 2, 1) := by decide +kernel
theorem dX0_markPrinted_7 : decode cX0_markPrinted 7 = .ok (.ifnull 11, 3) := by decide +kernel
theorem dX0_markPrinted_10 : decode cX0_markPrinted 10 = .ok (.aload_n 2, 1) := by decide +kernel
theorem dX0_markPrinted_11 : decode cX0_markPrinted 11 = .ok (.aload_n 0, 1) := by decide +kernel
theorem dX0_markPrinted_12 : decode cX0_markPrinted 12 = .ok (.getfield 38, 3) := by decide +kernel
theorem dX0_markPrinted_15 : decode cX0_markPrinted 15 = .ok (.invokevirtual 142, 3) := by decide +kernel
theorem dX0_markPrinted_18 : decode cX0_markPrinted 18 = .ok (.return_, 1) := by decide +kernel
theorem dX0_takeBackOldDeaths_0 : decode cX0_takeBackOldDeaths 0 = .ok (.iconst 0, 1) := by decide +kernel
theorem dX0_takeBackOldDeaths_1 : decode cX0_takeBackOldDeaths 1 = .ok (.istore_n 1, 1) := by decide +kernel
theorem dX0_takeBackOldDeaths_2 : decode cX0_takeBackOldDeaths 2 = .ok (.iload_n 1, 1) := by decide +kernel
theorem dX0_takeBackOldDeaths_3 : decode cX0_takeBackOldDeaths 3 = .ok (.aload_n 0, 1) := by decide +kernel
theorem dX0_takeBackOldDeaths_4 : decode cX0_takeBackOldDeaths 4 = .ok (.getfield 35, 3) := by decide +kernel
theorem dX0_takeBackOldDeaths_7 : decode cX0_takeBackOldDeaths 7 = .ok (.if_icmp .ge 50, 3) := by decide +kernel
theorem dX0_takeBackOldDeaths_10 : decode cX0_takeBackOldDeaths 10 = .ok (.aload_n 0, 1) := by decide +kernel
theorem dX0_takeBackOldDeaths_11 : decode cX0_takeBackOldDeaths 11 = .ok (.iload_n 1, 1) := by decide +kernel
theorem dX0_takeBackOldDeaths_12 : decode cX0_takeBackOldDeaths 12 = .ok (.invokevirtual 44, 3) := by decide +kernel
theorem dX0_takeBackOldDeaths_15 : decode cX0_takeBackOldDeaths 15 = .ok (.astore_n 2, 1) := by decide +kernel
theorem dX0_takeBackOldDeaths_16 : decode cX0_takeBackOldDeaths 16 = .ok (.aload_n 2, 1) := by decide +kernel
theorem dX0_takeBackOldDeaths_17 : decode cX0_takeBackOldDeaths 17 = .ok (.ifnull 34, 3) := by decide +kernel
theorem dX0_takeBackOldDeaths_20 : decode cX0_takeBackOldDeaths 20 = .ok (.aload_n 2, 1) := by decide +kernel
theorem dX0_takeBackOldDeaths_21 : decode cX0_takeBackOldDeaths 21 = .ok (.iconst 1, 1) := by decide +kernel
theorem dX0_takeBackOldDeaths_22 : decode cX0_takeBackOldDeaths 22 = .ok (.invokevirtual 77, 3) := by decide +kernel
theorem dX0_takeBackOldDeaths_25 : decode cX0_takeBackOldDeaths 25 = .ok (.ifCond .eq 26, 3) := by decide +kernel
theorem dX0_takeBackOldDeaths_28 : decode cX0_takeBackOldDeaths 28 = .ok (.aload_n 0, 1) := by decide +kernel
theorem dX0_takeBackOldDeaths_29 : decode cX0_takeBackOldDeaths 29 = .ok (.getfield 38, 3) := by decide +kernel
theorem dX0_takeBackOldDeaths_32 : decode cX0_takeBackOldDeaths 32 = .ok (.iconst 1, 1) := by decide +kernel
theorem dX0_takeBackOldDeaths_33 : decode cX0_takeBackOldDeaths 33 = .ok (.iadd, 1) := by decide +kernel
theorem dX0_takeBackOldDeaths_34 : decode cX0_takeBackOldDeaths 34 = .ok (.aload_n 2, 1) := by decide +kernel
theorem dX0_takeBackOldDeaths_35 : decode cX0_takeBackOldDeaths 35 = .ok (.invokevirtual 145, 3) := by decide +kernel
theorem dX0_takeBackOldDeaths_38 : decode cX0_takeBackOldDeaths 38 = .ok (.aload_n 0, 1) := by decide +kernel
theorem dX0_takeBackOldDeaths_39 : decode cX0_takeBackOldDeaths 39 = .ok (.iconst 4, 1) := by decide +kernel
theorem dX0_takeBackOldDeaths_40 : decode cX0_takeBackOldDeaths 40 = .ok (.invokevirtual 102, 3) := by decide +kernel
theorem dX0_takeBackOldDeaths_43 : decode cX0_takeBackOldDeaths 43 = .ok (.iadd, 1) := by decide +kernel
theorem dX0_takeBackOldDeaths_44 : decode cX0_takeBackOldDeaths 44 = .ok (.if_icmp .lt 7, 3) := by decide +kernel
theorem dX0_takeBackOldDeaths_47 : decode cX0_takeBackOldDeaths 47 = .ok (.aload_n 2, 1) := by decide +kernel
theorem dX0_takeBackOldDeaths_48 : decode cX0_takeBackOldDeaths 48 = .ok (.invokevirtual 148, 3) := by decide +kernel
theorem dX0_takeBackOldDeaths_51 : decode cX0_takeBackOldDeaths 51 = .ok (.iinc 1 1, 3) := by decide +kernel
theorem dX0_takeBackOldDeaths_54 : decode cX0_takeBackOldDeaths 54 = .ok (.goto (-52), 3) := by decide +kernel
theorem dX0_takeBackOldDeaths_57 : decode cX0_takeBackOldDeaths 57 = .ok (.return_, 1) := by decide +kernel
theorem dX0_beginNextDay_0 : decode cX0_beginNextDay 0 = .ok (.aload_n 0, 1) := by decide +kernel
theorem dX0_beginNextDay_1 : decode cX0_beginNextDay 1 = .ok (.dup, 1) := by decide +kernel
theorem dX0_beginNextDay_2 : decode cX0_beginNextDay 2 = .ok (.getfield 38, 3) := by decide +kernel
theorem dX0_beginNextDay_5 : decode cX0_beginNextDay 5 = .ok (.iconst 1, 1) := by decide +kernel
theorem dX0_beginNextDay_6 : decode cX0_beginNextDay 6 = .ok (.iadd, 1) := by decide +kernel
theorem dX0_beginNextDay_7 : decode cX0_beginNextDay 7 = .ok (.putfield 38, 3) := by decide +kernel
theorem dX0_beginNextDay_10 : decode cX0_beginNextDay 10 = .ok (.aload_n 0, 1) := by decide +kernel
theorem dX0_beginNextDay_11 : decode cX0_beginNextDay 11 = .ok (.aload_n 0, 1) := by decide +kernel
theorem dX0_beginNextDay_12 : decode cX0_beginNextDay 12 = .ok (.iconst 0, 1) := by decide +kernel
theorem dX0_beginNextDay_13 : decode cX0_beginNextDay 13 = .ok (.invokevirtual 102, 3) := by decide +kernel
theorem dX0_beginNextDay_16 : decode cX0_beginNextDay 16 = .ok (.putfield 25, 3) := by decide +kernel
theorem dX0_beginNextDay_19 : decode cX0_beginNextDay 19 = .ok (.return_, 1) := by decide +kernel
theorem dX1_init_0 : decode cX1_init 0 = .ok (.aload_n 0, 1) := by decide +kernel
theorem dX1_init_1 : decode cX1_init 1 = .ok (.invokespecial 3, 3) := by decide +kernel
theorem dX1_init_4 : decode cX1_init 4 = .ok (.aload_n 0, 1) := by decide +kernel
theorem dX1_init_5 : decode cX1_init 5 = .ok (.iconst 4, 1) := by decide +kernel
theorem dX1_init_6 : decode cX1_init 6 = .ok (.anewarray 9, 3) := by decide +kernel
theorem dX1_init_9 : decode cX1_init 9 = .ok (.putfield 11, 3) := by decide +kernel
theorem dX1_init_12 : decode cX1_init 12 = .ok (.iconst 0, 1) := by decide +kernel
theorem dX1_init_13 : decode cX1_init 13 = .ok (.istore_n 1, 1) := by decide +kernel
theorem dX1_init_14 : decode cX1_init 14 = .ok (.iload_n 1, 1) := by decide +kernel
theorem dX1_init_15 : decode cX1_init 15 = .ok (.iconst 4, 1) := by decide +kernel
theorem dX1_init_16 : decode cX1_init 16 = .ok (.if_icmp .ge 22, 3) := by decide +kernel
theorem dX1_init_19 : decode cX1_init 19 = .ok (.aload_n 0, 1) := by decide +kernel
theorem dX1_init_20 : decode cX1_init 20 = .ok (.getfield 11, 3) := by decide +kernel
theorem dX1_init_23 : decode cX1_init 23 = .ok (.iload_n 1, 1) := by decide +kernel
theorem dX1_init_24 : decode cX1_init 24 = .ok (.new 9, 3) := by decide +kernel
theorem dX1_init_27 : decode cX1_init 27 = .ok (.dup, 1) := by decide +kernel
theorem dX1_init_28 : decode cX1_init 28 = .ok (.invokespecial 17, 3) := by decide +kernel
theorem dX1_init_31 : decode cX1_init 31 = .ok (.aastore, 1) := by decide +kernel
theorem dX1_init_32 : decode cX1_init 32 = .ok (.iinc 1 1, 3) := by decide +kernel
theorem dX1_init_35 : decode cX1_init 35 = .ok (.goto (-21), 3) := by decide +kernel
theorem dX1_init_38 : decode cX1_init 38 = .ok (.return_, 1) := by decide +kernel
theorem dX1_size_0 : decode cX1_size 0 = .ok (.aload_n 0, 1) := by decide +kernel
theorem dX1_size_1 : decode cX1_size 1 = .ok (.getfield 18, 3) := by decide +kernel
theorem dX1_size_4 : decode cX1_size 4 = .ok (.ireturn, 1) := by decide +kernel
theorem dX1_remember_0 : decode cX1_remember 0 = .ok (.aload_n 0, 1) := by decide +kernel
theorem dX1_remember_1 : decode cX1_remember 1 = .ok (.getfield 18, 3) := by decide +kernel
theorem dX1_remember_4 : decode cX1_remember 4 = .ok (.iconst 4, 1) := by decide +kernel
theorem dX1_remember_5 : decode cX1_remember 5 = .ok (.if_icmp .lt 20, 3) := by decide +kernel
theorem dX1_remember_8 : decode cX1_remember 8 = .ok (.aload_n 0, 1) := by decide +kernel
theorem dX1_remember_9 : decode cX1_remember 9 = .ok (.aload_n 0, 1) := by decide +kernel
theorem dX1_remember_10 : decode cX1_remember 10 = .ok (.getfield 22, 3) := by decide +kernel
theorem dX1_remember_13 : decode cX1_remember 13 = .ok (.iconst 1, 1) := by decide +kernel
theorem dX1_remember_14 : decode cX1_remember 14 = .ok (.iadd, 1) := by decide +kernel
theorem dX1_remember_15 : decode cX1_remember 15 = .ok (.iconst 4, 1) := by decide +kernel
theorem dX1_remember_16 : decode cX1_remember 16 = .ok (.irem, 1) := by decide +kernel
theorem dX1_remember_17 : decode cX1_remember 17 = .ok (.putfield 22, 3) := by decide +kernel
theorem dX1_remember_20 : decode cX1_remember 20 = .ok (.aload_n 0, 1) := by decide +kernel
theorem dX1_remember_21 : decode cX1_remember 21 = .ok (.iconst 3, 1) := by decide +kernel
theorem dX1_remember_22 : decode cX1_remember 22 = .ok (.putfield 18, 3) := by decide +kernel
theorem dX1_remember_25 : decode cX1_remember 25 = .ok (.aload_n 0, 1) := by decide +kernel
theorem dX1_remember_26 : decode cX1_remember 26 = .ok (.aload_n 0, 1) := by decide +kernel
theorem dX1_remember_27 : decode cX1_remember 27 = .ok (.getfield 18, 3) := by decide +kernel
theorem dX1_remember_30 : decode cX1_remember 30 = .ok (.invokevirtual 25, 3) := by decide +kernel
theorem dX1_remember_33 : decode cX1_remember 33 = .ok (.astore_n 2, 1) := by decide +kernel
theorem dX1_remember_34 : decode cX1_remember 34 = .ok (.aload_n 2, 1) := by decide +kernel
theorem dX1_remember_35 : decode cX1_remember 35 = .ok (.ifnull 18, 3) := by decide +kernel
theorem dX1_remember_38 : decode cX1_remember 38 = .ok (.aload_n 2, 1) := by decide +kernel
theorem dX1_remember_39 : decode cX1_remember 39 = .ok (.aload_n 1, 1) := by decide +kernel
theorem dX1_remember_40 : decode cX1_remember 40 = .ok (.invokevirtual 29, 3) := by decide +kernel
theorem dX1_remember_43 : decode cX1_remember 43 = .ok (.aload_n 0, 1) := by decide +kernel
theorem dX1_remember_44 : decode cX1_remember 44 = .ok (.dup, 1) := by decide +kernel
theorem dX1_remember_45 : decode cX1_remember 45 = .ok (.getfield 18, 3) := by decide +kernel
theorem dX1_remember_48 : decode cX1_remember 48 = .ok (.iconst 1, 1) := by decide +kernel
theorem dX1_remember_49 : decode cX1_remember 49 = .ok (.iadd, 1) := by decide +kernel
theorem dX1_remember_50 : decode cX1_remember 50 = .ok (.putfield 18, 3) := by decide +kernel
theorem dX1_remember_53 : decode cX1_remember 53 = .ok (.return_, 1) := by decide +kernel
theorem dX1_takeLatest_0 : decode cX1_takeLatest 0 = .ok (.aload_n 0, 1) := by decide +kernel
theorem dX1_takeLatest_1 : decode cX1_takeLatest 1 = .ok (.aload_n 0, 1) := by decide +kernel
theorem dX1_takeLatest_2 : decode cX1_takeLatest 2 = .ok (.getfield 18, 3) := by decide +kernel
theorem dX1_takeLatest_5 : decode cX1_takeLatest 5 = .ok (.iconst 1, 1) := by decide +kernel
theorem dX1_takeLatest_6 : decode cX1_takeLatest 6 = .ok (.isub, 1) := by decide +kernel
theorem dX1_takeLatest_7 : decode cX1_takeLatest 7 = .ok (.invokevirtual 25, 3) := by decide +kernel
theorem dX1_takeLatest_10 : decode cX1_takeLatest 10 = .ok (.astore_n 2, 1) := by decide +kernel
theorem dX1_takeLatest_11 : decode cX1_takeLatest 11 = .ok (.aload_n 2, 1) := by decide +kernel
theorem dX1_takeLatest_12 : decode cX1_takeLatest 12 = .ok (.ifnull 18, 3) := by decide +kernel
theorem dX1_takeLatest_15 : decode cX1_takeLatest 15 = .ok (.aload_n 1, 1) := by decide +kernel
theorem dX1_takeLatest_16 : decode cX1_takeLatest 16 = .ok (.aload_n 2, 1) := by decide +kernel
theorem dX1_takeLatest_17 : decode cX1_takeLatest 17 = .ok (.invokevirtual 29, 3) := by decide +kernel
theorem dX1_takeLatest_20 : decode cX1_takeLatest 20 = .ok (.aload_n 0, 1) := by decide +kernel
theorem dX1_takeLatest_21 : decode cX1_takeLatest 21 = .ok (.dup, 1) := by decide +kernel
theorem dX1_takeLatest_22 : decode cX1_takeLatest 22 = .ok (.getfield 18, 3) := by decide +kernel
theorem dX1_takeLatest_25 : decode cX1_takeLatest 25 = .ok (.iconst 1, 1) := by decide +kernel
theorem dX1_takeLatest_26 : decode cX1_takeLatest 26 = .ok (.isub, 1) := by decide +kernel
theorem dX1_takeLatest_27 : decode cX1_takeLatest 27 = .ok (.putfield 18, 3) := by decide +kernel
theorem dX1_takeLatest_30 : decode cX1_takeLatest 30 = .ok (.return_, 1) := by decide +kernel
theorem dX1_stateAt_0 : decode cX1_stateAt 0 = .ok (.aload_n 0, 1) := by decide +kernel
theorem dX1_stateAt_1 : decode cX1_stateAt 1 = .ok (.getfield 22, 3) := by decide +kernel
theorem dX1_stateAt_4 : decode cX1_stateAt 4 = .ok (.iload_n 1, 1) := by decide +kernel
theorem dX1_stateAt_5 : decode cX1_stateAt 5 = .ok (.iadd, 1) := by decide +kernel
theorem dX1_stateAt_6 : decode cX1_stateAt 6 = .ok (.istore_n 2, 1) := by decide +kernel
theorem dX1_stateAt_7 : decode cX1_stateAt 7 = .ok (.iload_n 1, 1) := by decide +kernel
theorem dX1_stateAt_8 : decode cX1_stateAt 8 = .ok (.ifCond .lt 7, 3) := by decide +kernel
theorem dX1_stateAt_11 : decode cX1_stateAt 11 = .ok (.iload_n 2, 1) := by decide +kernel
theorem dX1_stateAt_12 : decode cX1_stateAt 12 = .ok (.ifCond .ge 5, 3) := by decide +kernel
theorem dX1_stateAt_15 : decode cX1_stateAt 15 = .ok (.aconst_null, 1) := by decide +kernel
theorem dX1_stateAt_16 : decode cX1_stateAt 16 = .ok (.areturn, 1) := by decide +kernel
theorem dX1_stateAt_17 : decode cX1_stateAt 17 = .ok (.aload_n 0, 1) := by decide +kernel
theorem dX1_stateAt_18 : decode cX1_stateAt 18 = .ok (.getfield 11, 3) := by decide +kernel
theorem dX1_stateAt_21 : decode cX1_stateAt 21 = .ok (.iload_n 2, 1) := by decide +kernel
theorem dX1_stateAt_22 : decode cX1_stateAt 22 = .ok (.iconst 4, 1) := by decide +kernel
theorem dX1_stateAt_23 : decode cX1_stateAt 23 = .ok (.irem, 1) := by decide +kernel
theorem dX1_stateAt_24 : decode cX1_stateAt 24 = .ok (.aaload, 1) := by decide +kernel
theorem dX1_stateAt_25 : decode cX1_stateAt 25 = .ok (.areturn, 1) := by decide +kernel
theorem dX2_init_0 : decode cX2_init 0 = .ok (.aload_n 0, 1) := by decide +kernel
theorem dX2_init_1 : decode cX2_init 1 = .ok (.invokespecial 3, 3) := by decide +kernel
theorem dX2_init_4 : decode cX2_init 4 = .ok (.aload_n 0, 1) := by decide +kernel
theorem dX2_init_5 : decode cX2_init 5 = .ok (.bipush (-5), 2) := by decide +kernel
theorem dX2_init_7 : decode cX2_init 7 = .ok (.putfield 9, 3) := by decide +kernel
theorem dX2_init_10 : decode cX2_init 10 = .ok (.aload_n 0, 1) := by decide +kernel
theorem dX2_init_11 : decode cX2_init 11 = .ok (.bipush (-5), 2) := by decide +kernel
theorem dX2_init_13 : decode cX2_init 13 = .ok (.putfield 15, 3) := by decide +kernel
theorem dX2_init_16 : decode cX2_init 16 = .ok (.aload_n 0, 1) := by decide +kernel
theorem dX2_init_17 : decode cX2_init 17 = .ok (.bipush (-5), 2) := by decide +kernel
theorem dX2_init_19 : decode cX2_init 19 = .ok (.putfield 18, 3) := by decide +kernel
theorem dX2_init_22 : decode cX2_init 22 = .ok (.aload_n 0, 1) := by decide +kernel
theorem dX2_init_23 : decode cX2_init 23 = .ok (.bipush 8, 2) := by decide +kernel
theorem dX2_init_25 : decode cX2_init 25 = .ok (.newarray .int, 2) := by decide +kernel
theorem dX2_init_27 : decode cX2_init 27 = .ok (.putfield 21, 3) := by decide +kernel
theorem dX2_init_30 : decode cX2_init 30 = .ok (.aload_n 0, 1) := by decide +kernel
theorem dX2_init_31 : decode cX2_init 31 = .ok (.bipush 8, 2) := by decide +kernel
theorem dX2_init_33 : decode cX2_init 33 = .ok (.newarray .int, 2) := by decide +kernel
theorem dX2_init_35 : decode cX2_init 35 = .ok (.putfield 25, 3) := by decide +kernel
theorem dX2_init_38 : decode cX2_init 38 = .ok (.aload_n 0, 1) := by decide +kernel
theorem dX2_init_39 : decode cX2_init 39 = .ok (.bipush 8, 2) := by decide +kernel
theorem dX2_init_41 : decode cX2_init 41 = .ok (.newarray .int, 2) := by decide +kernel
theorem dX2_init_43 : decode cX2_init 43 = .ok (.putfield 28, 3) := by decide +kernel
theorem dX2_init_46 : decode cX2_init 46 = .ok (.return_, 1) := by decide +kernel
theorem dX2_begin_0 : decode cX2_begin 0 = .ok (.aload_n 0, 1) := by decide +kernel
theorem dX2_begin_1 : decode cX2_begin 1 = .ok (.iload_n 1, 1) := by decide +kernel
theorem dX2_begin_2 : decode cX2_begin 2 = .ok (.putfield 31, 3) := by decide +kernel
theorem dX2_begin_5 : decode cX2_begin 5 = .ok (.aload_n 0, 1) := by decide +kernel
theorem dX2_begin_6 : decode cX2_begin 6 = .ok (.iload_n 2, 1) := by decide +kernel
theorem dX2_begin_7 : decode cX2_begin 7 = .ok (.putfield 34, 3) := by decide +kernel
theorem dX2_begin_10 : decode cX2_begin 10 = .ok (.aload_n 0, 1) := by decide +kernel
theorem dX2_begin_11 : decode cX2_begin 11 = .ok (.bipush (-5), 2) := by decide +kernel
theorem dX2_begin_13 : decode cX2_begin 13 = .ok (.putfield 18, 3) := by decide +kernel
theorem dX2_begin_16 : decode cX2_begin 16 = .ok (.aload_n 0, 1) := by decide +kernel
theorem dX2_begin_17 : decode cX2_begin 17 = .ok (.iconst 0, 1) := by decide +kernel
theorem dX2_begin_18 : decode cX2_begin 18 = .ok (.putfield 37, 3) := by decide +kernel
theorem dX2_begin_21 : decode cX2_begin 21 = .ok (.aload_n 0, 1) := by decide +kernel
theorem dX2_begin_22 : decode cX2_begin 22 = .ok (.invokevirtual 40, 3) := by decide +kernel
theorem dX2_begin_25 : decode cX2_begin 25 = .ok (.return_, 1) := by decide +kernel
theorem dX2_copyLife_0 : decode cX2_copyLife 0 = .ok (.aload_n 0, 1) := by decide +kernel
theorem dX2_copyLife_1 : decode cX2_copyLife 1 = .ok (.aload_n 1, 1) := by decide +kernel
theorem dX2_copyLife_2 : decode cX2_copyLife 2 = .ok (.getfield 31, 3) := by decide +kernel
theorem dX2_copyLife_5 : decode cX2_copyLife 5 = .ok (.putfield 31, 3) := by decide +kernel
theorem dX2_copyLife_8 : decode cX2_copyLife 8 = .ok (.aload_n 0, 1) := by decide +kernel
theorem dX2_copyLife_9 : decode cX2_copyLife 9 = .ok (.aload_n 1, 1) := by decide +kernel
theorem dX2_copyLife_10 : decode cX2_copyLife 10 = .ok (.getfield 34, 3) := by decide +kernel
theorem dX2_copyLife_13 : decode cX2_copyLife 13 = .ok (.putfield 34, 3) := by decide +kernel
theorem dX2_copyLife_16 : decode cX2_copyLife 16 = .ok (.aload_n 0, 1) := by decide +kernel
theorem dX2_copyLife_17 : decode cX2_copyLife 17 = .ok (.aload_n 1, 1) := by decide +kernel
theorem dX2_copyLife_18 : decode cX2_copyLife 18 = .ok (.getfield 43, 3) := by decide +kernel
theorem dX2_copyLife_21 : decode cX2_copyLife 21 = .ok (.putfield 43, 3) := by decide +kernel
theorem dX2_copyLife_24 : decode cX2_copyLife 24 = .ok (.aload_n 0, 1) := by decide +kernel
theorem dX2_copyLife_25 : decode cX2_copyLife 25 = .ok (.aload_n 1, 1) := by decide +kernel
theorem dX2_copyLife_26 : decode cX2_copyLife 26 = .ok (.getfield 9, 3) := by decide +kernel
theorem dX2_copyLife_29 : decode cX2_copyLife 29 = .ok (.putfield 9, 3) := by decide +kernel
theorem dX2_copyLife_32 : decode cX2_copyLife 32 = .ok (.aload_n 0, 1) := by decide +kernel
theorem dX2_copyLife_33 : decode cX2_copyLife 33 = .ok (.aload_n 1, 1) := by decide +kernel
theorem dX2_copyLife_34 : decode cX2_copyLife 34 = .ok (.getfield 15, 3) := by decide +kernel
theorem dX2_copyLife_37 : decode cX2_copyLife 37 = .ok (.putfield 15, 3) := by decide +kernel
theorem dX2_copyLife_40 : decode cX2_copyLife 40 = .ok (.aload_n 0, 1) := by decide +kernel
theorem dX2_copyLife_41 : decode cX2_copyLife 41 = .ok (.aload_n 1, 1) := by decide +kernel
theorem dX2_copyLife_42 : decode cX2_copyLife 42 = .ok (.getfield 18, 3) := by decide +kernel
theorem dX2_copyLife_45 : decode cX2_copyLife 45 = .ok (.putfield 18, 3) := by decide +kernel
theorem dX2_copyLife_48 : decode cX2_copyLife 48 = .ok (.aload_n 0, 1) := by decide +kernel
theorem dX2_copyLife_49 : decode cX2_copyLife 49 = .ok (.aload_n 1, 1) := by decide +kernel
theorem dX2_copyLife_50 : decode cX2_copyLife 50 = .ok (.getfield 37, 3) := by decide +kernel
theorem dX2_copyLife_53 : decode cX2_copyLife 53 = .ok (.putfield 37, 3) := by decide +kernel
theorem dX2_copyLife_56 : decode cX2_copyLife 56 = .ok (.aload_n 1, 1) := by decide +kernel
theorem dX2_copyLife_57 : decode cX2_copyLife 57 = .ok (.getfield 21, 3) := by decide +kernel
theorem dX2_copyLife_60 : decode cX2_copyLife 60 = .ok (.iconst 0, 1) := by decide +kernel
theorem dX2_copyLife_61 : decode cX2_copyLife 61 = .ok (.aload_n 0, 1) := by decide +kernel
theorem dX2_copyLife_62 : decode cX2_copyLife 62 = .ok (.getfield 21, 3) := by decide +kernel
theorem dX2_copyLife_65 : decode cX2_copyLife 65 = .ok (.iconst 0, 1) := by decide +kernel
theorem dX2_copyLife_66 : decode cX2_copyLife 66 = .ok (.bipush 8, 2) := by decide +kernel
theorem dX2_copyLife_68 : decode cX2_copyLife 68 = .ok (.invokestatic 46, 3) := by decide +kernel
theorem dX2_copyLife_71 : decode cX2_copyLife 71 = .ok (.aload_n 1, 1) := by decide +kernel
theorem dX2_copyLife_72 : decode cX2_copyLife 72 = .ok (.getfield 25, 3) := by decide +kernel
theorem dX2_copyLife_75 : decode cX2_copyLife 75 = .ok (.iconst 0, 1) := by decide +kernel
theorem dX2_copyLife_76 : decode cX2_copyLife 76 = .ok (.aload_n 0, 1) := by decide +kernel
theorem dX2_copyLife_77 : decode cX2_copyLife 77 = .ok (.getfield 25, 3) := by decide +kernel
theorem dX2_copyLife_80 : decode cX2_copyLife 80 = .ok (.iconst 0, 1) := by decide +kernel
theorem dX2_copyLife_81 : decode cX2_copyLife 81 = .ok (.bipush 8, 2) := by decide +kernel
theorem dX2_copyLife_83 : decode cX2_copyLife 83 = .ok (.invokestatic 46, 3) := by decide +kernel
theorem dX2_copyLife_86 : decode cX2_copyLife 86 = .ok (.aload_n 1, 1) := by decide +kernel
theorem dX2_copyLife_87 : decode cX2_copyLife 87 = .ok (.getfield 28, 3) := by decide +kernel
theorem dX2_copyLife_90 : decode cX2_copyLife 90 = .ok (.iconst 0, 1) := by decide +kernel
theorem dX2_copyLife_91 : decode cX2_copyLife 91 = .ok (.aload_n 0, 1) := by decide +kernel
theorem dX2_copyLife_92 : decode cX2_copyLife 92 = .ok (.getfield 28, 3) := by decide +kernel
theorem dX2_copyLife_95 : decode cX2_copyLife 95 = .ok (.iconst 0, 1) := by decide +kernel
theorem dX2_copyLife_96 : decode cX2_copyLife 96 = .ok (.bipush 8, 2) := by decide +kernel
theorem dX2_copyLife_98 : decode cX2_copyLife 98 = .ok (.invokestatic 46, 3) := by decide +kernel
theorem dX2_copyLife_101 : decode cX2_copyLife 101 = .ok (.return_, 1) := by decide +kernel
theorem dX2_age_0 : decode cX2_age 0 = .ok (.aload_n 0, 1) := by decide +kernel
theorem dX2_age_1 : decode cX2_age 1 = .ok (.getfield 31, 3) := by decide +kernel
theorem dX2_age_4 : decode cX2_age 4 = .ok (.ireturn, 1) := by decide +kernel
theorem dX2_rank_0 : decode cX2_rank 0 = .ok (.aload_n 0, 1) := by decide +kernel
theorem dX2_rank_1 : decode cX2_rank 1 = .ok (.getfield 34, 3) := by decide +kernel
theorem dX2_rank_4 : decode cX2_rank 4 = .ok (.ireturn, 1) := by decide +kernel
theorem dX2_state_0 : decode cX2_state 0 = .ok (.aload_n 0, 1) := by decide +kernel
theorem dX2_state_1 : decode cX2_state 1 = .ok (.getfield 43, 3) := by decide +kernel
theorem dX2_state_4 : decode cX2_state 4 = .ok (.ireturn, 1) := by decide +kernel
theorem dX2_isIn_0 : decode cX2_isIn 0 = .ok (.aload_n 0, 1) := by decide +kernel
theorem dX2_isIn_1 : decode cX2_isIn 1 = .ok (.getfield 43, 3) := by decide +kernel
theorem dX2_isIn_4 : decode cX2_isIn 4 = .ok (.iload_n 1, 1) := by decide +kernel
theorem dX2_isIn_5 : decode cX2_isIn 5 = .ok (.if_icmp .ne 7, 3) := by decide +kernel
theorem dX2_isIn_8 : decode cX2_isIn 8 = .ok (.iconst 1, 1) := by decide +kernel
theorem dX2_isIn_9 : decode cX2_isIn 9 = .ok (.goto 4, 3) := by decide +kernel
theorem dX2_isIn_12 : decode cX2_isIn 12 = .ok (.iconst 0, 1) := by decide +kernel
theorem dX2_isIn_13 : decode cX2_isIn 13 = .ok (.ireturn, 1) := by decide +kernel
theorem dX2_teller_0 : decode cX2_teller 0 = .ok (.aload_n 0, 1) := by decide +kernel
theorem dX2_teller_1 : decode cX2_teller 1 = .ok (.getfield 9, 3) := by decide +kernel
theorem dX2_teller_4 : decode cX2_teller 4 = .ok (.ireturn, 1) := by decide +kernel
theorem dX2_deathDay_0 : decode cX2_deathDay 0 = .ok (.aload_n 0, 1) := by decide +kernel
theorem dX2_deathDay_1 : decode cX2_deathDay 1 = .ok (.getfield 15, 3) := by decide +kernel
theorem dX2_deathDay_4 : decode cX2_deathDay 4 = .ok (.ireturn, 1) := by decide +kernel
theorem dX2_printDay_0 : decode cX2_printDay 0 = .ok (.aload_n 0, 1) := by decide +kernel
theorem dX2_printDay_1 : decode cX2_printDay 1 = .ok (.getfield 18, 3) := by decide +kernel
theorem dX2_printDay_4 : decode cX2_printDay 4 = .ok (.ireturn, 1) := by decide +kernel
theorem dX2_size_0 : decode cX2_size 0 = .ok (.aload_n 0, 1) := by decide +kernel
theorem dX2_size_1 : decode cX2_size 1 = .ok (.getfield 37, 3) := by decide +kernel
theorem dX2_size_4 : decode cX2_size 4 = .ok (.ireturn, 1) := by decide +kernel
theorem dX2_tellDead_0 : decode cX2_tellDead 0 = .ok (.aload_n 0, 1) := by decide +kernel
theorem dX2_tellDead_1 : decode cX2_tellDead 1 = .ok (.iconst 1, 1) := by decide +kernel
theorem dX2_tellDead_2 : decode cX2_tellDead 2 = .ok (.putfield 43, 3) := by decide +kernel
theorem dX2_tellDead_5 : decode cX2_tellDead 5 = .ok (.aload_n 0, 1) := by decide +kernel
theorem dX2_tellDead_6 : decode cX2_tellDead 6 = .ok (.iload_n 1, 1) := by decide +kernel
theorem dX2_tellDead_7 : decode cX2_tellDead 7 = .ok (.putfield 9, 3) := by decide +kernel
theorem dX2_tellDead_10 : decode cX2_tellDead 10 = .ok (.aload_n 0, 1) := by decide +kernel
theorem dX2_tellDead_11 : decode cX2_tellDead 11 = .ok (.iload_n 2, 1) := by decide +kernel
theorem dX2_tellDead_12 : decode cX2_tellDead 12 = .ok (.putfield 15, 3) := by decide +kernel
theorem dX2_tellDead_15 : decode cX2_tellDead 15 = .ok (.return_, 1) := by decide +kernel
theorem dX2_confirmDeath_0 : decode cX2_confirmDeath 0 = .ok (.aload_n 0, 1) := by decide +kernel
theorem dX2_confirmDeath_1 : decode cX2_confirmDeath 1 = .ok (.iconst 2, 1) := by decide +kernel
theorem dX2_confirmDeath_2 : decode cX2_confirmDeath 2 = .ok (.putfield 43, 3) := by decide +kernel
theorem dX2_confirmDeath_5 : decode cX2_confirmDeath 5 = .ok (.aload_n 0, 1) := by decide +kernel
theorem dX2_confirmDeath_6 : decode cX2_confirmDeath 6 = .ok (.bipush (-5), 2) := by decide +kernel
theorem dX2_confirmDeath_8 : decode cX2_confirmDeath 8 = .ok (.putfield 9, 3) := by decide +kernel
theorem dX2_confirmDeath_11 : decode cX2_confirmDeath 11 = .ok (.aload_n 0, 1) := by decide +kernel
theorem dX2_confirmDeath_12 : decode cX2_confirmDeath 12 = .ok (.iload_n 1, 1) := by decide +kernel
theorem dX2_confirmDeath_13 : decode cX2_confirmDeath 13 = .ok (.putfield 15, 3) := by decide +kernel
theorem dX2_confirmDeath_16 : decode cX2_confirmDeath 16 = .ok (.return_, 1) := by decide +kernel
theorem dX2_takeBackDeath_0 : decode cX2_takeBackDeath 0 = .ok (.aload_n 0, 1) := by decide +kernel
theorem dX2_takeBackDeath_1 : decode cX2_takeBackDeath 1 = .ok (.iconst 0, 1) := by decide +kernel
theorem dX2_takeBackDeath_2 : decode cX2_takeBackDeath 2 = .ok (.putfield 43, 3) := by decide +kernel
theorem dX2_takeBackDeath_5 : decode cX2_takeBackDeath 5 = .ok (.aload_n 0, 1) := by decide +kernel
theorem dX2_takeBackDeath_6 : decode cX2_takeBackDeath 6 = .ok (.bipush (-5), 2) := by decide +kernel
theorem dX2_takeBackDeath_8 : decode cX2_takeBackDeath 8 = .ok (.putfield 9, 3) := by decide +kernel
theorem dX2_takeBackDeath_11 : decode cX2_takeBackDeath 11 = .ok (.aload_n 0, 1) := by decide +kernel
theorem dX2_takeBackDeath_12 : decode cX2_takeBackDeath 12 = .ok (.bipush (-5), 2) := by decide +kernel
theorem dX2_takeBackDeath_14 : decode cX2_takeBackDeath 14 = .ok (.putfield 15, 3) := by decide +kernel
theorem dX2_takeBackDeath_17 : decode cX2_takeBackDeath 17 = .ok (.return_, 1) := by decide +kernel
theorem dX2_becomePrinted_0 : decode cX2_becomePrinted 0 = .ok (.aload_n 0, 1) := by decide +kernel
theorem dX2_becomePrinted_1 : decode cX2_becomePrinted 1 = .ok (.iconst 3, 1) := by decide +kernel
theorem dX2_becomePrinted_2 : decode cX2_becomePrinted 2 = .ok (.putfield 43, 3) := by decide +kernel
theorem dX2_becomePrinted_5 : decode cX2_becomePrinted 5 = .ok (.aload_n 0, 1) := by decide +kernel
theorem dX2_becomePrinted_6 : decode cX2_becomePrinted 6 = .ok (.iload_n 1, 1) := by decide +kernel
theorem dX2_becomePrinted_7 : decode cX2_becomePrinted 7 = .ok (.putfield 18, 3) := by decide +kernel
theorem dX2_becomePrinted_10 : decode cX2_becomePrinted 10 = .ok (.return_, 1) := by decide +kernel
theorem dX2_hasFact_0 : decode cX2_hasFact 0 = .ok (.iload_n 1, 1) := by decide +kernel
theorem dX2_hasFact_1 : decode cX2_hasFact 1 = .ok (.ifCond .lt 21, 3) := by decide +kernel
theorem dX2_hasFact_4 : decode cX2_hasFact 4 = .ok (.iload_n 1, 1) := by decide +kernel
theorem dX2_hasFact_5 : decode cX2_hasFact 5 = .ok (.aload_n 0, 1) := by decide +kernel
theorem dX2_hasFact_6 : decode cX2_hasFact 6 = .ok (.getfield 37, 3) := by decide +kernel
theorem dX2_hasFact_9 : decode cX2_hasFact 9 = .ok (.if_icmp .ge 13, 3) := by decide +kernel
theorem dX2_hasFact_12 : decode cX2_hasFact 12 = .ok (.iload_n 1, 1) := by decide +kernel
theorem dX2_hasFact_13 : decode cX2_hasFact 13 = .ok (.bipush 8, 2) := by decide +kernel
theorem dX2_hasFact_15 : decode cX2_hasFact 15 = .ok (.if_icmp .ge 7, 3) := by decide +kernel
theorem dX2_hasFact_18 : decode cX2_hasFact 18 = .ok (.iconst 1, 1) := by decide +kernel
theorem dX2_hasFact_19 : decode cX2_hasFact 19 = .ok (.goto 4, 3) := by decide +kernel
theorem dX2_hasFact_22 : decode cX2_hasFact 22 = .ok (.iconst 0, 1) := by decide +kernel
theorem dX2_hasFact_23 : decode cX2_hasFact 23 = .ok (.ireturn, 1) := by decide +kernel
theorem dX2_sourceOf_0 : decode cX2_sourceOf 0 = .ok (.aload_n 0, 1) := by decide +kernel
theorem dX2_sourceOf_1 : decode cX2_sourceOf 1 = .ok (.iload_n 1, 1) := by decide +kernel
theorem dX2_sourceOf_2 : decode cX2_sourceOf 2 = .ok (.invokevirtual 52, 3) := by decide +kernel
theorem dX2_sourceOf_5 : decode cX2_sourceOf 5 = .ok (.ifCond .eq 12, 3) := by decide +kernel
theorem dX2_sourceOf_8 : decode cX2_sourceOf 8 = .ok (.aload_n 0, 1) := by decide +kernel
theorem dX2_sourceOf_9 : decode cX2_sourceOf 9 = .ok (.getfield 21, 3) := by decide +kernel
theorem dX2_sourceOf_12 : decode cX2_sourceOf 12 = .ok (.iload_n 1, 1) := by decide +kernel
theorem dX2_sourceOf_13 : decode cX2_sourceOf 13 = .ok (.iaload, 1) := by decide +kernel
theorem dX2_sourceOf_14 : decode cX2_sourceOf 14 = .ok (.goto 5, 3) := by decide +kernel
theorem dX2_sourceOf_17 : decode cX2_sourceOf 17 = .ok (.bipush (-5), 2) := by decide +kernel
theorem dX2_sourceOf_19 : decode cX2_sourceOf 19 = .ok (.ireturn, 1) := by decide +kernel
theorem dX2_linesOf_0 : decode cX2_linesOf 0 = .ok (.aload_n 0, 1) := by decide +kernel
theorem dX2_linesOf_1 : decode cX2_linesOf 1 = .ok (.iload_n 1, 1) := by decide +kernel
theorem dX2_linesOf_2 : decode cX2_linesOf 2 = .ok (.invokevirtual 52, 3) := by decide +kernel
theorem dX2_linesOf_5 : decode cX2_linesOf 5 = .ok (.ifCond .eq 12, 3) := by decide +kernel
theorem dX2_linesOf_8 : decode cX2_linesOf 8 = .ok (.aload_n 0, 1) := by decide +kernel
theorem dX2_linesOf_9 : decode cX2_linesOf 9 = .ok (.getfield 25, 3) := by decide +kernel
theorem dX2_linesOf_12 : decode cX2_linesOf 12 = .ok (.iload_n 1, 1) := by decide +kernel
theorem dX2_linesOf_13 : decode cX2_linesOf 13 = .ok (.iaload, 1) := by decide +kernel
theorem dX2_linesOf_14 : decode cX2_linesOf 14 = .ok (.goto 4, 3) := by decide +kernel
theorem dX2_linesOf_17 : decode cX2_linesOf 17 = .ok (.iconst 0, 1) := by decide +kernel
theorem dX2_linesOf_18 : decode cX2_linesOf 18 = .ok (.ireturn, 1) := by decide +kernel
theorem dX2_dayOf_0 : decode cX2_dayOf 0 = .ok (.aload_n 0, 1) := by decide +kernel
theorem dX2_dayOf_1 : decode cX2_dayOf 1 = .ok (.iload_n 1, 1) := by decide +kernel
theorem dX2_dayOf_2 : decode cX2_dayOf 2 = .ok (.invokevirtual 52, 3) := by decide +kernel
theorem dX2_dayOf_5 : decode cX2_dayOf 5 = .ok (.ifCond .eq 12, 3) := by decide +kernel
theorem dX2_dayOf_8 : decode cX2_dayOf 8 = .ok (.aload_n 0, 1) := by decide +kernel
theorem dX2_dayOf_9 : decode cX2_dayOf 9 = .ok (.getfield 28, 3) := by decide +kernel
theorem dX2_dayOf_12 : decode cX2_dayOf 12 = .ok (.iload_n 1, 1) := by decide +kernel
theorem dX2_dayOf_13 : decode cX2_dayOf 13 = .ok (.iaload, 1) := by decide +kernel
theorem dX2_dayOf_14 : decode cX2_dayOf 14 = .ok (.goto 5, 3) := by decide +kernel
theorem dX2_dayOf_17 : decode cX2_dayOf 17 = .ok (.bipush (-5), 2) := by decide +kernel
theorem dX2_dayOf_19 : decode cX2_dayOf 19 = .ok (.ireturn, 1) := by decide +kernel
theorem dX2_addFact_0 : decode cX2_addFact 0 = .ok (.aload_n 0, 1) := by decide +kernel
theorem dX2_addFact_1 : decode cX2_addFact 1 = .ok (.getfield 37, 3) := by decide +kernel
theorem dX2_addFact_4 : decode cX2_addFact 4 = .ok (.ifCond .lt 12, 3) := by decide +kernel
theorem dX2_addFact_7 : decode cX2_addFact 7 = .ok (.aload_n 0, 1) := by decide +kernel
theorem dX2_addFact_8 : decode cX2_addFact 8 = .ok (.getfield 37, 3) := by decide +kernel
theorem dX2_addFact_11 : decode cX2_addFact 11 = .ok (.bipush 8, 2) := by decide +kernel
theorem dX2_addFact_13 : decode cX2_addFact 13 = .ok (.if_icmp .lt 6, 3) := by decide +kernel
theorem dX2_addFact_16 : decode cX2_addFact 16 = .ok (.bipush (-3), 2) := by decide +kernel
theorem dX2_addFact_18 : decode cX2_addFact 18 = .ok (.ireturn, 1) := by decide +kernel
theorem dX2_addFact_19 : decode cX2_addFact 19 = .ok (.aload_n 0, 1) := by decide +kernel
theorem dX2_addFact_20 : decode cX2_addFact 20 = .ok (.getfield 21, 3) := by decide +kernel
theorem dX2_addFact_23 : decode cX2_addFact 23 = .ok (.aload_n 0, 1) := by decide +kernel
theorem dX2_addFact_24 : decode cX2_addFact 24 = .ok (.getfield 37, 3) := by decide +kernel
theorem dX2_addFact_27 : decode cX2_addFact 27 = .ok (.iload_n 1, 1) := by decide +kernel
theorem dX2_addFact_28 : decode cX2_addFact 28 = .ok (.iastore, 1) := by decide +kernel
theorem dX2_addFact_29 : decode cX2_addFact 29 = .ok (.aload_n 0, 1) := by decide +kernel
theorem dX2_addFact_30 : decode cX2_addFact 30 = .ok (.getfield 25, 3) := by decide +kernel
theorem dX2_addFact_33 : decode cX2_addFact 33 = .ok (.aload_n 0, 1) := by decide +kernel
theorem dX2_addFact_34 : decode cX2_addFact 34 = .ok (.getfield 37, 3) := by decide +kernel
theorem dX2_addFact_37 : decode cX2_addFact 37 = .ok (.iload_n 2, 1) := by decide +kernel
theorem dX2_addFact_38 : decode cX2_addFact 38 = .ok (.iastore, 1) := by decide +kernel
theorem dX2_addFact_39 : decode cX2_addFact 39 = .ok (.aload_n 0, 1) := by decide +kernel
theorem dX2_addFact_40 : decode cX2_addFact 40 = .ok (.getfield 28, 3) := by decide +kernel
theorem dX2_addFact_43 : decode cX2_addFact 43 = .ok (.aload_n 0, 1) := by decide +kernel
theorem dX2_addFact_44 : decode cX2_addFact 44 = .ok (.getfield 37, 3) := by decide +kernel
theorem dX2_addFact_47 : decode cX2_addFact 47 = .ok (.iload_n 3, 1) := by decide +kernel
theorem dX2_addFact_48 : decode cX2_addFact 48 = .ok (.iastore, 1) := by decide +kernel
theorem dX2_addFact_49 : decode cX2_addFact 49 = .ok (.aload_n 0, 1) := by decide +kernel
theorem dX2_addFact_50 : decode cX2_addFact 50 = .ok (.dup, 1) := by decide +kernel
theorem dX2_addFact_51 : decode cX2_addFact 51 = .ok (.getfield 37, 3) := by decide +kernel
theorem dX2_addFact_54 : decode cX2_addFact 54 = .ok (.iconst 1, 1) := by decide +kernel
theorem dX2_addFact_55 : decode cX2_addFact 55 = .ok (.iadd, 1) := by decide +kernel
theorem dX2_addFact_56 : decode cX2_addFact 56 = .ok (.putfield 37, 3) := by decide +kernel
theorem dX2_addFact_59 : decode cX2_addFact 59 = .ok (.aload_n 0, 1) := by decide +kernel
theorem dX2_addFact_60 : decode cX2_addFact 60 = .ok (.getfield 37, 3) := by decide +kernel
theorem dX2_addFact_63 : decode cX2_addFact 63 = .ok (.iconst 1, 1) := by decide +kernel
theorem dX2_addFact_64 : decode cX2_addFact 64 = .ok (.isub, 1) := by decide +kernel
theorem dX2_addFact_65 : decode cX2_addFact 65 = .ok (.ireturn, 1) := by decide +kernel
theorem dX2_removeFact_0 : decode cX2_removeFact 0 = .ok (.aload_n 0, 1) := by decide +kernel
theorem dX2_removeFact_1 : decode cX2_removeFact 1 = .ok (.iload_n 1, 1) := by decide +kernel
theorem dX2_removeFact_2 : decode cX2_removeFact 2 = .ok (.invokevirtual 52, 3) := by decide +kernel
theorem dX2_removeFact_5 : decode cX2_removeFact 5 = .ok (.ifCond .ne 4, 3) := by decide +kernel
theorem dX2_removeFact_8 : decode cX2_removeFact 8 = .ok (.return_, 1) := by decide +kernel
theorem dX2_removeFact_9 : decode cX2_removeFact 9 = .ok (.iload_n 1, 1) := by decide +kernel
theorem dX2_removeFact_10 : decode cX2_removeFact 10 = .ok (.istore_n 2, 1) := by decide +kernel
theorem dX2_removeFact_11 : decode cX2_removeFact 11 = .ok (.iload_n 2, 1) := by decide +kernel
theorem dX2_removeFact_12 : decode cX2_removeFact 12 = .ok (.aload_n 0, 1) := by decide +kernel
theorem dX2_removeFact_13 : decode cX2_removeFact 13 = .ok (.getfield 37, 3) := by decide +kernel
theorem dX2_removeFact_16 : decode cX2_removeFact 16 = .ok (.iconst 1, 1) := by decide +kernel
theorem dX2_removeFact_17 : decode cX2_removeFact 17 = .ok (.isub, 1) := by decide +kernel
theorem dX2_removeFact_18 : decode cX2_removeFact 18 = .ok (.if_icmp .ge 57, 3) := by decide +kernel
theorem dX2_removeFact_21 : decode cX2_removeFact 21 = .ok (.iload_n 2, 1) := by decide +kernel
theorem dX2_removeFact_22 : decode cX2_removeFact 22 = .ok (.bipush 7, 2) := by decide +kernel
theorem dX2_removeFact_24 : decode cX2_removeFact 24 = .ok (.if_icmp .ge 51, 3) := by decide +kernel
theorem dX2_removeFact_27 : decode cX2_removeFact 27 = .ok (.aload_n 0, 1) := by decide +kernel
theorem dX2_removeFact_28 : decode cX2_removeFact 28 = .ok (.getfield 21, 3) := by decide +kernel
theorem dX2_removeFact_31 : decode cX2_removeFact 31 = .ok (.iload_n 2, 1) := by decide +kernel
theorem dX2_removeFact_32 : decode cX2_removeFact 32 = .ok (.aload_n 0, 1) := by decide +kernel
theorem dX2_removeFact_33 : decode cX2_removeFact 33 = .ok (.getfield 21, 3) := by decide +kernel
theorem dX2_removeFact_36 : decode cX2_removeFact 36 = .ok (.iload_n 2, 1) := by decide +kernel
theorem dX2_removeFact_37 : decode cX2_removeFact 37 = .ok (.iconst 1, 1) := by decide +kernel
theorem dX2_removeFact_38 : decode cX2_removeFact 38 = .ok (.iadd, 1) := by decide +kernel
theorem dX2_removeFact_39 : decode cX2_removeFact 39 = .ok (.iaload, 1) := by decide +kernel
theorem dX2_removeFact_40 : decode cX2_removeFact 40 = .ok (.iastore, 1) := by decide +kernel
theorem dX2_removeFact_41 : decode cX2_removeFact 41 = .ok (.aload_n 0, 1) := by decide +kernel
theorem dX2_removeFact_42 : decode cX2_removeFact 42 = .ok (.getfield 25, 3) := by decide +kernel
theorem dX2_removeFact_45 : decode cX2_removeFact 45 = .ok (.iload_n 2, 1) := by decide +kernel
theorem dX2_removeFact_46 : decode cX2_removeFact 46 = .ok (.aload_n 0, 1) := by decide +kernel
theorem dX2_removeFact_47 : decode cX2_removeFact 47 = .ok (.getfield 25, 3) := by decide +kernel
theorem dX2_removeFact_50 : decode cX2_removeFact 50 = .ok (.iload_n 2, 1) := by decide +kernel
theorem dX2_removeFact_51 : decode cX2_removeFact 51 = .ok (.iconst 1, 1) := by decide +kernel
theorem dX2_removeFact_52 : decode cX2_removeFact 52 = .ok (.iadd, 1) := by decide +kernel
theorem dX2_removeFact_53 : decode cX2_removeFact 53 = .ok (.iaload, 1) := by decide +kernel
theorem dX2_removeFact_54 : decode cX2_removeFact 54 = .ok (.iastore, 1) := by decide +kernel
theorem dX2_removeFact_55 : decode cX2_removeFact 55 = .ok (.aload_n 0, 1) := by decide +kernel
theorem dX2_removeFact_56 : decode cX2_removeFact 56 = .ok (.getfield 28, 3) := by decide +kernel
theorem dX2_removeFact_59 : decode cX2_removeFact 59 = .ok (.iload_n 2, 1) := by decide +kernel
theorem dX2_removeFact_60 : decode cX2_removeFact 60 = .ok (.aload_n 0, 1) := by decide +kernel
theorem dX2_removeFact_61 : decode cX2_removeFact 61 = .ok (.getfield 28, 3) := by decide +kernel
theorem dX2_removeFact_64 : decode cX2_removeFact 64 = .ok (.iload_n 2, 1) := by decide +kernel
theorem dX2_removeFact_65 : decode cX2_removeFact 65 = .ok (.iconst 1, 1) := by decide +kernel
theorem dX2_removeFact_66 : decode cX2_removeFact 66 = .ok (.iadd, 1) := by decide +kernel
theorem dX2_removeFact_67 : decode cX2_removeFact 67 = .ok (.iaload, 1) := by decide +kernel
theorem dX2_removeFact_68 : decode cX2_removeFact 68 = .ok (.iastore, 1) := by decide +kernel
theorem dX2_removeFact_69 : decode cX2_removeFact 69 = .ok (.iinc 2 1, 3) := by decide +kernel
theorem dX2_removeFact_72 : decode cX2_removeFact 72 = .ok (.goto (-61), 3) := by decide +kernel
theorem dX2_removeFact_75 : decode cX2_removeFact 75 = .ok (.aload_n 0, 1) := by decide +kernel
theorem dX2_removeFact_76 : decode cX2_removeFact 76 = .ok (.dup, 1) := by decide +kernel
theorem dX2_removeFact_77 : decode cX2_removeFact 77 = .ok (.getfield 37, 3) := by decide +kernel
theorem dX2_removeFact_80 : decode cX2_removeFact 80 = .ok (.iconst 1, 1) := by decide +kernel
theorem dX2_removeFact_81 : decode cX2_removeFact 81 = .ok (.isub, 1) := by decide +kernel
theorem dX2_removeFact_82 : decode cX2_removeFact 82 = .ok (.putfield 37, 3) := by decide +kernel
theorem dX2_removeFact_85 : decode cX2_removeFact 85 = .ok (.return_, 1) := by decide +kernel
theorem dX2_changeSource_0 : decode cX2_changeSource 0 = .ok (.aload_n 0, 1) := by decide +kernel
theorem dX2_changeSource_1 : decode cX2_changeSource 1 = .ok (.iload_n 1, 1) := by decide +kernel
theorem dX2_changeSource_2 : decode cX2_changeSource 2 = .ok (.invokevirtual 52, 3) := by decide +kernel
theorem dX2_changeSource_5 : decode cX2_changeSource 5 = .ok (.ifCond .eq 10, 3) := by decide +kernel
theorem dX2_changeSource_8 : decode cX2_changeSource 8 = .ok (.aload_n 0, 1) := by decide +kernel
theorem dX2_changeSource_9 : decode cX2_changeSource 9 = .ok (.getfield 21, 3) := by decide +kernel
theorem dX2_changeSource_12 : decode cX2_changeSource 12 = .ok (.iload_n 1, 1) := by decide +kernel
theorem dX2_changeSource_13 : decode cX2_changeSource 13 = .ok (.iload_n 2, 1) := by decide +kernel
theorem dX2_changeSource_14 : decode cX2_changeSource 14 = .ok (.iastore, 1) := by decide +kernel
theorem dX2_changeSource_15 : decode cX2_changeSource 15 = .ok (.return_, 1) := by decide +kernel
theorem dX2_changeDay_0 : decode cX2_changeDay 0 = .ok (.aload_n 0, 1) := by decide +kernel
theorem dX2_changeDay_1 : decode cX2_changeDay 1 = .ok (.iload_n 1, 1) := by decide +kernel
theorem dX2_changeDay_2 : decode cX2_changeDay 2 = .ok (.invokevirtual 52, 3) := by decide +kernel
theorem dX2_changeDay_5 : decode cX2_changeDay 5 = .ok (.ifCond .eq 10, 3) := by decide +kernel
theorem dX2_changeDay_8 : decode cX2_changeDay 8 = .ok (.aload_n 0, 1) := by decide +kernel
theorem dX2_changeDay_9 : decode cX2_changeDay 9 = .ok (.getfield 28, 3) := by decide +kernel
theorem dX2_changeDay_12 : decode cX2_changeDay 12 = .ok (.iload_n 1, 1) := by decide +kernel
theorem dX2_changeDay_13 : decode cX2_changeDay 13 = .ok (.iload_n 2, 1) := by decide +kernel
theorem dX2_changeDay_14 : decode cX2_changeDay 14 = .ok (.iastore, 1) := by decide +kernel
theorem dX2_changeDay_15 : decode cX2_changeDay 15 = .ok (.return_, 1) := by decide +kernel
theorem dX2_length_0 : decode cX2_length 0 = .ok (.iconst 0, 1) := by decide +kernel
theorem dX2_length_1 : decode cX2_length 1 = .ok (.istore_n 1, 1) := by decide +kernel
theorem dX2_length_2 : decode cX2_length 2 = .ok (.iconst 0, 1) := by decide +kernel
theorem dX2_length_3 : decode cX2_length 3 = .ok (.istore_n 2, 1) := by decide +kernel
theorem dX2_length_4 : decode cX2_length 4 = .ok (.iload_n 2, 1) := by decide +kernel
theorem dX2_length_5 : decode cX2_length 5 = .ok (.aload_n 0, 1) := by decide +kernel
theorem dX2_length_6 : decode cX2_length 6 = .ok (.getfield 37, 3) := by decide +kernel
theorem dX2_length_9 : decode cX2_length 9 = .ok (.if_icmp .ge 17, 3) := by decide +kernel
theorem dX2_length_12 : decode cX2_length 12 = .ok (.iload_n 1, 1) := by decide +kernel
theorem dX2_length_13 : decode cX2_length 13 = .ok (.aload_n 0, 1) := by decide +kernel
theorem dX2_length_14 : decode cX2_length 14 = .ok (.iload_n 2, 1) := by decide +kernel
theorem dX2_length_15 : decode cX2_length 15 = .ok (.invokevirtual 56, 3) := by decide +kernel
theorem dX2_length_18 : decode cX2_length 18 = .ok (.iadd, 1) := by decide +kernel
theorem dX2_length_19 : decode cX2_length 19 = .ok (.istore_n 1, 1) := by decide +kernel
theorem dX2_length_20 : decode cX2_length 20 = .ok (.iinc 2 1, 3) := by decide +kernel
theorem dX2_length_23 : decode cX2_length 23 = .ok (.goto (-19), 3) := by decide +kernel
theorem dX2_length_26 : decode cX2_length 26 = .ok (.iload_n 1, 1) := by decide +kernel
theorem dX2_length_27 : decode cX2_length 27 = .ok (.ireturn, 1) := by decide +kernel
theorem dX2_differentSources_0 : decode cX2_differentSources 0 = .ok (.iconst 0, 1) := by decide +kernel
theorem dX2_differentSources_1 : decode cX2_differentSources 1 = .ok (.istore_n 1, 1) := by decide +kernel
theorem dX2_differentSources_2 : decode cX2_differentSources 2 = .ok (.iconst 0, 1) := by decide +kernel
theorem dX2_differentSources_3 : decode cX2_differentSources 3 = .ok (.istore_n 2, 1) := by decide +kernel
theorem dX2_differentSources_4 : decode cX2_differentSources 4 = .ok (.iload_n 2, 1) := by decide +kernel
theorem dX2_differentSources_5 : decode cX2_differentSources 5 = .ok (.aload_n 0, 1) := by decide +kernel
theorem dX2_differentSources_6 : decode cX2_differentSources 6 = .ok (.getfield 37, 3) := by decide +kernel
theorem dX2_differentSources_9 : decode cX2_differentSources 9 = .ok (.if_icmp .ge 19, 3) := by decide +kernel
theorem dX2_differentSources_12 : decode cX2_differentSources 12 = .ok (.iload_n 1, 1) := by decide +kernel
theorem dX2_differentSources_13 : decode cX2_differentSources 13 = .ok (.iconst 1, 1) := by decide +kernel
theorem dX2_differentSources_14 : decode cX2_differentSources 14 = .ok (.aload_n 0, 1) := by decide +kernel
theorem dX2_differentSources_15 : decode cX2_differentSources 15 = .ok (.iload_n 2, 1) := by decide +kernel
theorem dX2_differentSources_16 : decode cX2_differentSources 16 = .ok (.invokevirtual 60, 3) := by decide +kernel
theorem dX2_differentSources_19 : decode cX2_differentSources 19 = .ok (.ishl, 1) := by decide +kernel
theorem dX2_differentSources_20 : decode cX2_differentSources 20 = .ok (.ior, 1) := by decide +kernel
theorem dX2_differentSources_21 : decode cX2_differentSources 21 = .ok (.istore_n 1, 1) := by decide +kernel
theorem dX2_differentSources_22 : decode cX2_differentSources 22 = .ok (.iinc 2 1, 3) := by decide +kernel
theorem dX2_differentSources_25 : decode cX2_differentSources 25 = .ok (.goto (-21), 3) := by decide +kernel
theorem dX2_differentSources_28 : decode cX2_differentSources 28 = .ok (.iload_n 1, 1) := by decide +kernel
theorem dX2_differentSources_29 : decode cX2_differentSources 29 = .ok (.invokestatic 63, 3) := by decide +kernel
theorem dX2_differentSources_32 : decode cX2_differentSources 32 = .ok (.ireturn, 1) := by decide +kernel
theorem dX3_init_0 : decode cX3_init 0 = .ok (.aload_n 0, 1) := by decide +kernel
theorem dX3_init_1 : decode cX3_init 1 = .ok (.invokespecial 3, 3) := by decide +kernel
theorem dX3_init_4 : decode cX3_init 4 = .ok (.aload_n 0, 1) := by decide +kernel
theorem dX3_init_5 : decode cX3_init 5 = .ok (.new 9, 3) := by decide +kernel
theorem dX3_init_8 : decode cX3_init 8 = .ok (.dup, 1) := by decide +kernel
theorem dX3_init_9 : decode cX3_init 9 = .ok (.invokespecial 11, 3) := by decide +kernel
theorem dX3_init_12 : decode cX3_init 12 = .ok (.putfield 12, 3) := by decide +kernel
theorem dX3_init_15 : decode cX3_init 15 = .ok (.aload_n 0, 1) := by decide +kernel
theorem dX3_init_16 : decode cX3_init 16 = .ok (.bipush 20, 2) := by decide +kernel
theorem dX3_init_18 : decode cX3_init 18 = .ok (.newarray .int, 2) := by decide +kernel
theorem dX3_init_20 : decode cX3_init 20 = .ok (.putfield 18, 3) := by decide +kernel
theorem dX3_init_23 : decode cX3_init 23 = .ok (.return_, 1) := by decide +kernel
theorem dX3_lay_0 : decode cX3_lay 0 = .ok (.aload_n 0, 1) := by decide +kernel
theorem dX3_lay_1 : decode cX3_lay 1 = .ok (.aload_n 1, 1) := by decide +kernel
theorem dX3_lay_2 : decode cX3_lay 2 = .ok (.invokevirtual 22, 3) := by decide +kernel
theorem dX3_lay_5 : decode cX3_lay 5 = .ok (.aload_n 0, 1) := by decide +kernel
theorem dX3_lay_6 : decode cX3_lay 6 = .ok (.iconst 0, 1) := by decide +kernel
theorem dX3_lay_7 : decode cX3_lay 7 = .ok (.putfield 26, 3) := by decide +kernel
theorem dX3_lay_10 : decode cX3_lay 10 = .ok (.aload_n 0, 1) := by decide +kernel
theorem dX3_lay_11 : decode cX3_lay 11 = .ok (.aload_n 1, 1) := by decide +kernel
theorem dX3_lay_12 : decode cX3_lay 12 = .ok (.iconst 1, 1) := by decide +kernel
theorem dX3_lay_13 : decode cX3_lay 13 = .ok (.invokevirtual 30, 3) := by decide +kernel
theorem dX3_lay_16 : decode cX3_lay 16 = .ok (.putfield 36, 3) := by decide +kernel
theorem dX3_lay_19 : decode cX3_lay 19 = .ok (.iconst 0, 1) := by decide +kernel
theorem dX3_lay_20 : decode cX3_lay 20 = .ok (.istore_n 2, 1) := by decide +kernel
theorem dX3_lay_21 : decode cX3_lay 21 = .ok (.iload_n 2, 1) := by decide +kernel
theorem dX3_lay_22 : decode cX3_lay 22 = .ok (.aload_n 0, 1) := by decide +kernel
theorem dX3_lay_23 : decode cX3_lay 23 = .ok (.getfield 12, 3) := by decide +kernel
theorem dX3_lay_26 : decode cX3_lay 26 = .ok (.invokevirtual 39, 3) := by decide +kernel
theorem dX3_lay_29 : decode cX3_lay 29 = .ok (.if_icmp .ge 94, 3) := by decide +kernel
theorem dX3_lay_32 : decode cX3_lay 32 = .ok (.aload_n 0, 1) := by decide +kernel
theorem dX3_lay_33 : decode cX3_lay 33 = .ok (.getfield 26, 3) := by decide +kernel
theorem dX3_lay_36 : decode cX3_lay 36 = .ok (.bipush 20, 2) := by decide +kernel
theorem dX3_lay_38 : decode cX3_lay 38 = .ok (.if_icmp .ge 85, 3) := by decide +kernel
theorem dX3_lay_41 : decode cX3_lay 41 = .ok (.aload_n 0, 1) := by decide +kernel
theorem dX3_lay_42 : decode cX3_lay 42 = .ok (.getfield 12, 3) := by decide +kernel
theorem dX3_lay_45 : decode cX3_lay 45 = .ok (.iload_n 2, 1) := by decide +kernel
theorem dX3_lay_46 : decode cX3_lay 46 = .ok (.invokevirtual 42, 3) := by decide +kernel
theorem dX3_lay_49 : decode cX3_lay 49 = .ok (.istore_n 3, 1) := by decide +kernel
theorem dX3_lay_50 : decode cX3_lay 50 = .ok (.aload_n 1, 1) := by decide +kernel
theorem dX3_lay_51 : decode cX3_lay 51 = .ok (.iload_n 3, 1) := by decide +kernel
theorem dX3_lay_52 : decode cX3_lay 52 = .ok (.invokevirtual 45, 3) := by decide +kernel
theorem dX3_lay_55 : decode cX3_lay 55 = .ok (.astore 4, 2) := by decide +kernel
theorem dX3_lay_57 : decode cX3_lay 57 = .ok (.aload 4, 2) := by decide +kernel
theorem dX3_lay_59 : decode cX3_lay 59 = .ok (.ifnull 58, 3) := by decide +kernel
theorem dX3_lay_62 : decode cX3_lay 62 = .ok (.aload_n 1, 1) := by decide +kernel
theorem dX3_lay_63 : decode cX3_lay 63 = .ok (.aload 4, 2) := by decide +kernel
theorem dX3_lay_65 : decode cX3_lay 65 = .ok (.invokevirtual 49, 3) := by decide +kernel
theorem dX3_lay_68 : decode cX3_lay 68 = .ok (.ifCond .eq 49, 3) := by decide +kernel
theorem dX3_lay_71 : decode cX3_lay 71 = .ok (.aload 4, 2) := by decide +kernel
theorem dX3_lay_73 : decode cX3_lay 73 = .ok (.invokevirtual 53, 3) := by decide +kernel
theorem dX3_lay_76 : decode cX3_lay 76 = .ok (.aload_n 0, 1) := by decide +kernel
theorem dX3_lay_77 : decode cX3_lay 77 = .ok (.getfield 36, 3) := by decide +kernel
theorem dX3_lay_80 : decode cX3_lay 80 = .ok (.if_icmp .gt 37, 3) := by decide +kernel
theorem dX3_lay_83 : decode cX3_lay 83 = .ok (.aload_n 0, 1) := by decide +kernel
theorem dX3_lay_84 : decode cX3_lay 84 = .ok (.dup, 1) := by decide +kernel
theorem dX3_lay_85 : decode cX3_lay 85 = .ok (.getfield 36, 3) := by decide +kernel
theorem dX3_lay_88 : decode cX3_lay 88 = .ok (.aload 4, 2) := by decide +kernel
theorem dX3_lay_90 : decode cX3_lay 90 = .ok (.invokevirtual 53, 3) := by decide +kernel
theorem dX3_lay_93 : decode cX3_lay 93 = .ok (.isub, 1) := by decide +kernel
theorem dX3_lay_94 : decode cX3_lay 94 = .ok (.putfield 36, 3) := by decide +kernel
theorem dX3_lay_97 : decode cX3_lay 97 = .ok (.aload_n 0, 1) := by decide +kernel
theorem dX3_lay_98 : decode cX3_lay 98 = .ok (.getfield 18, 3) := by decide +kernel
theorem dX3_lay_101 : decode cX3_lay 101 = .ok (.aload_n 0, 1) := by decide +kernel
theorem dX3_lay_102 : decode cX3_lay 102 = .ok (.getfield 26, 3) := by decide +kernel
theorem dX3_lay_105 : decode cX3_lay 105 = .ok (.iload_n 3, 1) := by decide +kernel
theorem dX3_lay_106 : decode cX3_lay 106 = .ok (.iastore, 1) := by decide +kernel
theorem dX3_lay_107 : decode cX3_lay 107 = .ok (.aload_n 0, 1) := by decide +kernel
theorem dX3_lay_108 : decode cX3_lay 108 = .ok (.dup, 1) := by decide +kernel
theorem dX3_lay_109 : decode cX3_lay 109 = .ok (.getfield 26, 3) := by decide +kernel
theorem dX3_lay_112 : decode cX3_lay 112 = .ok (.iconst 1, 1) := by decide +kernel
theorem dX3_lay_113 : decode cX3_lay 113 = .ok (.iadd, 1) := by decide +kernel
theorem dX3_lay_114 : decode cX3_lay 114 = .ok (.putfield 26, 3) := by decide +kernel
theorem dX3_lay_117 : decode cX3_lay 117 = .ok (.iinc 2 1, 3) := by decide +kernel
theorem dX3_lay_120 : decode cX3_lay 120 = .ok (.goto (-99), 3) := by decide +kernel
theorem dX3_lay_123 : decode cX3_lay 123 = .ok (.return_, 1) := by decide +kernel
theorem dX3_size_0 : decode cX3_size 0 = .ok (.aload_n 0, 1) := by decide +kernel
theorem dX3_size_1 : decode cX3_size 1 = .ok (.getfield 26, 3) := by decide +kernel
theorem dX3_size_4 : decode cX3_size 4 = .ok (.ireturn, 1) := by decide +kernel
theorem dX3_linesFree_0 : decode cX3_linesFree 0 = .ok (.aload_n 0, 1) := by decide +kernel
theorem dX3_linesFree_1 : decode cX3_linesFree 1 = .ok (.getfield 36, 3) := by decide +kernel
theorem dX3_linesFree_4 : decode cX3_linesFree 4 = .ok (.ireturn, 1) := by decide +kernel
theorem dX3_queueDead_0 : decode cX3_queueDead 0 = .ok (.aload_n 0, 1) := by decide +kernel
theorem dX3_queueDead_1 : decode cX3_queueDead 1 = .ok (.getfield 12, 3) := by decide +kernel
theorem dX3_queueDead_4 : decode cX3_queueDead 4 = .ok (.invokevirtual 58, 3) := by decide +kernel
theorem dX3_queueDead_7 : decode cX3_queueDead 7 = .ok (.iconst 0, 1) := by decide +kernel
theorem dX3_queueDead_8 : decode cX3_queueDead 8 = .ok (.istore_n 2, 1) := by decide +kernel
theorem dX3_queueDead_9 : decode cX3_queueDead 9 = .ok (.iload_n 2, 1) := by decide +kernel
theorem dX3_queueDead_10 : decode cX3_queueDead 10 = .ok (.aload_n 1, 1) := by decide +kernel
theorem dX3_queueDead_11 : decode cX3_queueDead 11 = .ok (.invokevirtual 61, 3) := by decide +kernel
theorem dX3_queueDead_14 : decode cX3_queueDead 14 = .ok (.if_icmp .ge 56, 3) := by decide +kernel
theorem dX3_queueDead_17 : decode cX3_queueDead 17 = .ok (.aload_n 1, 1) := by decide +kernel
theorem dX3_queueDead_18 : decode cX3_queueDead 18 = .ok (.iload_n 2, 1) := by decide +kernel
theorem dX3_queueDead_19 : decode cX3_queueDead 19 = .ok (.invokevirtual 45, 3) := by decide +kernel
theorem dX3_queueDead_22 : decode cX3_queueDead 22 = .ok (.astore_n 3, 1) := by decide +kernel
theorem dX3_queueDead_23 : decode cX3_queueDead 23 = .ok (.aload_n 3, 1) := by decide +kernel
theorem dX3_queueDead_24 : decode cX3_queueDead 24 = .ok (.ifnull 40, 3) := by decide +kernel
theorem dX3_queueDead_27 : decode cX3_queueDead 27 = .ok (.aload_n 3, 1) := by decide +kernel
theorem dX3_queueDead_28 : decode cX3_queueDead 28 = .ok (.iconst 2, 1) := by decide +kernel
theorem dX3_queueDead_29 : decode cX3_queueDead 29 = .ok (.invokevirtual 63, 3) := by decide +kernel
theorem dX3_queueDead_32 : decode cX3_queueDead 32 = .ok (.ifCond .eq 32, 3) := by decide +kernel
theorem dX3_queueDead_35 : decode cX3_queueDead 35 = .ok (.sipush 9999, 3) := by decide +kernel
theorem dX3_queueDead_38 : decode cX3_queueDead 38 = .ok (.aload_n 3, 1) := by decide +kernel
theorem dX3_queueDead_39 : decode cX3_queueDead 39 = .ok (.invokevirtual 67, 3) := by decide +kernel
theorem dX3_queueDead_42 : decode cX3_queueDead 42 = .ok (.isub, 1) := by decide +kernel
theorem dX3_queueDead_43 : decode cX3_queueDead 43 = .ok (.istore 4, 2) := by decide +kernel
theorem dX3_queueDead_45 : decode cX3_queueDead 45 = .ok (.aload_n 0, 1) := by decide +kernel
theorem dX3_queueDead_46 : decode cX3_queueDead 46 = .ok (.getfield 12, 3) := by decide +kernel
theorem dX3_queueDead_49 : decode cX3_queueDead 49 = .ok (.iload_n 2, 1) := by decide +kernel
theorem dX3_queueDead_50 : decode cX3_queueDead 50 = .ok (.aload_n 3, 1) := by decide +kernel
theorem dX3_queueDead_51 : decode cX3_queueDead 51 = .ok (.invokevirtual 70, 3) := by decide +kernel
theorem dX3_queueDead_54 : decode cX3_queueDead 54 = .ok (.sipush 10000, 3) := by decide +kernel
theorem dX3_queueDead_57 : decode cX3_queueDead 57 = .ok (.imul, 1) := by decide +kernel
theorem dX3_queueDead_58 : decode cX3_queueDead 58 = .ok (.iload 4, 2) := by decide +kernel
theorem dX3_queueDead_60 : decode cX3_queueDead 60 = .ok (.iadd, 1) := by decide +kernel
theorem dX3_queueDead_61 : decode cX3_queueDead 61 = .ok (.invokevirtual 73, 3) := by decide +kernel
theorem dX3_queueDead_64 : decode cX3_queueDead 64 = .ok (.iinc 2 1, 3) := by decide +kernel
theorem dX3_queueDead_67 : decode cX3_queueDead 67 = .ok (.goto (-58), 3) := by decide +kernel
theorem dX3_queueDead_70 : decode cX3_queueDead 70 = .ok (.return_, 1) := by decide +kernel
theorem dX3_personAt_0 : decode cX3_personAt 0 = .ok (.iload_n 1, 1) := by decide +kernel
theorem dX3_personAt_1 : decode cX3_personAt 1 = .ok (.ifCond .lt 26, 3) := by decide +kernel
theorem dX3_personAt_4 : decode cX3_personAt 4 = .ok (.iload_n 1, 1) := by decide +kernel
theorem dX3_personAt_5 : decode cX3_personAt 5 = .ok (.aload_n 0, 1) := by decide +kernel
theorem dX3_personAt_6 : decode cX3_personAt 6 = .ok (.getfield 26, 3) := by decide +kernel
theorem dX3_personAt_9 : decode cX3_personAt 9 = .ok (.if_icmp .ge 18, 3) := by decide +kernel
theorem dX3_personAt_12 : decode cX3_personAt 12 = .ok (.iload_n 1, 1) := by decide +kernel
theorem dX3_personAt_13 : decode cX3_personAt 13 = .ok (.bipush 20, 2) := by decide +kernel
theorem dX3_personAt_15 : decode cX3_personAt 15 = .ok (.if_icmp .ge 12, 3) := by decide +kernel
theorem dX3_personAt_18 : decode cX3_personAt 18 = .ok (.aload_n 0, 1) := by decide +kernel
theorem dX3_personAt_19 : decode cX3_personAt 19 = .ok (.getfield 18, 3) := by decide +kernel
theorem dX3_personAt_22 : decode cX3_personAt 22 = .ok (.iload_n 1, 1) := by decide +kernel
theorem dX3_personAt_23 : decode cX3_personAt 23 = .ok (.iaload, 1) := by decide +kernel
theorem dX3_personAt_24 : decode cX3_personAt 24 = .ok (.goto 5, 3) := by decide +kernel
theorem dX3_personAt_27 : decode cX3_personAt 27 = .ok (.bipush (-5), 2) := by decide +kernel
theorem dX3_personAt_29 : decode cX3_personAt 29 = .ok (.ireturn, 1) := by decide +kernel
theorem dX4_init_0 : decode cX4_init 0 = .ok (.aload_n 0, 1) := by decide +kernel
theorem dX4_init_1 : decode cX4_init 1 = .ok (.invokespecial 3, 3) := by decide +kernel
theorem dX4_init_4 : decode cX4_init 4 = .ok (.aload_n 0, 1) := by decide +kernel
theorem dX4_init_5 : decode cX4_init 5 = .ok (.bipush 60, 2) := by decide +kernel
theorem dX4_init_7 : decode cX4_init 7 = .ok (.newarray .char, 2) := by decide +kernel
theorem dX4_init_9 : decode cX4_init 9 = .ok (.putfield 9, 3) := by decide +kernel
theorem dX4_init_12 : decode cX4_init 12 = .ok (.aload_n 0, 1) := by decide +kernel
theorem dX4_init_13 : decode cX4_init 13 = .ok (.bipush 15, 2) := by decide +kernel
theorem dX4_init_15 : decode cX4_init 15 = .ok (.anewarray 15, 3) := by decide +kernel
theorem dX4_init_18 : decode cX4_init 18 = .ok (.putfield 17, 3) := by decide +kernel
theorem dX4_init_21 : decode cX4_init 21 = .ok (.iconst 0, 1) := by decide +kernel
theorem dX4_init_22 : decode cX4_init 22 = .ok (.istore_n 1, 1) := by decide +kernel
theorem dX4_init_23 : decode cX4_init 23 = .ok (.iload_n 1, 1) := by decide +kernel
theorem dX4_init_24 : decode cX4_init 24 = .ok (.bipush 15, 2) := by decide +kernel
theorem dX4_init_26 : decode cX4_init 26 = .ok (.if_icmp .ge 22, 3) := by decide +kernel
theorem dX4_init_29 : decode cX4_init 29 = .ok (.aload_n 0, 1) := by decide +kernel
theorem dX4_init_30 : decode cX4_init 30 = .ok (.getfield 17, 3) := by decide +kernel
theorem dX4_init_33 : decode cX4_init 33 = .ok (.iload_n 1, 1) := by decide +kernel
theorem dX4_init_34 : decode cX4_init 34 = .ok (.new 15, 3) := by decide +kernel
theorem dX4_init_37 : decode cX4_init 37 = .ok (.dup, 1) := by decide +kernel
theorem dX4_init_38 : decode cX4_init 38 = .ok (.invokespecial 21, 3) := by decide +kernel
theorem dX4_init_41 : decode cX4_init 41 = .ok (.aastore, 1) := by decide +kernel
theorem dX4_init_42 : decode cX4_init 42 = .ok (.iinc 1 1, 3) := by decide +kernel
theorem dX4_init_45 : decode cX4_init 45 = .ok (.goto (-22), 3) := by decide +kernel
theorem dX4_init_48 : decode cX4_init 48 = .ok (.return_, 1) := by decide +kernel
theorem dX4_length_0 : decode cX4_length 0 = .ok (.aload_n 0, 1) := by decide +kernel
theorem dX4_length_1 : decode cX4_length 1 = .ok (.getfield 22, 3) := by decide +kernel
theorem dX4_length_4 : decode cX4_length 4 = .ok (.ireturn, 1) := by decide +kernel
theorem dX4_append_0 : decode cX4_append 0 = .ok (.aload_n 0, 1) := by decide +kernel
theorem dX4_append_1 : decode cX4_append 1 = .ok (.getfield 22, 3) := by decide +kernel
theorem dX4_append_4 : decode cX4_append 4 = .ok (.ifCond .lt 12, 3) := by decide +kernel
theorem dX4_append_7 : decode cX4_append 7 = .ok (.aload_n 0, 1) := by decide +kernel
theorem dX4_append_8 : decode cX4_append 8 = .ok (.getfield 22, 3) := by decide +kernel
theorem dX4_append_11 : decode cX4_append 11 = .ok (.bipush 60, 2) := by decide +kernel
theorem dX4_append_13 : decode cX4_append 13 = .ok (.if_icmp .lt 5, 3) := by decide +kernel
theorem dX4_append_16 : decode cX4_append 16 = .ok (.iconst 0, 1) := by decide +kernel
theorem dX4_append_17 : decode cX4_append 17 = .ok (.ireturn, 1) := by decide +kernel
theorem dX4_append_18 : decode cX4_append 18 = .ok (.aload_n 0, 1) := by decide +kernel
theorem dX4_append_19 : decode cX4_append 19 = .ok (.getfield 9, 3) := by decide +kernel
theorem dX4_append_22 : decode cX4_append 22 = .ok (.aload_n 0, 1) := by decide +kernel
theorem dX4_append_23 : decode cX4_append 23 = .ok (.getfield 22, 3) := by decide +kernel
theorem dX4_append_26 : decode cX4_append 26 = .ok (.iload_n 1, 1) := by decide +kernel
theorem dX4_append_27 : decode cX4_append 27 = .ok (.castore, 1) := by decide +kernel
theorem dX4_append_28 : decode cX4_append 28 = .ok (.aload_n 0, 1) := by decide +kernel
theorem dX4_append_29 : decode cX4_append 29 = .ok (.dup, 1) := by decide +kernel
theorem dX4_append_30 : decode cX4_append 30 = .ok (.getfield 22, 3) := by decide +kernel
theorem dX4_append_33 : decode cX4_append 33 = .ok (.iconst 1, 1) := by decide +kernel
theorem dX4_append_34 : decode cX4_append 34 = .ok (.iadd, 1) := by decide +kernel
theorem dX4_append_35 : decode cX4_append 35 = .ok (.putfield 22, 3) := by decide +kernel
theorem dX4_append_38 : decode cX4_append 38 = .ok (.iconst 1, 1) := by decide +kernel
theorem dX4_append_39 : decode cX4_append 39 = .ok (.ireturn, 1) := by decide +kernel
theorem dX4_clear_0 : decode cX4_clear 0 = .ok (.aload_n 0, 1) := by decide +kernel
theorem dX4_clear_1 : decode cX4_clear 1 = .ok (.iconst 0, 1) := by decide +kernel
theorem dX4_clear_2 : decode cX4_clear 2 = .ok (.putfield 22, 3) := by decide +kernel
theorem dX4_clear_5 : decode cX4_clear 5 = .ok (.return_, 1) := by decide +kernel
theorem dX4_fault_0 : decode cX4_fault 0 = .ok (.aload_n 0, 1) := by decide +kernel
theorem dX4_fault_1 : decode cX4_fault 1 = .ok (.getfield 26, 3) := by decide +kernel
theorem dX4_fault_4 : decode cX4_fault 4 = .ok (.ireturn, 1) := by decide +kernel
theorem dX4_personsRead_0 : decode cX4_personsRead 0 = .ok (.aload_n 0, 1) := by decide +kernel
theorem dX4_personsRead_1 : decode cX4_personsRead 1 = .ok (.getfield 29, 3) := by decide +kernel
theorem dX4_personsRead_4 : decode cX4_personsRead 4 = .ok (.ireturn, 1) := by decide +kernel
theorem dX4_readLife_0 : decode cX4_readLife 0 = .ok (.iload_n 1, 1) := by decide +kernel
theorem dX4_readLife_1 : decode cX4_readLife 1 = .ok (.ifCond .lt 17, 3) := by decide +kernel
theorem dX4_readLife_4 : decode cX4_readLife 4 = .ok (.iload_n 1, 1) := by decide +kernel
theorem dX4_readLife_5 : decode cX4_readLife 5 = .ok (.aload_n 0, 1) := by decide +kernel
theorem dX4_readLife_6 : decode cX4_readLife 6 = .ok (.getfield 29, 3) := by decide +kernel
theorem dX4_readLife_9 : decode cX4_readLife 9 = .ok (.if_icmp .ge 9, 3) := by decide +kernel
theorem dX4_readLife_12 : decode cX4_readLife 12 = .ok (.iload_n 1, 1) := by decide +kernel
theorem dX4_readLife_13 : decode cX4_readLife 13 = .ok (.bipush 15, 2) := by decide +kernel
theorem dX4_readLife_15 : decode cX4_readLife 15 = .ok (.if_icmp .lt 5, 3) := by decide +kernel
theorem dX4_readLife_18 : decode cX4_readLife 18 = .ok (.aconst_null, 1) := by decide +kernel
theorem dX4_readLife_19 : decode cX4_readLife 19 = .ok (.areturn, 1) := by decide +kernel
theorem dX4_readLife_20 : decode cX4_readLife 20 = .ok (.aload_n 0, 1) := by decide +kernel
theorem dX4_readLife_21 : decode cX4_readLife 21 = .ok (.getfield 17, 3) := by decide +kernel
theorem dX4_readLife_24 : decode cX4_readLife 24 = .ok (.iload_n 1, 1) := by decide +kernel
theorem dX4_readLife_25 : decode cX4_readLife 25 = .ok (.aaload, 1) := by decide +kernel
theorem dX4_readLife_26 : decode cX4_readLife 26 = .ok (.areturn, 1) := by decide +kernel
theorem dX4_readPersons_0 : decode cX4_readPersons 0 = .ok (.aload_n 0, 1) := by decide +kernel
theorem dX4_readPersons_1 : decode cX4_readPersons 1 = .ok (.iconst 0, 1) := by decide +kernel
theorem dX4_readPersons_2 : decode cX4_readPersons 2 = .ok (.putfield 26, 3) := by decide +kernel
theorem dX4_readPersons_5 : decode cX4_readPersons 5 = .ok (.aload_n 0, 1) := by decide +kernel
theorem dX4_readPersons_6 : decode cX4_readPersons 6 = .ok (.iconst 0, 1) := by decide +kernel
theorem dX4_readPersons_7 : decode cX4_readPersons 7 = .ok (.putfield 29, 3) := by decide +kernel
theorem dX4_readPersons_10 : decode cX4_readPersons 10 = .ok (.iconst 1, 1) := by decide +kernel
theorem dX4_readPersons_11 : decode cX4_readPersons 11 = .ok (.istore_n 2, 1) := by decide +kernel
theorem dX4_readPersons_12 : decode cX4_readPersons 12 = .ok (.iload_n 2, 1) := by decide +kernel
theorem dX4_readPersons_13 : decode cX4_readPersons 13 = .ok (.ifCond .eq 52, 3) := by decide +kernel
theorem dX4_readPersons_16 : decode cX4_readPersons 16 = .ok (.aload_n 0, 1) := by decide +kernel
theorem dX4_readPersons_17 : decode cX4_readPersons 17 = .ok (.getfield 29, 3) := by decide +kernel
theorem dX4_readPersons_20 : decode cX4_readPersons 20 = .ok (.bipush 15, 2) := by decide +kernel
theorem dX4_readPersons_22 : decode cX4_readPersons 22 = .ok (.if_icmp .ge 43, 3) := by decide +kernel
theorem dX4_readPersons_25 : decode cX4_readPersons 25 = .ok (.aload_n 0, 1) := by decide +kernel
theorem dX4_readPersons_26 : decode cX4_readPersons 26 = .ok (.dup, 1) := by decide +kernel
theorem dX4_readPersons_27 : decode cX4_readPersons 27 = .ok (.getfield 29, 3) := by decide +kernel
theorem dX4_readPersons_30 : decode cX4_readPersons 30 = .ok (.iconst 1, 1) := by decide +kernel
theorem dX4_readPersons_31 : decode cX4_readPersons 31 = .ok (.iadd, 1) := by decide +kernel
theorem dX4_readPersons_32 : decode cX4_readPersons 32 = .ok (.putfield 29, 3) := by decide +kernel
theorem dX4_readPersons_35 : decode cX4_readPersons 35 = .ok (.aload_n 0, 1) := by decide +kernel
theorem dX4_readPersons_36 : decode cX4_readPersons 36 = .ok (.aload_n 0, 1) := by decide +kernel
theorem dX4_readPersons_37 : decode cX4_readPersons 37 = .ok (.aload_n 0, 1) := by decide +kernel
theorem dX4_readPersons_38 : decode cX4_readPersons 38 = .ok (.getfield 29, 3) := by decide +kernel
theorem dX4_readPersons_41 : decode cX4_readPersons 41 = .ok (.iconst 1, 1) := by decide +kernel
theorem dX4_readPersons_42 : decode cX4_readPersons 42 = .ok (.isub, 1) := by decide +kernel
theorem dX4_readPersons_43 : decode cX4_readPersons 43 = .ok (.invokevirtual 32, 3) := by decide +kernel
theorem dX4_readPersons_46 : decode cX4_readPersons 46 = .ok (.iload_n 1, 1) := by decide +kernel
theorem dX4_readPersons_47 : decode cX4_readPersons 47 = .ok (.invokevirtual 36, 3) := by decide +kernel
theorem dX4_readPersons_50 : decode cX4_readPersons 50 = .ok (.ifCond .ne 5, 3) := by decide +kernel
theorem dX4_readPersons_53 : decode cX4_readPersons 53 = .ok (.iconst 0, 1) := by decide +kernel
theorem dX4_readPersons_54 : decode cX4_readPersons 54 = .ok (.ireturn, 1) := by decide +kernel
theorem dX4_readPersons_55 : decode cX4_readPersons 55 = .ok (.aload_n 0, 1) := by decide +kernel
theorem dX4_readPersons_56 : decode cX4_readPersons 56 = .ok (.bipush 59, 2) := by decide +kernel
theorem dX4_readPersons_58 : decode cX4_readPersons 58 = .ok (.invokevirtual 40, 3) := by decide +kernel
theorem dX4_readPersons_61 : decode cX4_readPersons 61 = .ok (.istore_n 2, 1) := by decide +kernel
theorem dX4_readPersons_62 : decode cX4_readPersons 62 = .ok (.goto (-50), 3) := by decide +kernel
theorem dX4_readPersons_65 : decode cX4_readPersons 65 = .ok (.iload_n 2, 1) := by decide +kernel
theorem dX4_readPersons_66 : decode cX4_readPersons 66 = .ok (.ifCond .ne 18, 3) := by decide +kernel
theorem dX4_readPersons_69 : decode cX4_readPersons 69 = .ok (.aload_n 0, 1) := by decide +kernel
theorem dX4_readPersons_70 : decode cX4_readPersons 70 = .ok (.getfield 26, 3) := by decide +kernel
theorem dX4_readPersons_73 : decode cX4_readPersons 73 = .ok (.aload_n 0, 1) := by decide +kernel
theorem dX4_readPersons_74 : decode cX4_readPersons 74 = .ok (.getfield 22, 3) := by decide +kernel
theorem dX4_readPersons_77 : decode cX4_readPersons 77 = .ok (.if_icmp .ne 7, 3) := by decide +kernel
theorem dX4_readPersons_80 : decode cX4_readPersons 80 = .ok (.iconst 1, 1) := by decide +kernel
theorem dX4_readPersons_81 : decode cX4_readPersons 81 = .ok (.goto 4, 3) := by decide +kernel
theorem dX4_readPersons_84 : decode cX4_readPersons 84 = .ok (.iconst 0, 1) := by decide +kernel
theorem dX4_readPersons_85 : decode cX4_readPersons 85 = .ok (.ireturn, 1) := by decide +kernel
theorem dX4_readPerson_0 : decode cX4_readPerson 0 = .ok (.aload_n 0, 1) := by decide +kernel
theorem dX4_readPerson_1 : decode cX4_readPerson 1 = .ok (.invokevirtual 44, 3) := by decide +kernel
theorem dX4_readPerson_4 : decode cX4_readPerson 4 = .ok (.istore_n 3, 1) := by decide +kernel
theorem dX4_readPerson_5 : decode cX4_readPerson 5 = .ok (.aload_n 1, 1) := by decide +kernel
theorem dX4_readPerson_6 : decode cX4_readPerson 6 = .ok (.ifnull 18, 3) := by decide +kernel
theorem dX4_readPerson_9 : decode cX4_readPerson 9 = .ok (.iload_n 3, 1) := by decide +kernel
theorem dX4_readPerson_10 : decode cX4_readPerson 10 = .ok (.bipush (-5), 2) := by decide +kernel
theorem dX4_readPerson_12 : decode cX4_readPerson 12 = .ok (.if_icmp .eq 12, 3) := by decide +kernel
theorem dX4_readPerson_15 : decode cX4_readPerson 15 = .ok (.aload_n 0, 1) := by decide +kernel
theorem dX4_readPerson_16 : decode cX4_readPerson 16 = .ok (.bipush 114, 2) := by decide +kernel
theorem dX4_readPerson_18 : decode cX4_readPerson 18 = .ok (.invokevirtual 40, 3) := by decide +kernel
theorem dX4_readPerson_21 : decode cX4_readPerson 21 = .ok (.ifCond .ne 5, 3) := by decide +kernel
theorem dX4_readPerson_24 : decode cX4_readPerson 24 = .ok (.iconst 0, 1) := by decide +kernel
theorem dX4_readPerson_25 : decode cX4_readPerson 25 = .ok (.ireturn, 1) := by decide +kernel
theorem dX4_readPerson_26 : decode cX4_readPerson 26 = .ok (.aload_n 0, 1) := by decide +kernel
theorem dX4_readPerson_27 : decode cX4_readPerson 27 = .ok (.iconst 1, 1) := by decide +kernel
theorem dX4_readPerson_28 : decode cX4_readPerson 28 = .ok (.bipush 9, 2) := by decide +kernel
theorem dX4_readPerson_30 : decode cX4_readPerson 30 = .ok (.invokevirtual 48, 3) := by decide +kernel
theorem dX4_readPerson_33 : decode cX4_readPerson 33 = .ok (.istore 4, 2) := by decide +kernel
theorem dX4_readPerson_35 : decode cX4_readPerson 35 = .ok (.iload 4, 2) := by decide +kernel
theorem dX4_readPerson_37 : decode cX4_readPerson 37 = .ok (.bipush (-5), 2) := by decide +kernel
theorem dX4_readPerson_39 : decode cX4_readPerson 39 = .ok (.if_icmp .ne 5, 3) := by decide +kernel
theorem dX4_readPerson_42 : decode cX4_readPerson 42 = .ok (.iconst 0, 1) := by decide +kernel
theorem dX4_readPerson_43 : decode cX4_readPerson 43 = .ok (.ireturn, 1) := by decide +kernel
theorem dX4_readPerson_44 : decode cX4_readPerson 44 = .ok (.aload_n 1, 1) := by decide +kernel
theorem dX4_readPerson_45 : decode cX4_readPerson 45 = .ok (.iload_n 3, 1) := by decide +kernel
theorem dX4_readPerson_46 : decode cX4_readPerson 46 = .ok (.iload 4, 2) := by decide +kernel
theorem dX4_readPerson_48 : decode cX4_readPerson 48 = .ok (.invokevirtual 52, 3) := by decide +kernel
theorem dX4_readPerson_51 : decode cX4_readPerson 51 = .ok (.iconst 0, 1) := by decide +kernel
theorem dX4_readPerson_52 : decode cX4_readPerson 52 = .ok (.istore 5, 2) := by decide +kernel
theorem dX4_readPerson_54 : decode cX4_readPerson 54 = .ok (.iload 5, 2) := by decide +kernel
theorem dX4_readPerson_56 : decode cX4_readPerson 56 = .ok (.bipush 8, 2) := by decide +kernel
theorem dX4_readPerson_58 : decode cX4_readPerson 58 = .ok (.if_icmp .ge 29, 3) := by decide +kernel
theorem dX4_readPerson_61 : decode cX4_readPerson 61 = .ok (.aload_n 0, 1) := by decide +kernel
theorem dX4_readPerson_62 : decode cX4_readPerson 62 = .ok (.bipush 44, 2) := by decide +kernel
theorem dX4_readPerson_64 : decode cX4_readPerson 64 = .ok (.invokevirtual 40, 3) := by decide +kernel
theorem dX4_readPerson_67 : decode cX4_readPerson 67 = .ok (.ifCond .eq 20, 3) := by decide +kernel
theorem dX4_readPerson_70 : decode cX4_readPerson 70 = .ok (.aload_n 0, 1) := by decide +kernel
theorem dX4_readPerson_71 : decode cX4_readPerson 71 = .ok (.aload_n 1, 1) := by decide +kernel
theorem dX4_readPerson_72 : decode cX4_readPerson 72 = .ok (.iload_n 2, 1) := by decide +kernel
theorem dX4_readPerson_73 : decode cX4_readPerson 73 = .ok (.invokevirtual 56, 3) := by decide +kernel
theorem dX4_readPerson_76 : decode cX4_readPerson 76 = .ok (.ifCond .ne 5, 3) := by decide +kernel
theorem dX4_readPerson_79 : decode cX4_readPerson 79 = .ok (.iconst 0, 1) := by decide +kernel
theorem dX4_readPerson_80 : decode cX4_readPerson 80 = .ok (.ireturn, 1) := by decide +kernel
theorem dX4_readPerson_81 : decode cX4_readPerson 81 = .ok (.iinc 5 1, 3) := by decide +kernel
theorem dX4_readPerson_84 : decode cX4_readPerson 84 = .ok (.goto (-30), 3) := by decide +kernel
theorem dX4_readPerson_87 : decode cX4_readPerson 87 = .ok (.iconst 1, 1) := by decide +kernel
theorem dX4_readPerson_88 : decode cX4_readPerson 88 = .ok (.ireturn, 1) := by decide +kernel
theorem dX4_readFact_0 : decode cX4_readFact 0 = .ok (.aload_n 0, 1) := by decide +kernel
theorem dX4_readFact_1 : decode cX4_readFact 1 = .ok (.iconst 0, 1) := by decide +kernel
theorem dX4_readFact_2 : decode cX4_readFact 2 = .ok (.iconst 5, 1) := by decide +kernel
theorem dX4_readFact_3 : decode cX4_readFact 3 = .ok (.invokevirtual 48, 3) := by decide +kernel
theorem dX4_readFact_6 : decode cX4_readFact 6 = .ok (.istore_n 3, 1) := by decide +kernel
theorem dX4_readFact_7 : decode cX4_readFact 7 = .ok (.iload_n 3, 1) := by decide +kernel
theorem dX4_readFact_8 : decode cX4_readFact 8 = .ok (.bipush (-5), 2) := by decide +kernel
theorem dX4_readFact_10 : decode cX4_readFact 10 = .ok (.if_icmp .eq 12, 3) := by decide +kernel
theorem dX4_readFact_13 : decode cX4_readFact 13 = .ok (.aload_n 0, 1) := by decide +kernel
theorem dX4_readFact_14 : decode cX4_readFact 14 = .ok (.bipush 120, 2) := by decide +kernel
theorem dX4_readFact_16 : decode cX4_readFact 16 = .ok (.invokevirtual 40, 3) := by decide +kernel
theorem dX4_readFact_19 : decode cX4_readFact 19 = .ok (.ifCond .ne 5, 3) := by decide +kernel
theorem dX4_readFact_22 : decode cX4_readFact 22 = .ok (.iconst 0, 1) := by decide +kernel
theorem dX4_readFact_23 : decode cX4_readFact 23 = .ok (.ireturn, 1) := by decide +kernel
theorem dX4_readFact_24 : decode cX4_readFact 24 = .ok (.aload_n 0, 1) := by decide +kernel
theorem dX4_readFact_25 : decode cX4_readFact 25 = .ok (.iconst 1, 1) := by decide +kernel
theorem dX4_readFact_26 : decode cX4_readFact 26 = .ok (.bipush 9, 2) := by decide +kernel
theorem dX4_readFact_28 : decode cX4_readFact 28 = .ok (.invokevirtual 48, 3) := by decide +kernel
theorem dX4_readFact_31 : decode cX4_readFact 31 = .ok (.istore 4, 2) := by decide +kernel
theorem dX4_readFact_33 : decode cX4_readFact 33 = .ok (.iload 4, 2) := by decide +kernel
theorem dX4_readFact_35 : decode cX4_readFact 35 = .ok (.bipush (-5), 2) := by decide +kernel
theorem dX4_readFact_37 : decode cX4_readFact 37 = .ok (.if_icmp .ne 5, 3) := by decide +kernel
theorem dX4_readFact_40 : decode cX4_readFact 40 = .ok (.iconst 0, 1) := by decide +kernel
theorem dX4_readFact_41 : decode cX4_readFact 41 = .ok (.ireturn, 1) := by decide +kernel
theorem dX4_readFact_42 : decode cX4_readFact 42 = .ok (.aload_n 1, 1) := by decide +kernel
theorem dX4_readFact_43 : decode cX4_readFact 43 = .ok (.iload_n 3, 1) := by decide +kernel
theorem dX4_readFact_44 : decode cX4_readFact 44 = .ok (.iload 4, 2) := by decide +kernel
theorem dX4_readFact_46 : decode cX4_readFact 46 = .ok (.iload_n 2, 1) := by decide +kernel
theorem dX4_readFact_47 : decode cX4_readFact 47 = .ok (.invokevirtual 59, 3) := by decide +kernel
theorem dX4_readFact_50 : decode cX4_readFact 50 = .ok (.pop, 1) := by decide +kernel
theorem dX4_readFact_51 : decode cX4_readFact 51 = .ok (.iconst 1, 1) := by decide +kernel
theorem dX4_readFact_52 : decode cX4_readFact 52 = .ok (.ireturn, 1) := by decide +kernel
theorem dX4_takeAge_0 : decode cX4_takeAge 0 = .ok (.aload_n 0, 1) := by decide +kernel
theorem dX4_takeAge_1 : decode cX4_takeAge 1 = .ok (.iconst 0, 1) := by decide +kernel
theorem dX4_takeAge_2 : decode cX4_takeAge 2 = .ok (.bipush 9, 2) := by decide +kernel
theorem dX4_takeAge_4 : decode cX4_takeAge 4 = .ok (.invokevirtual 48, 3) := by decide +kernel
theorem dX4_takeAge_7 : decode cX4_takeAge 7 = .ok (.istore_n 1, 1) := by decide +kernel
theorem dX4_takeAge_8 : decode cX4_takeAge 8 = .ok (.iload_n 1, 1) := by decide +kernel
theorem dX4_takeAge_9 : decode cX4_takeAge 9 = .ok (.ifCond .le 7, 3) := by decide +kernel
theorem dX4_takeAge_12 : decode cX4_takeAge 12 = .ok (.iconst 1, 1) := by decide +kernel
theorem dX4_takeAge_13 : decode cX4_takeAge 13 = .ok (.goto 4, 3) := by decide +kernel
theorem dX4_takeAge_16 : decode cX4_takeAge 16 = .ok (.iconst 0, 1) := by decide +kernel
theorem dX4_takeAge_17 : decode cX4_takeAge 17 = .ok (.istore_n 2, 1) := by decide +kernel
theorem dX4_takeAge_18 : decode cX4_takeAge 18 = .ok (.iconst 1, 1) := by decide +kernel
theorem dX4_takeAge_19 : decode cX4_takeAge 19 = .ok (.istore_n 3, 1) := by decide +kernel
theorem dX4_takeAge_20 : decode cX4_takeAge 20 = .ok (.iload_n 3, 1) := by decide +kernel
theorem dX4_takeAge_21 : decode cX4_takeAge 21 = .ok (.iconst 3, 1) := by decide +kernel
theorem dX4_takeAge_22 : decode cX4_takeAge 22 = .ok (.if_icmp .ge 57, 3) := by decide +kernel
theorem dX4_takeAge_25 : decode cX4_takeAge 25 = .ok (.iload_n 2, 1) := by decide +kernel
theorem dX4_takeAge_26 : decode cX4_takeAge 26 = .ok (.ifCond .eq 53, 3) := by decide +kernel
theorem dX4_takeAge_29 : decode cX4_takeAge 29 = .ok (.aload_n 0, 1) := by decide +kernel
theorem dX4_takeAge_30 : decode cX4_takeAge 30 = .ok (.iconst 0, 1) := by decide +kernel
theorem dX4_takeAge_31 : decode cX4_takeAge 31 = .ok (.bipush 9, 2) := by decide +kernel
theorem dX4_takeAge_33 : decode cX4_takeAge 33 = .ok (.bipush 110, 2) := by decide +kernel
theorem dX4_takeAge_35 : decode cX4_takeAge 35 = .ok (.bipush 10, 2) := by decide +kernel
theorem dX4_takeAge_37 : decode cX4_takeAge 37 = .ok (.iload_n 1, 1) := by decide +kernel
theorem dX4_takeAge_38 : decode cX4_takeAge 38 = .ok (.imul, 1) := by decide +kernel
theorem dX4_takeAge_39 : decode cX4_takeAge 39 = .ok (.isub, 1) := by decide +kernel
theorem dX4_takeAge_40 : decode cX4_takeAge 40 = .ok (.invokestatic 63, 3) := by decide +kernel
theorem dX4_takeAge_43 : decode cX4_takeAge 43 = .ok (.invokevirtual 48, 3) := by decide +kernel
theorem dX4_takeAge_46 : decode cX4_takeAge 46 = .ok (.istore 4, 2) := by decide +kernel
theorem dX4_takeAge_48 : decode cX4_takeAge 48 = .ok (.iload 4, 2) := by decide +kernel
theorem dX4_takeAge_50 : decode cX4_takeAge 50 = .ok (.bipush (-5), 2) := by decide +kernel
theorem dX4_takeAge_52 : decode cX4_takeAge 52 = .ok (.if_icmp .eq 7, 3) := by decide +kernel
theorem dX4_takeAge_55 : decode cX4_takeAge 55 = .ok (.iconst 1, 1) := by decide +kernel
theorem dX4_takeAge_56 : decode cX4_takeAge 56 = .ok (.goto 4, 3) := by decide +kernel
theorem dX4_takeAge_59 : decode cX4_takeAge 59 = .ok (.iconst 0, 1) := by decide +kernel
theorem dX4_takeAge_60 : decode cX4_takeAge 60 = .ok (.istore_n 2, 1) := by decide +kernel
theorem dX4_takeAge_61 : decode cX4_takeAge 61 = .ok (.iload_n 2, 1) := by decide +kernel
theorem dX4_takeAge_62 : decode cX4_takeAge 62 = .ok (.ifCond .eq 11, 3) := by decide +kernel
theorem dX4_takeAge_65 : decode cX4_takeAge 65 = .ok (.bipush 10, 2) := by decide +kernel
theorem dX4_takeAge_67 : decode cX4_takeAge 67 = .ok (.iload_n 1, 1) := by decide +kernel
theorem dX4_takeAge_68 : decode cX4_takeAge 68 = .ok (.imul, 1) := by decide +kernel
theorem dX4_takeAge_69 : decode cX4_takeAge 69 = .ok (.iload 4, 2) := by decide +kernel
theorem dX4_takeAge_71 : decode cX4_takeAge 71 = .ok (.iadd, 1) := by decide +kernel
theorem dX4_takeAge_72 : decode cX4_takeAge 72 = .ok (.istore_n 1, 1) := by decide +kernel
theorem dX4_takeAge_73 : decode cX4_takeAge 73 = .ok (.iinc 3 1, 3) := by decide +kernel
theorem dX4_takeAge_76 : decode cX4_takeAge 76 = .ok (.goto (-56), 3) := by decide +kernel
theorem dX4_takeAge_79 : decode cX4_takeAge 79 = .ok (.iload_n 1, 1) := by decide +kernel
theorem dX4_takeAge_80 : decode cX4_takeAge 80 = .ok (.ireturn, 1) := by decide +kernel
theorem dX4_takeDigit_0 : decode cX4_takeDigit 0 = .ok (.aload_n 0, 1) := by decide +kernel
theorem dX4_takeDigit_1 : decode cX4_takeDigit 1 = .ok (.getfield 26, 3) := by decide +kernel
theorem dX4_takeDigit_4 : decode cX4_takeDigit 4 = .ok (.ifCond .lt 23, 3) := by decide +kernel
theorem dX4_takeDigit_7 : decode cX4_takeDigit 7 = .ok (.aload_n 0, 1) := by decide +kernel
theorem dX4_takeDigit_8 : decode cX4_takeDigit 8 = .ok (.getfield 26, 3) := by decide +kernel
theorem dX4_takeDigit_11 : decode cX4_takeDigit 11 = .ok (.aload_n 0, 1) := by decide +kernel
theorem dX4_takeDigit_12 : decode cX4_takeDigit 12 = .ok (.getfield 22, 3) := by decide +kernel
theorem dX4_takeDigit_15 : decode cX4_takeDigit 15 = .ok (.if_icmp .ge 12, 3) := by decide +kernel
theorem dX4_takeDigit_18 : decode cX4_takeDigit 18 = .ok (.aload_n 0, 1) := by decide +kernel
theorem dX4_takeDigit_19 : decode cX4_takeDigit 19 = .ok (.getfield 26, 3) := by decide +kernel
theorem dX4_takeDigit_22 : decode cX4_takeDigit 22 = .ok (.bipush 60, 2) := by decide +kernel
theorem dX4_takeDigit_24 : decode cX4_takeDigit 24 = .ok (.if_icmp .lt 6, 3) := by decide +kernel
theorem dX4_takeDigit_27 : decode cX4_takeDigit 27 = .ok (.bipush (-5), 2) := by decide +kernel
theorem dX4_takeDigit_29 : decode cX4_takeDigit 29 = .ok (.ireturn, 1) := by decide +kernel
theorem dX4_takeDigit_30 : decode cX4_takeDigit 30 = .ok (.aload_n 0, 1) := by decide +kernel
theorem dX4_takeDigit_31 : decode cX4_takeDigit 31 = .ok (.getfield 9, 3) := by decide +kernel
theorem dX4_takeDigit_34 : decode cX4_takeDigit 34 = .ok (.aload_n 0, 1) := by decide +kernel
theorem dX4_takeDigit_35 : decode cX4_takeDigit 35 = .ok (.getfield 26, 3) := by decide +kernel
theorem dX4_takeDigit_38 : decode cX4_takeDigit 38 = .ok (.caload, 1) := by decide +kernel
theorem dX4_takeDigit_39 : decode cX4_takeDigit 39 = .ok (.bipush 48, 2) := by decide +kernel
theorem dX4_takeDigit_41 : decode cX4_takeDigit 41 = .ok (.isub, 1) := by decide +kernel
theorem dX4_takeDigit_42 : decode cX4_takeDigit 42 = .ok (.istore_n 3, 1) := by decide +kernel
theorem dX4_takeDigit_43 : decode cX4_takeDigit 43 = .ok (.iload_n 3, 1) := by decide +kernel
theorem dX4_takeDigit_44 : decode cX4_takeDigit 44 = .ok (.iload_n 1, 1) := by decide +kernel
theorem dX4_takeDigit_45 : decode cX4_takeDigit 45 = .ok (.iload_n 2, 1) := by decide +kernel
theorem dX4_takeDigit_46 : decode cX4_takeDigit 46 = .ok (.invokestatic 68, 3) := by decide +kernel
theorem dX4_takeDigit_49 : decode cX4_takeDigit 49 = .ok (.ifCond .ne 6, 3) := by decide +kernel
theorem dX4_takeDigit_52 : decode cX4_takeDigit 52 = .ok (.bipush (-5), 2) := by decide +kernel
theorem dX4_takeDigit_54 : decode cX4_takeDigit 54 = .ok (.ireturn, 1) := by decide +kernel
theorem dX4_takeDigit_55 : decode cX4_takeDigit 55 = .ok (.aload_n 0, 1) := by decide +kernel
theorem dX4_takeDigit_56 : decode cX4_takeDigit 56 = .ok (.dup, 1) := by decide +kernel
theorem dX4_takeDigit_57 : decode cX4_takeDigit 57 = .ok (.getfield 26, 3) := by decide +kernel
theorem dX4_takeDigit_60 : decode cX4_takeDigit 60 = .ok (.iconst 1, 1) := by decide +kernel
theorem dX4_takeDigit_61 : decode cX4_takeDigit 61 = .ok (.iadd, 1) := by decide +kernel
theorem dX4_takeDigit_62 : decode cX4_takeDigit 62 = .ok (.putfield 26, 3) := by decide +kernel
theorem dX4_takeDigit_65 : decode cX4_takeDigit 65 = .ok (.iload_n 3, 1) := by decide +kernel
theorem dX4_takeDigit_66 : decode cX4_takeDigit 66 = .ok (.ireturn, 1) := by decide +kernel
theorem dX4_takes_0 : decode cX4_takes 0 = .ok (.aload_n 0, 1) := by decide +kernel
theorem dX4_takes_1 : decode cX4_takes 1 = .ok (.getfield 26, 3) := by decide +kernel
theorem dX4_takes_4 : decode cX4_takes 4 = .ok (.ifCond .lt 36, 3) := by decide +kernel
theorem dX4_takes_7 : decode cX4_takes 7 = .ok (.aload_n 0, 1) := by decide +kernel
theorem dX4_takes_8 : decode cX4_takes 8 = .ok (.getfield 26, 3) := by decide +kernel
theorem dX4_takes_11 : decode cX4_takes 11 = .ok (.aload_n 0, 1) := by decide +kernel
theorem dX4_takes_12 : decode cX4_takes 12 = .ok (.getfield 22, 3) := by decide +kernel
theorem dX4_takes_15 : decode cX4_takes 15 = .ok (.if_icmp .ge 25, 3) := by decide +kernel
theorem dX4_takes_18 : decode cX4_takes 18 = .ok (.aload_n 0, 1) := by decide +kernel
theorem dX4_takes_19 : decode cX4_takes 19 = .ok (.getfield 26, 3) := by decide +kernel
theorem dX4_takes_22 : decode cX4_takes 22 = .ok (.bipush 60, 2) := by decide +kernel
theorem dX4_takes_24 : decode cX4_takes 24 = .ok (.if_icmp .ge 16, 3) := by decide +kernel
theorem dX4_takes_27 : decode cX4_takes 27 = .ok (.aload_n 0, 1) := by decide +kernel
theorem dX4_takes_28 : decode cX4_takes 28 = .ok (.getfield 9, 3) := by decide +kernel
theorem dX4_takes_31 : decode cX4_takes 31 = .ok (.aload_n 0, 1) := by decide +kernel
theorem dX4_takes_32 : decode cX4_takes 32 = .ok (.getfield 26, 3) := by decide +kernel
theorem dX4_takes_35 : decode cX4_takes 35 = .ok (.caload, 1) := by decide +kernel
theorem dX4_takes_36 : decode cX4_takes 36 = .ok (.iload_n 1, 1) := by decide +kernel
theorem dX4_takes_37 : decode cX4_takes 37 = .ok (.if_icmp .eq 5, 3) := by decide +kernel
theorem dX4_takes_40 : decode cX4_takes 40 = .ok (.iconst 0, 1) := by decide +kernel
theorem dX4_takes_41 : decode cX4_takes 41 = .ok (.ireturn, 1) := by decide +kernel
theorem dX4_takes_42 : decode cX4_takes 42 = .ok (.aload_n 0, 1) := by decide +kernel
theorem dX4_takes_43 : decode cX4_takes 43 = .ok (.dup, 1) := by decide +kernel
theorem dX4_takes_44 : decode cX4_takes 44 = .ok (.getfield 26, 3) := by decide +kernel
theorem dX4_takes_47 : decode cX4_takes 47 = .ok (.iconst 1, 1) := by decide +kernel
theorem dX4_takes_48 : decode cX4_takes 48 = .ok (.iadd, 1) := by decide +kernel
theorem dX4_takes_49 : decode cX4_takes 49 = .ok (.putfield 26, 3) := by decide +kernel
theorem dX4_takes_52 : decode cX4_takes 52 = .ok (.iconst 1, 1) := by decide +kernel
theorem dX4_takes_53 : decode cX4_takes 53 = .ok (.ireturn, 1) := by decide +kernel
theorem dX5_init_0 : decode cX5_init 0 = .ok (.aload_n 0, 1) := by decide +kernel
theorem dX5_init_1 : decode cX5_init 1 = .ok (.invokespecial 3, 3) := by decide +kernel
theorem dX5_init_4 : decode cX5_init 4 = .ok (.aload_n 0, 1) := by decide +kernel
theorem dX5_init_5 : decode cX5_init 5 = .ok (.bipush 20, 2) := by decide +kernel
theorem dX5_init_7 : decode cX5_init 7 = .ok (.newarray .int, 2) := by decide +kernel
theorem dX5_init_9 : decode cX5_init 9 = .ok (.putfield 9, 3) := by decide +kernel
theorem dX5_init_12 : decode cX5_init 12 = .ok (.aload_n 0, 1) := by decide +kernel
theorem dX5_init_13 : decode cX5_init 13 = .ok (.bipush 20, 2) := by decide +kernel
theorem dX5_init_15 : decode cX5_init 15 = .ok (.newarray .int, 2) := by decide +kernel
theorem dX5_init_17 : decode cX5_init 17 = .ok (.putfield 15, 3) := by decide +kernel
theorem dX5_init_20 : decode cX5_init 20 = .ok (.return_, 1) := by decide +kernel
theorem dX5_clear_0 : decode cX5_clear 0 = .ok (.aload_n 0, 1) := by decide +kernel
theorem dX5_clear_1 : decode cX5_clear 1 = .ok (.iconst 0, 1) := by decide +kernel
theorem dX5_clear_2 : decode cX5_clear 2 = .ok (.putfield 18, 3) := by decide +kernel
theorem dX5_clear_5 : decode cX5_clear 5 = .ok (.return_, 1) := by decide +kernel
theorem dX5_size_0 : decode cX5_size 0 = .ok (.aload_n 0, 1) := by decide +kernel
theorem dX5_size_1 : decode cX5_size 1 = .ok (.getfield 18, 3) := by decide +kernel
theorem dX5_size_4 : decode cX5_size 4 = .ok (.ireturn, 1) := by decide +kernel
theorem dX5_enter_0 : decode cX5_enter 0 = .ok (.aload_n 0, 1) := by decide +kernel
theorem dX5_enter_1 : decode cX5_enter 1 = .ok (.getfield 18, 3) := by decide +kernel
theorem dX5_enter_4 : decode cX5_enter 4 = .ok (.ifCond .lt 12, 3) := by decide +kernel
theorem dX5_enter_7 : decode cX5_enter 7 = .ok (.aload_n 0, 1) := by decide +kernel
theorem dX5_enter_8 : decode cX5_enter 8 = .ok (.getfield 18, 3) := by decide +kernel
theorem dX5_enter_11 : decode cX5_enter 11 = .ok (.bipush 20, 2) := by decide +kernel
theorem dX5_enter_13 : decode cX5_enter 13 = .ok (.if_icmp .lt 4, 3) := by decide +kernel
theorem dX5_enter_16 : decode cX5_enter 16 = .ok (.return_, 1) := by decide +kernel
theorem dX5_enter_17 : decode cX5_enter 17 = .ok (.aload_n 0, 1) := by decide +kernel
theorem dX5_enter_18 : decode cX5_enter 18 = .ok (.getfield 18, 3) := by decide +kernel
theorem dX5_enter_21 : decode cX5_enter 21 = .ok (.istore_n 3, 1) := by decide +kernel
theorem dX5_enter_22 : decode cX5_enter 22 = .ok (.iload_n 3, 1) := by decide +kernel
theorem dX5_enter_23 : decode cX5_enter 23 = .ok (.ifCond .le 49, 3) := by decide +kernel
theorem dX5_enter_26 : decode cX5_enter 26 = .ok (.aload_n 0, 1) := by decide +kernel
theorem dX5_enter_27 : decode cX5_enter 27 = .ok (.getfield 15, 3) := by decide +kernel
theorem dX5_enter_30 : decode cX5_enter 30 = .ok (.iload_n 3, 1) := by decide +kernel
theorem dX5_enter_31 : decode cX5_enter 31 = .ok (.iconst 1, 1) := by decide +kernel
theorem dX5_enter_32 : decode cX5_enter 32 = .ok (.isub, 1) := by decide +kernel
theorem dX5_enter_33 : decode cX5_enter 33 = .ok (.iaload, 1) := by decide +kernel
theorem dX5_enter_34 : decode cX5_enter 34 = .ok (.iload_n 2, 1) := by decide +kernel
theorem dX5_enter_35 : decode cX5_enter 35 = .ok (.if_icmp .ge 37, 3) := by decide +kernel
theorem dX5_enter_38 : decode cX5_enter 38 = .ok (.aload_n 0, 1) := by decide +kernel
theorem dX5_enter_39 : decode cX5_enter 39 = .ok (.getfield 9, 3) := by decide +kernel
theorem dX5_enter_42 : decode cX5_enter 42 = .ok (.iload_n 3, 1) := by decide +kernel
theorem dX5_enter_43 : decode cX5_enter 43 = .ok (.aload_n 0, 1) := by decide +kernel
theorem dX5_enter_44 : decode cX5_enter 44 = .ok (.getfield 9, 3) := by decide +kernel
theorem dX5_enter_47 : decode cX5_enter 47 = .ok (.iload_n 3, 1) := by decide +kernel
theorem dX5_enter_48 : decode cX5_enter 48 = .ok (.iconst 1, 1) := by decide +kernel
theorem dX5_enter_49 : decode cX5_enter 49 = .ok (.isub, 1) := by decide +kernel
theorem dX5_enter_50 : decode cX5_enter 50 = .ok (.iaload, 1) := by decide +kernel
theorem dX5_enter_51 : decode cX5_enter 51 = .ok (.iastore, 1) := by decide +kernel
theorem dX5_enter_52 : decode cX5_enter 52 = .ok (.aload_n 0, 1) := by decide +kernel
theorem dX5_enter_53 : decode cX5_enter 53 = .ok (.getfield 15, 3) := by decide +kernel
theorem dX5_enter_56 : decode cX5_enter 56 = .ok (.iload_n 3, 1) := by decide +kernel
theorem dX5_enter_57 : decode cX5_enter 57 = .ok (.aload_n 0, 1) := by decide +kernel
theorem dX5_enter_58 : decode cX5_enter 58 = .ok (.getfield 15, 3) := by decide +kernel
theorem dX5_enter_61 : decode cX5_enter 61 = .ok (.iload_n 3, 1) := by decide +kernel
theorem dX5_enter_62 : decode cX5_enter 62 = .ok (.iconst 1, 1) := by decide +kernel
theorem dX5_enter_63 : decode cX5_enter 63 = .ok (.isub, 1) := by decide +kernel
theorem dX5_enter_64 : decode cX5_enter 64 = .ok (.iaload, 1) := by decide +kernel
theorem dX5_enter_65 : decode cX5_enter 65 = .ok (.iastore, 1) := by decide +kernel
theorem dX5_enter_66 : decode cX5_enter 66 = .ok (.iinc 3 (-1), 3) := by decide +kernel
theorem dX5_enter_69 : decode cX5_enter 69 = .ok (.goto (-47), 3) := by decide +kernel
theorem dX5_enter_72 : decode cX5_enter 72 = .ok (.aload_n 0, 1) := by decide +kernel
theorem dX5_enter_73 : decode cX5_enter 73 = .ok (.getfield 9, 3) := by decide +kernel
theorem dX5_enter_76 : decode cX5_enter 76 = .ok (.iload_n 3, 1) := by decide +kernel
theorem dX5_enter_77 : decode cX5_enter 77 = .ok (.iload_n 1, 1) := by decide +kernel
theorem dX5_enter_78 : decode cX5_enter 78 = .ok (.iastore, 1) := by decide +kernel
theorem dX5_enter_79 : decode cX5_enter 79 = .ok (.aload_n 0, 1) := by decide +kernel
theorem dX5_enter_80 : decode cX5_enter 80 = .ok (.getfield 15, 3) := by decide +kernel
theorem dX5_enter_83 : decode cX5_enter 83 = .ok (.iload_n 3, 1) := by decide +kernel
theorem dX5_enter_84 : decode cX5_enter 84 = .ok (.iload_n 2, 1) := by decide +kernel
theorem dX5_enter_85 : decode cX5_enter 85 = .ok (.iastore, 1) := by decide +kernel
theorem dX5_enter_86 : decode cX5_enter 86 = .ok (.aload_n 0, 1) := by decide +kernel
theorem dX5_enter_87 : decode cX5_enter 87 = .ok (.dup, 1) := by decide +kernel
theorem dX5_enter_88 : decode cX5_enter 88 = .ok (.getfield 18, 3) := by decide +kernel
theorem dX5_enter_91 : decode cX5_enter 91 = .ok (.iconst 1, 1) := by decide +kernel
theorem dX5_enter_92 : decode cX5_enter 92 = .ok (.iadd, 1) := by decide +kernel
theorem dX5_enter_93 : decode cX5_enter 93 = .ok (.putfield 18, 3) := by decide +kernel
theorem dX5_enter_96 : decode cX5_enter 96 = .ok (.return_, 1) := by decide +kernel
theorem dX5_personAt_0 : decode cX5_personAt 0 = .ok (.iload_n 1, 1) := by decide +kernel
theorem dX5_personAt_1 : decode cX5_personAt 1 = .ok (.ifCond .lt 26, 3) := by decide +kernel
theorem dX5_personAt_4 : decode cX5_personAt 4 = .ok (.iload_n 1, 1) := by decide +kernel
theorem dX5_personAt_5 : decode cX5_personAt 5 = .ok (.aload_n 0, 1) := by decide +kernel
theorem dX5_personAt_6 : decode cX5_personAt 6 = .ok (.getfield 18, 3) := by decide +kernel
theorem dX5_personAt_9 : decode cX5_personAt 9 = .ok (.if_icmp .ge 18, 3) := by decide +kernel
theorem dX5_personAt_12 : decode cX5_personAt 12 = .ok (.iload_n 1, 1) := by decide +kernel
theorem dX5_personAt_13 : decode cX5_personAt 13 = .ok (.bipush 20, 2) := by decide +kernel
theorem dX5_personAt_15 : decode cX5_personAt 15 = .ok (.if_icmp .ge 12, 3) := by decide +kernel
theorem dX5_personAt_18 : decode cX5_personAt 18 = .ok (.aload_n 0, 1) := by decide +kernel
theorem dX5_personAt_19 : decode cX5_personAt 19 = .ok (.getfield 9, 3) := by decide +kernel
theorem dX5_personAt_22 : decode cX5_personAt 22 = .ok (.iload_n 1, 1) := by decide +kernel
theorem dX5_personAt_23 : decode cX5_personAt 23 = .ok (.iaload, 1) := by decide +kernel
theorem dX5_personAt_24 : decode cX5_personAt 24 = .ok (.goto 5, 3) := by decide +kernel
theorem dX5_personAt_27 : decode cX5_personAt 27 = .ok (.bipush (-5), 2) := by decide +kernel
theorem dX5_personAt_29 : decode cX5_personAt 29 = .ok (.ireturn, 1) := by decide +kernel
theorem dX6_init_0 : decode cX6_init 0 = .ok (.aload_n 0, 1) := by decide +kernel
theorem dX6_init_1 : decode cX6_init 1 = .ok (.invokespecial 1, 3) := by decide +kernel
theorem dX6_init_4 : decode cX6_init 4 = .ok (.aload_n 0, 1) := by decide +kernel
theorem dX6_init_5 : decode cX6_init 5 = .ok (.new 7, 3) := by decide +kernel
theorem dX6_init_8 : decode cX6_init 8 = .ok (.dup, 1) := by decide +kernel
theorem dX6_init_9 : decode cX6_init 9 = .ok (.invokespecial 9, 3) := by decide +kernel
theorem dX6_init_12 : decode cX6_init 12 = .ok (.putfield 10, 3) := by decide +kernel
theorem dX6_init_15 : decode cX6_init 15 = .ok (.aload_n 0, 1) := by decide +kernel
theorem dX6_init_16 : decode cX6_init 16 = .ok (.new 7, 3) := by decide +kernel
theorem dX6_init_19 : decode cX6_init 19 = .ok (.dup, 1) := by decide +kernel
theorem dX6_init_20 : decode cX6_init 20 = .ok (.invokespecial 9, 3) := by decide +kernel
theorem dX6_init_23 : decode cX6_init 23 = .ok (.putfield 16, 3) := by decide +kernel
theorem dX6_init_26 : decode cX6_init 26 = .ok (.aload_n 0, 1) := by decide +kernel
theorem dX6_init_27 : decode cX6_init 27 = .ok (.new 19, 3) := by decide +kernel
theorem dX6_init_30 : decode cX6_init 30 = .ok (.dup, 1) := by decide +kernel
theorem dX6_init_31 : decode cX6_init 31 = .ok (.invokespecial 21, 3) := by decide +kernel
theorem dX6_init_34 : decode cX6_init 34 = .ok (.putfield 22, 3) := by decide +kernel
theorem dX6_init_37 : decode cX6_init 37 = .ok (.aload_n 0, 1) := by decide +kernel
theorem dX6_init_38 : decode cX6_init 38 = .ok (.new 26, 3) := by decide +kernel
theorem dX6_init_41 : decode cX6_init 41 = .ok (.dup, 1) := by decide +kernel
theorem dX6_init_42 : decode cX6_init 42 = .ok (.invokespecial 28, 3) := by decide +kernel
theorem dX6_init_45 : decode cX6_init 45 = .ok (.putfield 29, 3) := by decide +kernel
theorem dX6_init_48 : decode cX6_init 48 = .ok (.aload_n 0, 1) := by decide +kernel
theorem dX6_init_49 : decode cX6_init 49 = .ok (.new 33, 3) := by decide +kernel
theorem dX6_init_52 : decode cX6_init 52 = .ok (.dup, 1) := by decide +kernel
theorem dX6_init_53 : decode cX6_init 53 = .ok (.invokespecial 35, 3) := by decide +kernel
theorem dX6_init_56 : decode cX6_init 56 = .ok (.putfield 36, 3) := by decide +kernel
theorem dX6_init_59 : decode cX6_init 59 = .ok (.aload_n 0, 1) := by decide +kernel
theorem dX6_init_60 : decode cX6_init 60 = .ok (.new 40, 3) := by decide +kernel
theorem dX6_init_63 : decode cX6_init 63 = .ok (.dup, 1) := by decide +kernel
theorem dX6_init_64 : decode cX6_init 64 = .ok (.invokespecial 42, 3) := by decide +kernel
theorem dX6_init_67 : decode cX6_init 67 = .ok (.putfield 43, 3) := by decide +kernel
theorem dX6_init_70 : decode cX6_init 70 = .ok (.return_, 1) := by decide +kernel
theorem dX6_addPerson_0 : decode cX6_addPerson 0 = .ok (.iload_n 1, 1) := by decide +kernel
theorem dX6_addPerson_1 : decode cX6_addPerson 1 = .ok (.iconst 0, 1) := by decide +kernel
theorem dX6_addPerson_2 : decode cX6_addPerson 2 = .ok (.bipush 110, 2) := by decide +kernel
theorem dX6_addPerson_4 : decode cX6_addPerson 4 = .ok (.invokestatic 47, 3) := by decide +kernel
theorem dX6_addPerson_7 : decode cX6_addPerson 7 = .ok (.ifCond .eq 13, 3) := by decide +kernel
theorem dX6_addPerson_10 : decode cX6_addPerson 10 = .ok (.iload_n 2, 1) := by decide +kernel
theorem dX6_addPerson_11 : decode cX6_addPerson 11 = .ok (.iconst 1, 1) := by decide +kernel
theorem dX6_addPerson_12 : decode cX6_addPerson 12 = .ok (.bipush 9, 2) := by decide +kernel
theorem dX6_addPerson_14 : decode cX6_addPerson 14 = .ok (.invokestatic 47, 3) := by decide +kernel
theorem dX6_addPerson_17 : decode cX6_addPerson 17 = .ok (.ifCond .ne 6, 3) := by decide +kernel
theorem dX6_addPerson_20 : decode cX6_addPerson 20 = .ok (.bipush (-2), 2) := by decide +kernel
theorem dX6_addPerson_22 : decode cX6_addPerson 22 = .ok (.ireturn, 1) := by decide +kernel
theorem dX6_addPerson_23 : decode cX6_addPerson 23 = .ok (.aload_n 0, 1) := by decide +kernel
theorem dX6_addPerson_24 : decode cX6_addPerson 24 = .ok (.getfield 10, 3) := by decide +kernel
theorem dX6_addPerson_27 : decode cX6_addPerson 27 = .ok (.invokevirtual 51, 3) := by decide +kernel
theorem dX6_addPerson_30 : decode cX6_addPerson 30 = .ok (.iconst 1, 1) := by decide +kernel
theorem dX6_addPerson_31 : decode cX6_addPerson 31 = .ok (.if_icmp .ge 6, 3) := by decide +kernel
theorem dX6_addPerson_34 : decode cX6_addPerson 34 = .ok (.bipush (-3), 2) := by decide +kernel
theorem dX6_addPerson_36 : decode cX6_addPerson 36 = .ok (.ireturn, 1) := by decide +kernel
theorem dX6_addPerson_37 : decode cX6_addPerson 37 = .ok (.aload_n 0, 1) := by decide +kernel
theorem dX6_addPerson_38 : decode cX6_addPerson 38 = .ok (.getfield 22, 3) := by decide +kernel
theorem dX6_addPerson_41 : decode cX6_addPerson 41 = .ok (.aload_n 0, 1) := by decide +kernel
theorem dX6_addPerson_42 : decode cX6_addPerson 42 = .ok (.getfield 10, 3) := by decide +kernel
theorem dX6_addPerson_45 : decode cX6_addPerson 45 = .ok (.invokevirtual 55, 3) := by decide +kernel
theorem dX6_addPerson_48 : decode cX6_addPerson 48 = .ok (.aload_n 0, 1) := by decide +kernel
theorem dX6_addPerson_49 : decode cX6_addPerson 49 = .ok (.getfield 10, 3) := by decide +kernel
theorem dX6_addPerson_52 : decode cX6_addPerson 52 = .ok (.iload_n 1, 1) := by decide +kernel
theorem dX6_addPerson_53 : decode cX6_addPerson 53 = .ok (.iload_n 2, 1) := by decide +kernel
theorem dX6_addPerson_54 : decode cX6_addPerson 54 = .ok (.invokevirtual 59, 3) := by decide +kernel
theorem dX6_addPerson_57 : decode cX6_addPerson 57 = .ok (.ireturn, 1) := by decide +kernel
theorem dX6_addPersons_0 : decode cX6_addPersons 0 = .ok (.aload_n 0, 1) := by decide +kernel
theorem dX6_addPersons_1 : decode cX6_addPersons 1 = .ok (.getfield 29, 3) := by decide +kernel
theorem dX6_addPersons_4 : decode cX6_addPersons 4 = .ok (.aload_n 0, 1) := by decide +kernel
theorem dX6_addPersons_5 : decode cX6_addPersons 5 = .ok (.getfield 10, 3) := by decide +kernel
theorem dX6_addPersons_8 : decode cX6_addPersons 8 = .ok (.invokevirtual 63, 3) := by decide +kernel
theorem dX6_addPersons_11 : decode cX6_addPersons 11 = .ok (.invokevirtual 66, 3) := by decide +kernel
theorem dX6_addPersons_14 : decode cX6_addPersons 14 = .ok (.ifCond .ne 14, 3) := by decide +kernel
theorem dX6_addPersons_17 : decode cX6_addPersons 17 = .ok (.bipush (-100), 2) := by decide +kernel
theorem dX6_addPersons_19 : decode cX6_addPersons 19 = .ok (.aload_n 0, 1) := by decide +kernel
theorem dX6_addPersons_20 : decode cX6_addPersons 20 = .ok (.getfield 29, 3) := by decide +kernel
theorem dX6_addPersons_23 : decode cX6_addPersons 23 = .ok (.invokevirtual 70, 3) := by decide +kernel
theorem dX6_addPersons_26 : decode cX6_addPersons 26 = .ok (.isub, 1) := by decide +kernel
theorem dX6_addPersons_27 : decode cX6_addPersons 27 = .ok (.ireturn, 1) := by decide +kernel
theorem dX6_addPersons_28 : decode cX6_addPersons 28 = .ok (.aload_n 0, 1) := by decide +kernel
theorem dX6_addPersons_29 : decode cX6_addPersons 29 = .ok (.getfield 29, 3) := by decide +kernel
theorem dX6_addPersons_32 : decode cX6_addPersons 32 = .ok (.invokevirtual 73, 3) := by decide +kernel
theorem dX6_addPersons_35 : decode cX6_addPersons 35 = .ok (.istore_n 1, 1) := by decide +kernel
theorem dX6_addPersons_36 : decode cX6_addPersons 36 = .ok (.iload_n 1, 1) := by decide +kernel
theorem dX6_addPersons_37 : decode cX6_addPersons 37 = .ok (.aload_n 0, 1) := by decide +kernel
theorem dX6_addPersons_38 : decode cX6_addPersons 38 = .ok (.getfield 10, 3) := by decide +kernel
theorem dX6_addPersons_41 : decode cX6_addPersons 41 = .ok (.invokevirtual 51, 3) := by decide +kernel
theorem dX6_addPersons_44 : decode cX6_addPersons 44 = .ok (.if_icmp .le 6, 3) := by decide +kernel
theorem dX6_addPersons_47 : decode cX6_addPersons 47 = .ok (.bipush (-3), 2) := by decide +kernel
theorem dX6_addPersons_49 : decode cX6_addPersons 49 = .ok (.ireturn, 1) := by decide +kernel
theorem dX6_addPersons_50 : decode cX6_addPersons 50 = .ok (.aload_n 0, 1) := by decide +kernel
theorem dX6_addPersons_51 : decode cX6_addPersons 51 = .ok (.getfield 22, 3) := by decide +kernel
theorem dX6_addPersons_54 : decode cX6_addPersons 54 = .ok (.aload_n 0, 1) := by decide +kernel
theorem dX6_addPersons_55 : decode cX6_addPersons 55 = .ok (.getfield 10, 3) := by decide +kernel
theorem dX6_addPersons_58 : decode cX6_addPersons 58 = .ok (.invokevirtual 55, 3) := by decide +kernel
theorem dX6_addPersons_61 : decode cX6_addPersons 61 = .ok (.iconst 0, 1) := by decide +kernel
theorem dX6_addPersons_62 : decode cX6_addPersons 62 = .ok (.istore_n 2, 1) := by decide +kernel
theorem dX6_addPersons_63 : decode cX6_addPersons 63 = .ok (.iload_n 2, 1) := by decide +kernel
theorem dX6_addPersons_64 : decode cX6_addPersons 64 = .ok (.iload_n 1, 1) := by decide +kernel
theorem dX6_addPersons_65 : decode cX6_addPersons 65 = .ok (.if_icmp .ge 24, 3) := by decide +kernel
theorem dX6_addPersons_68 : decode cX6_addPersons 68 = .ok (.aload_n 0, 1) := by decide +kernel
theorem dX6_addPersons_69 : decode cX6_addPersons 69 = .ok (.getfield 10, 3) := by decide +kernel
theorem dX6_addPersons_72 : decode cX6_addPersons 72 = .ok (.aload_n 0, 1) := by decide +kernel
theorem dX6_addPersons_73 : decode cX6_addPersons 73 = .ok (.getfield 29, 3) := by decide +kernel
theorem dX6_addPersons_76 : decode cX6_addPersons 76 = .ok (.iload_n 2, 1) := by decide +kernel
theorem dX6_addPersons_77 : decode cX6_addPersons 77 = .ok (.invokevirtual 76, 3) := by decide +kernel
theorem dX6_addPersons_80 : decode cX6_addPersons 80 = .ok (.invokevirtual 80, 3) := by decide +kernel
theorem dX6_addPersons_83 : decode cX6_addPersons 83 = .ok (.iinc 2 1, 3) := by decide +kernel
theorem dX6_addPersons_86 : decode cX6_addPersons 86 = .ok (.goto (-23), 3) := by decide +kernel
theorem dX6_addPersons_89 : decode cX6_addPersons 89 = .ok (.iload_n 1, 1) := by decide +kernel
theorem dX6_addPersons_90 : decode cX6_addPersons 90 = .ok (.ireturn, 1) := by decide +kernel
theorem dX6_write_0 : decode cX6_write 0 = .ok (.aload_n 0, 1) := by decide +kernel
theorem dX6_write_1 : decode cX6_write 1 = .ok (.getfield 10, 3) := by decide +kernel
theorem dX6_write_4 : decode cX6_write 4 = .ok (.iload_n 1, 1) := by decide +kernel
theorem dX6_write_5 : decode cX6_write 5 = .ok (.invokevirtual 84, 3) := by decide +kernel
theorem dX6_write_8 : decode cX6_write 8 = .ok (.astore 4, 2) := by decide +kernel
theorem dX6_write_10 : decode cX6_write 10 = .ok (.aload 4, 2) := by decide +kernel
theorem dX6_write_12 : decode cX6_write 12 = .ok (.ifnull 10, 3) := by decide +kernel
theorem dX6_write_15 : decode cX6_write 15 = .ok (.iload_n 2, 1) := by decide +kernel
theorem dX6_write_16 : decode cX6_write 16 = .ok (.invokestatic 87, 3) := by decide +kernel
theorem dX6_write_19 : decode cX6_write 19 = .ok (.ifCond .ne 5, 3) := by decide +kernel
theorem dX6_write_22 : decode cX6_write 22 = .ok (.iconst (-1), 1) := by decide +kernel
theorem dX6_write_23 : decode cX6_write 23 = .ok (.ireturn, 1) := by decide +kernel
theorem dX6_write_24 : decode cX6_write 24 = .ok (.iload_n 3, 1) := by decide +kernel
theorem dX6_write_25 : decode cX6_write 25 = .ok (.iconst 1, 1) := by decide +kernel
theorem dX6_write_26 : decode cX6_write 26 = .ok (.bipush 9, 2) := by decide +kernel
theorem dX6_write_28 : decode cX6_write 28 = .ok (.invokestatic 47, 3) := by decide +kernel
theorem dX6_write_31 : decode cX6_write 31 = .ok (.ifCond .ne 6, 3) := by decide +kernel
theorem dX6_write_34 : decode cX6_write 34 = .ok (.bipush (-2), 2) := by decide +kernel
theorem dX6_write_36 : decode cX6_write 36 = .ok (.ireturn, 1) := by decide +kernel
theorem dX6_write_37 : decode cX6_write 37 = .ok (.aload 4, 2) := by decide +kernel
theorem dX6_write_39 : decode cX6_write 39 = .ok (.iconst 3, 1) := by decide +kernel
theorem dX6_write_40 : decode cX6_write 40 = .ok (.invokevirtual 90, 3) := by decide +kernel
theorem dX6_write_43 : decode cX6_write 43 = .ok (.ifCond .eq 6, 3) := by decide +kernel
theorem dX6_write_46 : decode cX6_write 46 = .ok (.bipush (-4), 2) := by decide +kernel
theorem dX6_write_48 : decode cX6_write 48 = .ok (.ireturn, 1) := by decide +kernel
theorem dX6_write_49 : decode cX6_write 49 = .ok (.aload 4, 2) := by decide +kernel
theorem dX6_write_51 : decode cX6_write 51 = .ok (.invokevirtual 95, 3) := by decide +kernel
theorem dX6_write_54 : decode cX6_write 54 = .ok (.bipush 8, 2) := by decide +kernel
theorem dX6_write_56 : decode cX6_write 56 = .ok (.if_icmp .ge 14, 3) := by decide +kernel
theorem dX6_write_59 : decode cX6_write 59 = .ok (.aload_n 0, 1) := by decide +kernel
theorem dX6_write_60 : decode cX6_write 60 = .ok (.getfield 10, 3) := by decide +kernel
theorem dX6_write_63 : decode cX6_write 63 = .ok (.invokevirtual 98, 3) := by decide +kernel
theorem dX6_write_66 : decode cX6_write 66 = .ok (.iload_n 3, 1) := by decide +kernel
theorem dX6_write_67 : decode cX6_write 67 = .ok (.if_icmp .ge 6, 3) := by decide +kernel
theorem dX6_write_70 : decode cX6_write 70 = .ok (.bipush (-3), 2) := by decide +kernel
theorem dX6_write_72 : decode cX6_write 72 = .ok (.ireturn, 1) := by decide +kernel
theorem dX6_write_73 : decode cX6_write 73 = .ok (.aload_n 0, 1) := by decide +kernel
theorem dX6_write_74 : decode cX6_write 74 = .ok (.getfield 22, 3) := by decide +kernel
theorem dX6_write_77 : decode cX6_write 77 = .ok (.aload_n 0, 1) := by decide +kernel
theorem dX6_write_78 : decode cX6_write 78 = .ok (.getfield 10, 3) := by decide +kernel
theorem dX6_write_81 : decode cX6_write 81 = .ok (.invokevirtual 55, 3) := by decide +kernel
theorem dX6_write_84 : decode cX6_write 84 = .ok (.aload_n 0, 1) := by decide +kernel
theorem dX6_write_85 : decode cX6_write 85 = .ok (.getfield 10, 3) := by decide +kernel
theorem dX6_write_88 : decode cX6_write 88 = .ok (.iload_n 3, 1) := by decide +kernel
theorem dX6_write_89 : decode cX6_write 89 = .ok (.invokevirtual 101, 3) := by decide +kernel
theorem dX6_write_92 : decode cX6_write 92 = .ok (.aload 4, 2) := by decide +kernel
theorem dX6_write_94 : decode cX6_write 94 = .ok (.iload_n 2, 1) := by decide +kernel
theorem dX6_write_95 : decode cX6_write 95 = .ok (.iload_n 3, 1) := by decide +kernel
theorem dX6_write_96 : decode cX6_write 96 = .ok (.aload_n 0, 1) := by decide +kernel
theorem dX6_write_97 : decode cX6_write 97 = .ok (.getfield 10, 3) := by decide +kernel
theorem dX6_write_100 : decode cX6_write 100 = .ok (.invokevirtual 63, 3) := by decide +kernel
theorem dX6_write_103 : decode cX6_write 103 = .ok (.invokevirtual 105, 3) := by decide +kernel
theorem dX6_write_106 : decode cX6_write 106 = .ok (.ireturn, 1) := by decide +kernel
theorem dX6_check_0 : decode cX6_check 0 = .ok (.aload_n 0, 1) := by decide +kernel
theorem dX6_check_1 : decode cX6_check 1 = .ok (.getfield 10, 3) := by decide +kernel
theorem dX6_check_4 : decode cX6_check 4 = .ok (.iload_n 1, 1) := by decide +kernel
theorem dX6_check_5 : decode cX6_check 5 = .ok (.invokevirtual 84, 3) := by decide +kernel
theorem dX6_check_8 : decode cX6_check 8 = .ok (.astore_n 3, 1) := by decide +kernel
theorem dX6_check_9 : decode cX6_check 9 = .ok (.aload_n 3, 1) := by decide +kernel
theorem dX6_check_10 : decode cX6_check 10 = .ok (.ifnull 11, 3) := by decide +kernel
theorem dX6_check_13 : decode cX6_check 13 = .ok (.aload_n 3, 1) := by decide +kernel
theorem dX6_check_14 : decode cX6_check 14 = .ok (.iload_n 2, 1) := by decide +kernel
theorem dX6_check_15 : decode cX6_check 15 = .ok (.invokevirtual 109, 3) := by decide +kernel
theorem dX6_check_18 : decode cX6_check 18 = .ok (.ifCond .ne 5, 3) := by decide +kernel
theorem dX6_check_21 : decode cX6_check 21 = .ok (.iconst (-1), 1) := by decide +kernel
theorem dX6_check_22 : decode cX6_check 22 = .ok (.ireturn, 1) := by decide +kernel
theorem dX6_check_23 : decode cX6_check 23 = .ok (.aload_n 3, 1) := by decide +kernel
theorem dX6_check_24 : decode cX6_check 24 = .ok (.iconst 3, 1) := by decide +kernel
theorem dX6_check_25 : decode cX6_check 25 = .ok (.invokevirtual 90, 3) := by decide +kernel
theorem dX6_check_28 : decode cX6_check 28 = .ok (.ifCond .eq 6, 3) := by decide +kernel
theorem dX6_check_31 : decode cX6_check 31 = .ok (.bipush (-4), 2) := by decide +kernel
theorem dX6_check_33 : decode cX6_check 33 = .ok (.ireturn, 1) := by decide +kernel
theorem dX6_check_34 : decode cX6_check 34 = .ok (.aload_n 0, 1) := by decide +kernel
theorem dX6_check_35 : decode cX6_check 35 = .ok (.getfield 10, 3) := by decide +kernel
theorem dX6_check_38 : decode cX6_check 38 = .ok (.invokevirtual 98, 3) := by decide +kernel
theorem dX6_check_41 : decode cX6_check 41 = .ok (.iconst 1, 1) := by decide +kernel
theorem dX6_check_42 : decode cX6_check 42 = .ok (.if_icmp .ge 6, 3) := by decide +kernel
theorem dX6_check_45 : decode cX6_check 45 = .ok (.bipush (-3), 2) := by decide +kernel
theorem dX6_check_47 : decode cX6_check 47 = .ok (.ireturn, 1) := by decide +kernel
theorem dX6_check_48 : decode cX6_check 48 = .ok (.aload_n 3, 1) := by decide +kernel
theorem dX6_check_49 : decode cX6_check 49 = .ok (.iload_n 2, 1) := by decide +kernel
theorem dX6_check_50 : decode cX6_check 50 = .ok (.invokevirtual 112, 3) := by decide +kernel
theorem dX6_check_53 : decode cX6_check 53 = .ok (.aload_n 0, 1) := by decide +kernel
theorem dX6_check_54 : decode cX6_check 54 = .ok (.getfield 10, 3) := by decide +kernel
theorem dX6_check_57 : decode cX6_check 57 = .ok (.invokevirtual 63, 3) := by decide +kernel
theorem dX6_check_60 : decode cX6_check 60 = .ok (.if_icmp .ne 6, 3) := by decide +kernel
theorem dX6_check_63 : decode cX6_check 63 = .ok (.bipush (-5), 2) := by decide +kernel
theorem dX6_check_65 : decode cX6_check 65 = .ok (.ireturn, 1) := by decide +kernel
theorem dX6_check_66 : decode cX6_check 66 = .ok (.aload_n 0, 1) := by decide +kernel
theorem dX6_check_67 : decode cX6_check 67 = .ok (.getfield 22, 3) := by decide +kernel
theorem dX6_check_70 : decode cX6_check 70 = .ok (.aload_n 0, 1) := by decide +kernel
theorem dX6_check_71 : decode cX6_check 71 = .ok (.getfield 10, 3) := by decide +kernel
theorem dX6_check_74 : decode cX6_check 74 = .ok (.invokevirtual 55, 3) := by decide +kernel
theorem dX6_check_77 : decode cX6_check 77 = .ok (.aload_n 0, 1) := by decide +kernel
theorem dX6_check_78 : decode cX6_check 78 = .ok (.getfield 10, 3) := by decide +kernel
theorem dX6_check_81 : decode cX6_check 81 = .ok (.aload_n 3, 1) := by decide +kernel
theorem dX6_check_82 : decode cX6_check 82 = .ok (.iload_n 2, 1) := by decide +kernel
theorem dX6_check_83 : decode cX6_check 83 = .ok (.invokevirtual 116, 3) := by decide +kernel
theorem dX6_check_86 : decode cX6_check 86 = .ok (.aload_n 0, 1) := by decide +kernel
theorem dX6_check_87 : decode cX6_check 87 = .ok (.getfield 10, 3) := by decide +kernel
theorem dX6_check_90 : decode cX6_check 90 = .ok (.invokevirtual 98, 3) := by decide +kernel
theorem dX6_check_93 : decode cX6_check 93 = .ok (.ireturn, 1) := by decide +kernel
theorem dX6_strike_0 : decode cX6_strike 0 = .ok (.aload_n 0, 1) := by decide +kernel
theorem dX6_strike_1 : decode cX6_strike 1 = .ok (.getfield 10, 3) := by decide +kernel
theorem dX6_strike_4 : decode cX6_strike 4 = .ok (.iload_n 1, 1) := by decide +kernel
theorem dX6_strike_5 : decode cX6_strike 5 = .ok (.invokevirtual 84, 3) := by decide +kernel
theorem dX6_strike_8 : decode cX6_strike 8 = .ok (.astore_n 3, 1) := by decide +kernel
theorem dX6_strike_9 : decode cX6_strike 9 = .ok (.aload_n 3, 1) := by decide +kernel
theorem dX6_strike_10 : decode cX6_strike 10 = .ok (.ifnull 11, 3) := by decide +kernel
theorem dX6_strike_13 : decode cX6_strike 13 = .ok (.aload_n 3, 1) := by decide +kernel
theorem dX6_strike_14 : decode cX6_strike 14 = .ok (.iload_n 2, 1) := by decide +kernel
theorem dX6_strike_15 : decode cX6_strike 15 = .ok (.invokevirtual 109, 3) := by decide +kernel
theorem dX6_strike_18 : decode cX6_strike 18 = .ok (.ifCond .ne 5, 3) := by decide +kernel
theorem dX6_strike_21 : decode cX6_strike 21 = .ok (.iconst (-1), 1) := by decide +kernel
theorem dX6_strike_22 : decode cX6_strike 22 = .ok (.ireturn, 1) := by decide +kernel
theorem dX6_strike_23 : decode cX6_strike 23 = .ok (.aload_n 3, 1) := by decide +kernel
theorem dX6_strike_24 : decode cX6_strike 24 = .ok (.iconst 3, 1) := by decide +kernel
theorem dX6_strike_25 : decode cX6_strike 25 = .ok (.invokevirtual 90, 3) := by decide +kernel
theorem dX6_strike_28 : decode cX6_strike 28 = .ok (.ifCond .eq 6, 3) := by decide +kernel
theorem dX6_strike_31 : decode cX6_strike 31 = .ok (.bipush (-4), 2) := by decide +kernel
theorem dX6_strike_33 : decode cX6_strike 33 = .ok (.ireturn, 1) := by decide +kernel
theorem dX6_strike_34 : decode cX6_strike 34 = .ok (.aload_n 0, 1) := by decide +kernel
theorem dX6_strike_35 : decode cX6_strike 35 = .ok (.getfield 22, 3) := by decide +kernel
theorem dX6_strike_38 : decode cX6_strike 38 = .ok (.aload_n 0, 1) := by decide +kernel
theorem dX6_strike_39 : decode cX6_strike 39 = .ok (.getfield 10, 3) := by decide +kernel
theorem dX6_strike_42 : decode cX6_strike 42 = .ok (.invokevirtual 55, 3) := by decide +kernel
theorem dX6_strike_45 : decode cX6_strike 45 = .ok (.aload_n 3, 1) := by decide +kernel
theorem dX6_strike_46 : decode cX6_strike 46 = .ok (.iload_n 2, 1) := by decide +kernel
theorem dX6_strike_47 : decode cX6_strike 47 = .ok (.invokevirtual 120, 3) := by decide +kernel
theorem dX6_strike_50 : decode cX6_strike 50 = .ok (.aload_n 3, 1) := by decide +kernel
theorem dX6_strike_51 : decode cX6_strike 51 = .ok (.invokevirtual 95, 3) := by decide +kernel
theorem dX6_strike_54 : decode cX6_strike 54 = .ok (.ireturn, 1) := by decide +kernel
theorem dX6_checkUrgent_0 : decode cX6_checkUrgent 0 = .ok (.aload_n 0, 1) := by decide +kernel
theorem dX6_checkUrgent_1 : decode cX6_checkUrgent 1 = .ok (.getfield 10, 3) := by decide +kernel
theorem dX6_checkUrgent_4 : decode cX6_checkUrgent 4 = .ok (.invokevirtual 123, 3) := by decide +kernel
theorem dX6_checkUrgent_7 : decode cX6_checkUrgent 7 = .ok (.astore_n 1, 1) := by decide +kernel
theorem dX6_checkUrgent_8 : decode cX6_checkUrgent 8 = .ok (.aload_n 1, 1) := by decide +kernel
theorem dX6_checkUrgent_9 : decode cX6_checkUrgent 9 = .ok (.ifnonnull 6, 3) := by decide +kernel
theorem dX6_checkUrgent_12 : decode cX6_checkUrgent 12 = .ok (.bipush (-5), 2) := by decide +kernel
theorem dX6_checkUrgent_14 : decode cX6_checkUrgent 14 = .ok (.ireturn, 1) := by decide +kernel
theorem dX6_checkUrgent_15 : decode cX6_checkUrgent 15 = .ok (.aload_n 0, 1) := by decide +kernel
theorem dX6_checkUrgent_16 : decode cX6_checkUrgent 16 = .ok (.getfield 22, 3) := by decide +kernel
theorem dX6_checkUrgent_19 : decode cX6_checkUrgent 19 = .ok (.aload_n 0, 1) := by decide +kernel
theorem dX6_checkUrgent_20 : decode cX6_checkUrgent 20 = .ok (.getfield 10, 3) := by decide +kernel
theorem dX6_checkUrgent_23 : decode cX6_checkUrgent 23 = .ok (.invokevirtual 55, 3) := by decide +kernel
theorem dX6_checkUrgent_26 : decode cX6_checkUrgent 26 = .ok (.iconst 0, 1) := by decide +kernel
theorem dX6_checkUrgent_27 : decode cX6_checkUrgent 27 = .ok (.istore_n 2, 1) := by decide +kernel
theorem dX6_checkUrgent_28 : decode cX6_checkUrgent 28 = .ok (.aload_n 1, 1) := by decide +kernel
theorem dX6_checkUrgent_29 : decode cX6_checkUrgent 29 = .ok (.ifnull 39, 3) := by decide +kernel
theorem dX6_checkUrgent_32 : decode cX6_checkUrgent 32 = .ok (.iload_n 2, 1) := by decide +kernel
theorem dX6_checkUrgent_33 : decode cX6_checkUrgent 33 = .ok (.bipush 24, 2) := by decide +kernel
theorem dX6_checkUrgent_35 : decode cX6_checkUrgent 35 = .ok (.if_icmp .ge 33, 3) := by decide +kernel
theorem dX6_checkUrgent_38 : decode cX6_checkUrgent 38 = .ok (.aload_n 0, 1) := by decide +kernel
theorem dX6_checkUrgent_39 : decode cX6_checkUrgent 39 = .ok (.getfield 10, 3) := by decide +kernel
theorem dX6_checkUrgent_42 : decode cX6_checkUrgent 42 = .ok (.aload_n 1, 1) := by decide +kernel
theorem dX6_checkUrgent_43 : decode cX6_checkUrgent 43 = .ok (.aload_n 0, 1) := by decide +kernel
theorem dX6_checkUrgent_44 : decode cX6_checkUrgent 44 = .ok (.getfield 10, 3) := by decide +kernel
theorem dX6_checkUrgent_47 : decode cX6_checkUrgent 47 = .ok (.aload_n 1, 1) := by decide +kernel
theorem dX6_checkUrgent_48 : decode cX6_checkUrgent 48 = .ok (.invokevirtual 127, 3) := by decide +kernel
theorem dX6_checkUrgent_51 : decode cX6_checkUrgent 51 = .ok (.invokevirtual 116, 3) := by decide +kernel
theorem dX6_checkUrgent_54 : decode cX6_checkUrgent 54 = .ok (.iinc 2 1, 3) := by decide +kernel
theorem dX6_checkUrgent_57 : decode cX6_checkUrgent 57 = .ok (.aload_n 0, 1) := by decide +kernel
theorem dX6_checkUrgent_58 : decode cX6_checkUrgent 58 = .ok (.getfield 10, 3) := by decide +kernel
theorem dX6_checkUrgent_61 : decode cX6_checkUrgent 61 = .ok (.invokevirtual 123, 3) := by decide +kernel
theorem dX6_checkUrgent_64 : decode cX6_checkUrgent 64 = .ok (.astore_n 1, 1) := by decide +kernel
theorem dX6_checkUrgent_65 : decode cX6_checkUrgent 65 = .ok (.goto (-37), 3) := by decide +kernel
theorem dX6_checkUrgent_68 : decode cX6_checkUrgent 68 = .ok (.iload_n 2, 1) := by decide +kernel
theorem dX6_checkUrgent_69 : decode cX6_checkUrgent 69 = .ok (.ireturn, 1) := by decide +kernel
theorem dX6_trust_0 : decode cX6_trust 0 = .ok (.iload_n 1, 1) := by decide +kernel
theorem dX6_trust_1 : decode cX6_trust 1 = .ok (.invokestatic 87, 3) := by decide +kernel
theorem dX6_trust_4 : decode cX6_trust 4 = .ok (.ifCond .ne 5, 3) := by decide +kernel
theorem dX6_trust_7 : decode cX6_trust 7 = .ok (.iconst (-1), 1) := by decide +kernel
theorem dX6_trust_8 : decode cX6_trust 8 = .ok (.ireturn, 1) := by decide +kernel
theorem dX6_trust_9 : decode cX6_trust 9 = .ok (.iload_n 2, 1) := by decide +kernel
theorem dX6_trust_10 : decode cX6_trust 10 = .ok (.iconst 0, 1) := by decide +kernel
theorem dX6_trust_11 : decode cX6_trust 11 = .ok (.bipush 100, 2) := by decide +kernel
theorem dX6_trust_13 : decode cX6_trust 13 = .ok (.invokestatic 47, 3) := by decide +kernel
theorem dX6_trust_16 : decode cX6_trust 16 = .ok (.ifCond .ne 6, 3) := by decide +kernel
theorem dX6_trust_19 : decode cX6_trust 19 = .ok (.bipush (-2), 2) := by decide +kernel
theorem dX6_trust_21 : decode cX6_trust 21 = .ok (.ireturn, 1) := by decide +kernel
theorem dX6_trust_22 : decode cX6_trust 22 = .ok (.aload_n 0, 1) := by decide +kernel
theorem dX6_trust_23 : decode cX6_trust 23 = .ok (.getfield 10, 3) := by decide +kernel
theorem dX6_trust_26 : decode cX6_trust 26 = .ok (.iload_n 1, 1) := by decide +kernel
theorem dX6_trust_27 : decode cX6_trust 27 = .ok (.invokevirtual 131, 3) := by decide +kernel
theorem dX6_trust_30 : decode cX6_trust 30 = .ok (.istore_n 3, 1) := by decide +kernel
theorem dX6_trust_31 : decode cX6_trust 31 = .ok (.iload_n 3, 1) := by decide +kernel
theorem dX6_trust_32 : decode cX6_trust 32 = .ok (.iload_n 2, 1) := by decide +kernel
theorem dX6_trust_33 : decode cX6_trust 33 = .ok (.if_icmp .ne 6, 3) := by decide +kernel
theorem dX6_trust_36 : decode cX6_trust 36 = .ok (.bipush (-5), 2) := by decide +kernel
theorem dX6_trust_38 : decode cX6_trust 38 = .ok (.ireturn, 1) := by decide +kernel
theorem dX6_trust_39 : decode cX6_trust 39 = .ok (.aload_n 0, 1) := by decide +kernel
theorem dX6_trust_40 : decode cX6_trust 40 = .ok (.getfield 22, 3) := by decide +kernel
theorem dX6_trust_43 : decode cX6_trust 43 = .ok (.aload_n 0, 1) := by decide +kernel
theorem dX6_trust_44 : decode cX6_trust 44 = .ok (.getfield 10, 3) := by decide +kernel
theorem dX6_trust_47 : decode cX6_trust 47 = .ok (.invokevirtual 55, 3) := by decide +kernel
theorem dX6_trust_50 : decode cX6_trust 50 = .ok (.aload_n 0, 1) := by decide +kernel
theorem dX6_trust_51 : decode cX6_trust 51 = .ok (.getfield 10, 3) := by decide +kernel
theorem dX6_trust_54 : decode cX6_trust 54 = .ok (.iload_n 1, 1) := by decide +kernel
theorem dX6_trust_55 : decode cX6_trust 55 = .ok (.iload_n 2, 1) := by decide +kernel
theorem dX6_trust_56 : decode cX6_trust 56 = .ok (.invokevirtual 134, 3) := by decide +kernel
theorem dX6_trust_59 : decode cX6_trust 59 = .ok (.iload_n 3, 1) := by decide +kernel
theorem dX6_trust_60 : decode cX6_trust 60 = .ok (.ireturn, 1) := by decide +kernel
theorem dX6_set_0 : decode cX6_set 0 = .ok (.iload_n 1, 1) := by decide +kernel
theorem dX6_set_1 : decode cX6_set 1 = .ok (.invokestatic 138, 3) := by decide +kernel
theorem dX6_set_4 : decode cX6_set 4 = .ok (.ifCond .eq 20, 3) := by decide +kernel
theorem dX6_set_7 : decode cX6_set 7 = .ok (.iload_n 2, 1) := by decide +kernel
theorem dX6_set_8 : decode cX6_set 8 = .ok (.getstatic 141, 3) := by decide +kernel
theorem dX6_set_11 : decode cX6_set 11 = .ok (.iload_n 1, 1) := by decide +kernel
theorem dX6_set_12 : decode cX6_set 12 = .ok (.iaload, 1) := by decide +kernel
theorem dX6_set_13 : decode cX6_set 13 = .ok (.getstatic 145, 3) := by decide +kernel
theorem dX6_set_16 : decode cX6_set 16 = .ok (.iload_n 1, 1) := by decide +kernel
theorem dX6_set_17 : decode cX6_set 17 = .ok (.iaload, 1) := by decide +kernel
theorem dX6_set_18 : decode cX6_set 18 = .ok (.invokestatic 47, 3) := by decide +kernel
theorem dX6_set_21 : decode cX6_set 21 = .ok (.ifCond .ne 6, 3) := by decide +kernel
theorem dX6_set_24 : decode cX6_set 24 = .ok (.bipush (-2), 2) := by decide +kernel
theorem dX6_set_26 : decode cX6_set 26 = .ok (.ireturn, 1) := by decide +kernel
theorem dX6_set_27 : decode cX6_set 27 = .ok (.aload_n 0, 1) := by decide +kernel
theorem dX6_set_28 : decode cX6_set 28 = .ok (.getfield 10, 3) := by decide +kernel
theorem dX6_set_31 : decode cX6_set 31 = .ok (.iload_n 1, 1) := by decide +kernel
theorem dX6_set_32 : decode cX6_set 32 = .ok (.invokevirtual 148, 3) := by decide +kernel
theorem dX6_set_35 : decode cX6_set 35 = .ok (.istore_n 3, 1) := by decide +kernel
theorem dX6_set_36 : decode cX6_set 36 = .ok (.iload_n 3, 1) := by decide +kernel
theorem dX6_set_37 : decode cX6_set 37 = .ok (.iload_n 2, 1) := by decide +kernel
theorem dX6_set_38 : decode cX6_set 38 = .ok (.if_icmp .ne 6, 3) := by decide +kernel
theorem dX6_set_41 : decode cX6_set 41 = .ok (.bipush (-5), 2) := by decide +kernel
theorem dX6_set_43 : decode cX6_set 43 = .ok (.ireturn, 1) := by decide +kernel
theorem dX6_set_44 : decode cX6_set 44 = .ok (.aload_n 0, 1) := by decide +kernel
theorem dX6_set_45 : decode cX6_set 45 = .ok (.getfield 22, 3) := by decide +kernel
theorem dX6_set_48 : decode cX6_set 48 = .ok (.aload_n 0, 1) := by decide +kernel
theorem dX6_set_49 : decode cX6_set 49 = .ok (.getfield 10, 3) := by decide +kernel
theorem dX6_set_52 : decode cX6_set 52 = .ok (.invokevirtual 55, 3) := by decide +kernel
theorem dX6_set_55 : decode cX6_set 55 = .ok (.aload_n 0, 1) := by decide +kernel
theorem dX6_set_56 : decode cX6_set 56 = .ok (.getfield 10, 3) := by decide +kernel
theorem dX6_set_59 : decode cX6_set 59 = .ok (.iload_n 1, 1) := by decide +kernel
theorem dX6_set_60 : decode cX6_set 60 = .ok (.iload_n 2, 1) := by decide +kernel
theorem dX6_set_61 : decode cX6_set 61 = .ok (.invokevirtual 151, 3) := by decide +kernel
theorem dX6_set_64 : decode cX6_set 64 = .ok (.iload_n 3, 1) := by decide +kernel
theorem dX6_set_65 : decode cX6_set 65 = .ok (.ireturn, 1) := by decide +kernel
theorem dX6_tellDeath_0 : decode cX6_tellDeath 0 = .ok (.aload_n 0, 1) := by decide +kernel
theorem dX6_tellDeath_1 : decode cX6_tellDeath 1 = .ok (.getfield 10, 3) := by decide +kernel
theorem dX6_tellDeath_4 : decode cX6_tellDeath 4 = .ok (.iload_n 1, 1) := by decide +kernel
theorem dX6_tellDeath_5 : decode cX6_tellDeath 5 = .ok (.invokevirtual 84, 3) := by decide +kernel
theorem dX6_tellDeath_8 : decode cX6_tellDeath 8 = .ok (.astore_n 3, 1) := by decide +kernel
theorem dX6_tellDeath_9 : decode cX6_tellDeath 9 = .ok (.aload_n 3, 1) := by decide +kernel
theorem dX6_tellDeath_10 : decode cX6_tellDeath 10 = .ok (.ifnull 10, 3) := by decide +kernel
theorem dX6_tellDeath_13 : decode cX6_tellDeath 13 = .ok (.iload_n 2, 1) := by decide +kernel
theorem dX6_tellDeath_14 : decode cX6_tellDeath 14 = .ok (.invokestatic 87, 3) := by decide +kernel
theorem dX6_tellDeath_17 : decode cX6_tellDeath 17 = .ok (.ifCond .ne 5, 3) := by decide +kernel
theorem dX6_tellDeath_20 : decode cX6_tellDeath 20 = .ok (.iconst (-1), 1) := by decide +kernel
theorem dX6_tellDeath_21 : decode cX6_tellDeath 21 = .ok (.ireturn, 1) := by decide +kernel
theorem dX6_tellDeath_22 : decode cX6_tellDeath 22 = .ok (.aload_n 3, 1) := by decide +kernel
theorem dX6_tellDeath_23 : decode cX6_tellDeath 23 = .ok (.iconst 2, 1) := by decide +kernel
theorem dX6_tellDeath_24 : decode cX6_tellDeath 24 = .ok (.invokevirtual 90, 3) := by decide +kernel
theorem dX6_tellDeath_27 : decode cX6_tellDeath 27 = .ok (.ifCond .ne 11, 3) := by decide +kernel
theorem dX6_tellDeath_30 : decode cX6_tellDeath 30 = .ok (.aload_n 3, 1) := by decide +kernel
theorem dX6_tellDeath_31 : decode cX6_tellDeath 31 = .ok (.iconst 3, 1) := by decide +kernel
theorem dX6_tellDeath_32 : decode cX6_tellDeath 32 = .ok (.invokevirtual 90, 3) := by decide +kernel
theorem dX6_tellDeath_35 : decode cX6_tellDeath 35 = .ok (.ifCond .eq 6, 3) := by decide +kernel
theorem dX6_tellDeath_38 : decode cX6_tellDeath 38 = .ok (.bipush (-4), 2) := by decide +kernel
theorem dX6_tellDeath_40 : decode cX6_tellDeath 40 = .ok (.ireturn, 1) := by decide +kernel
theorem dX6_tellDeath_41 : decode cX6_tellDeath 41 = .ok (.aload_n 3, 1) := by decide +kernel
theorem dX6_tellDeath_42 : decode cX6_tellDeath 42 = .ok (.iconst 1, 1) := by decide +kernel
theorem dX6_tellDeath_43 : decode cX6_tellDeath 43 = .ok (.invokevirtual 90, 3) := by decide +kernel
theorem dX6_tellDeath_46 : decode cX6_tellDeath 46 = .ok (.istore 4, 2) := by decide +kernel
theorem dX6_tellDeath_48 : decode cX6_tellDeath 48 = .ok (.iload 4, 2) := by decide +kernel
theorem dX6_tellDeath_50 : decode cX6_tellDeath 50 = .ok (.ifCond .eq 14, 3) := by decide +kernel
theorem dX6_tellDeath_53 : decode cX6_tellDeath 53 = .ok (.aload_n 3, 1) := by decide +kernel
theorem dX6_tellDeath_54 : decode cX6_tellDeath 54 = .ok (.invokevirtual 154, 3) := by decide +kernel
theorem dX6_tellDeath_57 : decode cX6_tellDeath 57 = .ok (.iload_n 2, 1) := by decide +kernel
theorem dX6_tellDeath_58 : decode cX6_tellDeath 58 = .ok (.if_icmp .ne 6, 3) := by decide +kernel
theorem dX6_tellDeath_61 : decode cX6_tellDeath 61 = .ok (.bipush (-5), 2) := by decide +kernel
theorem dX6_tellDeath_63 : decode cX6_tellDeath 63 = .ok (.ireturn, 1) := by decide +kernel
theorem dX6_tellDeath_64 : decode cX6_tellDeath 64 = .ok (.aload_n 0, 1) := by decide +kernel
theorem dX6_tellDeath_65 : decode cX6_tellDeath 65 = .ok (.getfield 22, 3) := by decide +kernel
theorem dX6_tellDeath_68 : decode cX6_tellDeath 68 = .ok (.aload_n 0, 1) := by decide +kernel
theorem dX6_tellDeath_69 : decode cX6_tellDeath 69 = .ok (.getfield 10, 3) := by decide +kernel
theorem dX6_tellDeath_72 : decode cX6_tellDeath 72 = .ok (.invokevirtual 55, 3) := by decide +kernel
theorem dX6_tellDeath_75 : decode cX6_tellDeath 75 = .ok (.iload 4, 2) := by decide +kernel
theorem dX6_tellDeath_77 : decode cX6_tellDeath 77 = .ok (.ifCond .eq 16, 3) := by decide +kernel
theorem dX6_tellDeath_80 : decode cX6_tellDeath 80 = .ok (.aload_n 3, 1) := by decide +kernel
theorem dX6_tellDeath_81 : decode cX6_tellDeath 81 = .ok (.aload_n 0, 1) := by decide +kernel
theorem dX6_tellDeath_82 : decode cX6_tellDeath 82 = .ok (.getfield 10, 3) := by decide +kernel
theorem dX6_tellDeath_85 : decode cX6_tellDeath 85 = .ok (.invokevirtual 63, 3) := by decide +kernel
theorem dX6_tellDeath_88 : decode cX6_tellDeath 88 = .ok (.invokevirtual 157, 3) := by decide +kernel
theorem dX6_tellDeath_91 : decode cX6_tellDeath 91 = .ok (.iconst 1, 1) := by decide +kernel
theorem dX6_tellDeath_92 : decode cX6_tellDeath 92 = .ok (.ireturn, 1) := by decide +kernel
theorem dX6_tellDeath_93 : decode cX6_tellDeath 93 = .ok (.aload_n 3, 1) := by decide +kernel
theorem dX6_tellDeath_94 : decode cX6_tellDeath 94 = .ok (.iload_n 2, 1) := by decide +kernel
theorem dX6_tellDeath_95 : decode cX6_tellDeath 95 = .ok (.aload_n 0, 1) := by decide +kernel
theorem dX6_tellDeath_96 : decode cX6_tellDeath 96 = .ok (.getfield 10, 3) := by decide +kernel
theorem dX6_tellDeath_99 : decode cX6_tellDeath 99 = .ok (.invokevirtual 63, 3) := by decide +kernel
theorem dX6_tellDeath_102 : decode cX6_tellDeath 102 = .ok (.invokevirtual 160, 3) := by decide +kernel
theorem dX6_tellDeath_105 : decode cX6_tellDeath 105 = .ok (.iconst 0, 1) := by decide +kernel
theorem dX6_tellDeath_106 : decode cX6_tellDeath 106 = .ok (.ireturn, 1) := by decide +kernel
theorem dX6_decide_0 : decode cX6_decide 0 = .ok (.aload_n 0, 1) := by decide +kernel
theorem dX6_decide_1 : decode cX6_decide 1 = .ok (.getfield 10, 3) := by decide +kernel
theorem dX6_decide_4 : decode cX6_decide 4 = .ok (.iload_n 1, 1) := by decide +kernel
theorem dX6_decide_5 : decode cX6_decide 5 = .ok (.invokevirtual 84, 3) := by decide +kernel
theorem dX6_decide_8 : decode cX6_decide 8 = .ok (.astore_n 3, 1) := by decide +kernel
theorem dX6_decide_9 : decode cX6_decide 9 = .ok (.aload_n 3, 1) := by decide +kernel
theorem dX6_decide_10 : decode cX6_decide 10 = .ok (.ifnonnull 5, 3) := by decide +kernel
theorem dX6_decide_13 : decode cX6_decide 13 = .ok (.iconst (-1), 1) := by decide +kernel
theorem dX6_decide_14 : decode cX6_decide 14 = .ok (.ireturn, 1) := by decide +kernel
theorem dX6_decide_15 : decode cX6_decide 15 = .ok (.aload_n 3, 1) := by decide +kernel
theorem dX6_decide_16 : decode cX6_decide 16 = .ok (.iconst 1, 1) := by decide +kernel
theorem dX6_decide_17 : decode cX6_decide 17 = .ok (.invokevirtual 90, 3) := by decide +kernel
theorem dX6_decide_20 : decode cX6_decide 20 = .ok (.ifCond .ne 6, 3) := by decide +kernel
theorem dX6_decide_23 : decode cX6_decide 23 = .ok (.bipush (-4), 2) := by decide +kernel
theorem dX6_decide_25 : decode cX6_decide 25 = .ok (.ireturn, 1) := by decide +kernel
theorem dX6_decide_26 : decode cX6_decide 26 = .ok (.aload_n 0, 1) := by decide +kernel
theorem dX6_decide_27 : decode cX6_decide 27 = .ok (.getfield 22, 3) := by decide +kernel
theorem dX6_decide_30 : decode cX6_decide 30 = .ok (.aload_n 0, 1) := by decide +kernel
theorem dX6_decide_31 : decode cX6_decide 31 = .ok (.getfield 10, 3) := by decide +kernel
theorem dX6_decide_34 : decode cX6_decide 34 = .ok (.invokevirtual 55, 3) := by decide +kernel
theorem dX6_decide_37 : decode cX6_decide 37 = .ok (.iload_n 2, 1) := by decide +kernel
theorem dX6_decide_38 : decode cX6_decide 38 = .ok (.ifCond .eq 17, 3) := by decide +kernel
theorem dX6_decide_41 : decode cX6_decide 41 = .ok (.aload_n 3, 1) := by decide +kernel
theorem dX6_decide_42 : decode cX6_decide 42 = .ok (.aload_n 0, 1) := by decide +kernel
theorem dX6_decide_43 : decode cX6_decide 43 = .ok (.getfield 10, 3) := by decide +kernel
theorem dX6_decide_46 : decode cX6_decide 46 = .ok (.invokevirtual 63, 3) := by decide +kernel
theorem dX6_decide_49 : decode cX6_decide 49 = .ok (.invokevirtual 157, 3) := by decide +kernel
theorem dX6_decide_52 : decode cX6_decide 52 = .ok (.goto 7, 3) := by decide +kernel
theorem dX6_decide_55 : decode cX6_decide 55 = .ok (.aload_n 3, 1) := by decide +kernel
theorem dX6_decide_56 : decode cX6_decide 56 = .ok (.invokevirtual 163, 3) := by decide +kernel
theorem dX6_decide_59 : decode cX6_decide 59 = .ok (.aload_n 0, 1) := by decide +kernel
theorem dX6_decide_60 : decode cX6_decide 60 = .ok (.getfield 10, 3) := by decide +kernel
theorem dX6_decide_63 : decode cX6_decide 63 = .ok (.iconst 1, 1) := by decide +kernel
theorem dX6_decide_64 : decode cX6_decide 64 = .ok (.invokevirtual 166, 3) := by decide +kernel
theorem dX6_decide_67 : decode cX6_decide 67 = .ok (.ireturn, 1) := by decide +kernel
theorem dX6_print_0 : decode cX6_print 0 = .ok (.aload_n 0, 1) := by decide +kernel
theorem dX6_print_1 : decode cX6_print 1 = .ok (.getfield 10, 3) := by decide +kernel
theorem dX6_print_4 : decode cX6_print 4 = .ok (.invokevirtual 63, 3) := by decide +kernel
theorem dX6_print_7 : decode cX6_print 7 = .ok (.sipush 9999, 3) := by decide +kernel
theorem dX6_print_10 : decode cX6_print 10 = .ok (.if_icmp .lt 6, 3) := by decide +kernel
theorem dX6_print_13 : decode cX6_print 13 = .ok (.bipush (-3), 2) := by decide +kernel
theorem dX6_print_15 : decode cX6_print 15 = .ok (.ireturn, 1) := by decide +kernel
theorem dX6_print_16 : decode cX6_print 16 = .ok (.aload_n 0, 1) := by decide +kernel
theorem dX6_print_17 : decode cX6_print 17 = .ok (.getfield 22, 3) := by decide +kernel
theorem dX6_print_20 : decode cX6_print 20 = .ok (.aload_n 0, 1) := by decide +kernel
theorem dX6_print_21 : decode cX6_print 21 = .ok (.getfield 10, 3) := by decide +kernel
theorem dX6_print_24 : decode cX6_print 24 = .ok (.invokevirtual 55, 3) := by decide +kernel
theorem dX6_print_27 : decode cX6_print 27 = .ok (.aload_n 0, 1) := by decide +kernel
theorem dX6_print_28 : decode cX6_print 28 = .ok (.getfield 43, 3) := by decide +kernel
theorem dX6_print_31 : decode cX6_print 31 = .ok (.aload_n 0, 1) := by decide +kernel
theorem dX6_print_32 : decode cX6_print 32 = .ok (.getfield 10, 3) := by decide +kernel
theorem dX6_print_35 : decode cX6_print 35 = .ok (.invokevirtual 169, 3) := by decide +kernel
theorem dX6_print_38 : decode cX6_print 38 = .ok (.aload_n 0, 1) := by decide +kernel
theorem dX6_print_39 : decode cX6_print 39 = .ok (.getfield 43, 3) := by decide +kernel
theorem dX6_print_42 : decode cX6_print 42 = .ok (.invokevirtual 172, 3) := by decide +kernel
theorem dX6_print_45 : decode cX6_print 45 = .ok (.istore_n 1, 1) := by decide +kernel
theorem dX6_print_46 : decode cX6_print 46 = .ok (.iconst 0, 1) := by decide +kernel
theorem dX6_print_47 : decode cX6_print 47 = .ok (.istore_n 2, 1) := by decide +kernel
theorem dX6_print_48 : decode cX6_print 48 = .ok (.iload_n 2, 1) := by decide +kernel
theorem dX6_print_49 : decode cX6_print 49 = .ok (.iload_n 1, 1) := by decide +kernel
theorem dX6_print_50 : decode cX6_print 50 = .ok (.if_icmp .ge 24, 3) := by decide +kernel
theorem dX6_print_53 : decode cX6_print 53 = .ok (.aload_n 0, 1) := by decide +kernel
theorem dX6_print_54 : decode cX6_print 54 = .ok (.getfield 10, 3) := by decide +kernel
theorem dX6_print_57 : decode cX6_print 57 = .ok (.aload_n 0, 1) := by decide +kernel
theorem dX6_print_58 : decode cX6_print 58 = .ok (.getfield 43, 3) := by decide +kernel
theorem dX6_print_61 : decode cX6_print 61 = .ok (.iload_n 2, 1) := by decide +kernel
theorem dX6_print_62 : decode cX6_print 62 = .ok (.invokevirtual 173, 3) := by decide +kernel
theorem dX6_print_65 : decode cX6_print 65 = .ok (.invokevirtual 176, 3) := by decide +kernel
theorem dX6_print_68 : decode cX6_print 68 = .ok (.iinc 2 1, 3) := by decide +kernel
theorem dX6_print_71 : decode cX6_print 71 = .ok (.goto (-23), 3) := by decide +kernel
theorem dX6_print_74 : decode cX6_print 74 = .ok (.aload_n 0, 1) := by decide +kernel
theorem dX6_print_75 : decode cX6_print 75 = .ok (.getfield 10, 3) := by decide +kernel
theorem dX6_print_78 : decode cX6_print 78 = .ok (.invokevirtual 179, 3) := by decide +kernel
theorem dX6_print_81 : decode cX6_print 81 = .ok (.aload_n 0, 1) := by decide +kernel
theorem dX6_print_82 : decode cX6_print 82 = .ok (.getfield 10, 3) := by decide +kernel
theorem dX6_print_85 : decode cX6_print 85 = .ok (.invokevirtual 182, 3) := by decide +kernel
theorem dX6_print_88 : decode cX6_print 88 = .ok (.iload_n 1, 1) := by decide +kernel
theorem dX6_print_89 : decode cX6_print 89 = .ok (.ireturn, 1) := by decide +kernel
theorem dX6_correct_0 : decode cX6_correct 0 = .ok (.aload_n 0, 1) := by decide +kernel
theorem dX6_correct_1 : decode cX6_correct 1 = .ok (.getfield 10, 3) := by decide +kernel
theorem dX6_correct_4 : decode cX6_correct 4 = .ok (.iload_n 1, 1) := by decide +kernel
theorem dX6_correct_5 : decode cX6_correct 5 = .ok (.invokevirtual 84, 3) := by decide +kernel
theorem dX6_correct_8 : decode cX6_correct 8 = .ok (.astore 4, 2) := by decide +kernel
theorem dX6_correct_10 : decode cX6_correct 10 = .ok (.aload 4, 2) := by decide +kernel
theorem dX6_correct_12 : decode cX6_correct 12 = .ok (.ifnull 19, 3) := by decide +kernel
theorem dX6_correct_15 : decode cX6_correct 15 = .ok (.aload 4, 2) := by decide +kernel
theorem dX6_correct_17 : decode cX6_correct 17 = .ok (.iload_n 2, 1) := by decide +kernel
theorem dX6_correct_18 : decode cX6_correct 18 = .ok (.invokevirtual 109, 3) := by decide +kernel
theorem dX6_correct_21 : decode cX6_correct 21 = .ok (.ifCond .eq 10, 3) := by decide +kernel
theorem dX6_correct_24 : decode cX6_correct 24 = .ok (.iload_n 3, 1) := by decide +kernel
theorem dX6_correct_25 : decode cX6_correct 25 = .ok (.invokestatic 87, 3) := by decide +kernel
theorem dX6_correct_28 : decode cX6_correct 28 = .ok (.ifCond .ne 5, 3) := by decide +kernel
theorem dX6_correct_31 : decode cX6_correct 31 = .ok (.iconst (-1), 1) := by decide +kernel
theorem dX6_correct_32 : decode cX6_correct 32 = .ok (.ireturn, 1) := by decide +kernel
theorem dX6_correct_33 : decode cX6_correct 33 = .ok (.aload 4, 2) := by decide +kernel
theorem dX6_correct_35 : decode cX6_correct 35 = .ok (.iconst 3, 1) := by decide +kernel
theorem dX6_correct_36 : decode cX6_correct 36 = .ok (.invokevirtual 90, 3) := by decide +kernel
theorem dX6_correct_39 : decode cX6_correct 39 = .ok (.ifCond .ne 6, 3) := by decide +kernel
theorem dX6_correct_42 : decode cX6_correct 42 = .ok (.bipush (-4), 2) := by decide +kernel
theorem dX6_correct_44 : decode cX6_correct 44 = .ok (.ireturn, 1) := by decide +kernel
theorem dX6_correct_45 : decode cX6_correct 45 = .ok (.aload 4, 2) := by decide +kernel
theorem dX6_correct_47 : decode cX6_correct 47 = .ok (.iload_n 2, 1) := by decide +kernel
theorem dX6_correct_48 : decode cX6_correct 48 = .ok (.invokevirtual 185, 3) := by decide +kernel
theorem dX6_correct_51 : decode cX6_correct 51 = .ok (.iload_n 3, 1) := by decide +kernel
theorem dX6_correct_52 : decode cX6_correct 52 = .ok (.if_icmp .ne 6, 3) := by decide +kernel
theorem dX6_correct_55 : decode cX6_correct 55 = .ok (.bipush (-5), 2) := by decide +kernel
theorem dX6_correct_57 : decode cX6_correct 57 = .ok (.ireturn, 1) := by decide +kernel
theorem dX6_correct_58 : decode cX6_correct 58 = .ok (.aload_n 0, 1) := by decide +kernel
theorem dX6_correct_59 : decode cX6_correct 59 = .ok (.getfield 22, 3) := by decide +kernel
theorem dX6_correct_62 : decode cX6_correct 62 = .ok (.aload_n 0, 1) := by decide +kernel
theorem dX6_correct_63 : decode cX6_correct 63 = .ok (.getfield 10, 3) := by decide +kernel
theorem dX6_correct_66 : decode cX6_correct 66 = .ok (.invokevirtual 55, 3) := by decide +kernel
theorem dX6_correct_69 : decode cX6_correct 69 = .ok (.aload 4, 2) := by decide +kernel
theorem dX6_correct_71 : decode cX6_correct 71 = .ok (.iload_n 2, 1) := by decide +kernel
theorem dX6_correct_72 : decode cX6_correct 72 = .ok (.iload_n 3, 1) := by decide +kernel
theorem dX6_correct_73 : decode cX6_correct 73 = .ok (.invokevirtual 188, 3) := by decide +kernel
theorem dX6_correct_76 : decode cX6_correct 76 = .ok (.aload_n 0, 1) := by decide +kernel
theorem dX6_correct_77 : decode cX6_correct 77 = .ok (.getfield 10, 3) := by decide +kernel
theorem dX6_correct_80 : decode cX6_correct 80 = .ok (.invokevirtual 191, 3) := by decide +kernel
theorem dX6_correct_83 : decode cX6_correct 83 = .ok (.ireturn, 1) := by decide +kernel
theorem dX6_type_0 : decode cX6_type 0 = .ok (.aload_n 0, 1) := by decide +kernel
theorem dX6_type_1 : decode cX6_type 1 = .ok (.getfield 29, 3) := by decide +kernel
theorem dX6_type_4 : decode cX6_type 4 = .ok (.iload_n 1, 1) := by decide +kernel
theorem dX6_type_5 : decode cX6_type 5 = .ok (.invokevirtual 194, 3) := by decide +kernel
theorem dX6_type_8 : decode cX6_type 8 = .ok (.ifCond .ne 6, 3) := by decide +kernel
theorem dX6_type_11 : decode cX6_type 11 = .ok (.bipush (-3), 2) := by decide +kernel
theorem dX6_type_13 : decode cX6_type 13 = .ok (.ireturn, 1) := by decide +kernel
theorem dX6_type_14 : decode cX6_type 14 = .ok (.aload_n 0, 1) := by decide +kernel
theorem dX6_type_15 : decode cX6_type 15 = .ok (.getfield 29, 3) := by decide +kernel
theorem dX6_type_18 : decode cX6_type 18 = .ok (.invokevirtual 198, 3) := by decide +kernel
theorem dX6_type_21 : decode cX6_type 21 = .ok (.ireturn, 1) := by decide +kernel
theorem dX6_clearText_0 : decode cX6_clearText 0 = .ok (.aload_n 0, 1) := by decide +kernel
theorem dX6_clearText_1 : decode cX6_clearText 1 = .ok (.getfield 29, 3) := by decide +kernel
theorem dX6_clearText_4 : decode cX6_clearText 4 = .ok (.invokevirtual 198, 3) := by decide +kernel
theorem dX6_clearText_7 : decode cX6_clearText 7 = .ok (.istore_n 1, 1) := by decide +kernel
theorem dX6_clearText_8 : decode cX6_clearText 8 = .ok (.aload_n 0, 1) := by decide +kernel
theorem dX6_clearText_9 : decode cX6_clearText 9 = .ok (.getfield 29, 3) := by decide +kernel
theorem dX6_clearText_12 : decode cX6_clearText 12 = .ok (.invokevirtual 201, 3) := by decide +kernel
theorem dX6_clearText_15 : decode cX6_clearText 15 = .ok (.iload_n 1, 1) := by decide +kernel
theorem dX6_clearText_16 : decode cX6_clearText 16 = .ok (.ireturn, 1) := by decide +kernel
theorem dX6_undo_0 : decode cX6_undo 0 = .ok (.aload_n 0, 1) := by decide +kernel
theorem dX6_undo_1 : decode cX6_undo 1 = .ok (.getfield 22, 3) := by decide +kernel
theorem dX6_undo_4 : decode cX6_undo 4 = .ok (.invokevirtual 204, 3) := by decide +kernel
theorem dX6_undo_7 : decode cX6_undo 7 = .ok (.iconst 1, 1) := by decide +kernel
theorem dX6_undo_8 : decode cX6_undo 8 = .ok (.if_icmp .ge 6, 3) := by decide +kernel
theorem dX6_undo_11 : decode cX6_undo 11 = .ok (.bipush (-5), 2) := by decide +kernel
theorem dX6_undo_13 : decode cX6_undo 13 = .ok (.ireturn, 1) := by decide +kernel
theorem dX6_undo_14 : decode cX6_undo 14 = .ok (.aload_n 0, 1) := by decide +kernel
theorem dX6_undo_15 : decode cX6_undo 15 = .ok (.getfield 22, 3) := by decide +kernel
theorem dX6_undo_18 : decode cX6_undo 18 = .ok (.aload_n 0, 1) := by decide +kernel
theorem dX6_undo_19 : decode cX6_undo 19 = .ok (.getfield 10, 3) := by decide +kernel
theorem dX6_undo_22 : decode cX6_undo 22 = .ok (.invokevirtual 205, 3) := by decide +kernel
theorem dX6_undo_25 : decode cX6_undo 25 = .ok (.aload_n 0, 1) := by decide +kernel
theorem dX6_undo_26 : decode cX6_undo 26 = .ok (.getfield 22, 3) := by decide +kernel
theorem dX6_undo_29 : decode cX6_undo 29 = .ok (.invokevirtual 204, 3) := by decide +kernel
theorem dX6_undo_32 : decode cX6_undo 32 = .ok (.ireturn, 1) := by decide +kernel
theorem dX6_keep_0 : decode cX6_keep 0 = .ok (.aload_n 0, 1) := by decide +kernel
theorem dX6_keep_1 : decode cX6_keep 1 = .ok (.getfield 16, 3) := by decide +kernel
theorem dX6_keep_4 : decode cX6_keep 4 = .ok (.aload_n 0, 1) := by decide +kernel
theorem dX6_keep_5 : decode cX6_keep 5 = .ok (.getfield 10, 3) := by decide +kernel
theorem dX6_keep_8 : decode cX6_keep 8 = .ok (.invokevirtual 208, 3) := by decide +kernel
theorem dX6_keep_11 : decode cX6_keep 11 = .ok (.aload_n 0, 1) := by decide +kernel
theorem dX6_keep_12 : decode cX6_keep 12 = .ok (.iconst 1, 1) := by decide +kernel
theorem dX6_keep_13 : decode cX6_keep 13 = .ok (.putfield 211, 3) := by decide +kernel
theorem dX6_keep_16 : decode cX6_keep 16 = .ok (.aload_n 0, 1) := by decide +kernel
theorem dX6_keep_17 : decode cX6_keep 17 = .ok (.getfield 10, 3) := by decide +kernel
theorem dX6_keep_20 : decode cX6_keep 20 = .ok (.invokevirtual 63, 3) := by decide +kernel
theorem dX6_keep_23 : decode cX6_keep 23 = .ok (.ireturn, 1) := by decide +kernel
theorem dX6_restore_0 : decode cX6_restore 0 = .ok (.aload_n 0, 1) := by decide +kernel
theorem dX6_restore_1 : decode cX6_restore 1 = .ok (.getfield 211, 3) := by decide +kernel
theorem dX6_restore_4 : decode cX6_restore 4 = .ok (.ifCond .ne 6, 3) := by decide +kernel
theorem dX6_restore_7 : decode cX6_restore 7 = .ok (.bipush (-5), 2) := by decide +kernel
theorem dX6_restore_9 : decode cX6_restore 9 = .ok (.ireturn, 1) := by decide +kernel
theorem dX6_restore_10 : decode cX6_restore 10 = .ok (.aload_n 0, 1) := by decide +kernel
theorem dX6_restore_11 : decode cX6_restore 11 = .ok (.getfield 22, 3) := by decide +kernel
theorem dX6_restore_14 : decode cX6_restore 14 = .ok (.aload_n 0, 1) := by decide +kernel
theorem dX6_restore_15 : decode cX6_restore 15 = .ok (.getfield 10, 3) := by decide +kernel
theorem dX6_restore_18 : decode cX6_restore 18 = .ok (.invokevirtual 55, 3) := by decide +kernel
theorem dX6_restore_21 : decode cX6_restore 21 = .ok (.aload_n 0, 1) := by decide +kernel
theorem dX6_restore_22 : decode cX6_restore 22 = .ok (.getfield 10, 3) := by decide +kernel
theorem dX6_restore_25 : decode cX6_restore 25 = .ok (.aload_n 0, 1) := by decide +kernel
theorem dX6_restore_26 : decode cX6_restore 26 = .ok (.getfield 16, 3) := by decide +kernel
theorem dX6_restore_29 : decode cX6_restore 29 = .ok (.invokevirtual 208, 3) := by decide +kernel
theorem dX6_restore_32 : decode cX6_restore 32 = .ok (.aload_n 0, 1) := by decide +kernel
theorem dX6_restore_33 : decode cX6_restore 33 = .ok (.getfield 10, 3) := by decide +kernel
theorem dX6_restore_36 : decode cX6_restore 36 = .ok (.invokevirtual 63, 3) := by decide +kernel
theorem dX6_restore_39 : decode cX6_restore 39 = .ok (.ireturn, 1) := by decide +kernel
theorem dX6_person_0 : decode cX6_person 0 = .ok (.aload_n 0, 1) := by decide +kernel
theorem dX6_person_1 : decode cX6_person 1 = .ok (.getfield 10, 3) := by decide +kernel
theorem dX6_person_4 : decode cX6_person 4 = .ok (.iload_n 1, 1) := by decide +kernel
theorem dX6_person_5 : decode cX6_person 5 = .ok (.invokevirtual 84, 3) := by decide +kernel
theorem dX6_person_8 : decode cX6_person 8 = .ok (.astore_n 3, 1) := by decide +kernel
theorem dX6_person_9 : decode cX6_person 9 = .ok (.aload_n 3, 1) := by decide +kernel
theorem dX6_person_10 : decode cX6_person 10 = .ok (.ifnonnull 5, 3) := by decide +kernel
theorem dX6_person_13 : decode cX6_person 13 = .ok (.iconst (-1), 1) := by decide +kernel
theorem dX6_person_14 : decode cX6_person 14 = .ok (.ireturn, 1) := by decide +kernel
theorem dX6_person_15 : decode cX6_person 15 = .ok (.iload_n 2, 1) := by decide +kernel
theorem dX6_person_16 : decode cX6_person 16 = .ok (.tableswitch 155 0 10 #[60, 65, 70, 75, 80, 85, 101, 106, 128, 133, 138], 60) := by decide +kernel
theorem dX6_person_76 : decode cX6_person 76 = .ok (.aload_n 3, 1) := by decide +kernel
theorem dX6_person_77 : decode cX6_person 77 = .ok (.invokevirtual 215, 3) := by decide +kernel
theorem dX6_person_80 : decode cX6_person 80 = .ok (.ireturn, 1) := by decide +kernel
theorem dX6_person_81 : decode cX6_person 81 = .ok (.aload_n 3, 1) := by decide +kernel
theorem dX6_person_82 : decode cX6_person 82 = .ok (.invokevirtual 218, 3) := by decide +kernel
theorem dX6_person_85 : decode cX6_person 85 = .ok (.ireturn, 1) := by decide +kernel
theorem dX6_person_86 : decode cX6_person 86 = .ok (.aload_n 3, 1) := by decide +kernel
theorem dX6_person_87 : decode cX6_person 87 = .ok (.invokevirtual 221, 3) := by decide +kernel
theorem dX6_person_90 : decode cX6_person 90 = .ok (.ireturn, 1) := by decide +kernel
theorem dX6_person_91 : decode cX6_person 91 = .ok (.aload_n 3, 1) := by decide +kernel
theorem dX6_person_92 : decode cX6_person 92 = .ok (.invokevirtual 95, 3) := by decide +kernel
theorem dX6_person_95 : decode cX6_person 95 = .ok (.ireturn, 1) := by decide +kernel
theorem dX6_person_96 : decode cX6_person 96 = .ok (.aload_n 3, 1) := by decide +kernel
theorem dX6_person_97 : decode cX6_person 97 = .ok (.invokevirtual 224, 3) := by decide +kernel
theorem dX6_person_100 : decode cX6_person 100 = .ok (.ireturn, 1) := by decide +kernel
theorem dX6_person_101 : decode cX6_person 101 = .ok (.aload_n 0, 1) := by decide +kernel
theorem dX6_person_102 : decode cX6_person 102 = .ok (.getfield 10, 3) := by decide +kernel
theorem dX6_person_105 : decode cX6_person 105 = .ok (.aload_n 3, 1) := by decide +kernel
theorem dX6_person_106 : decode cX6_person 106 = .ok (.aload_n 0, 1) := by decide +kernel
theorem dX6_person_107 : decode cX6_person 107 = .ok (.getfield 10, 3) := by decide +kernel
theorem dX6_person_110 : decode cX6_person 110 = .ok (.invokevirtual 63, 3) := by decide +kernel
theorem dX6_person_113 : decode cX6_person 113 = .ok (.invokevirtual 225, 3) := by decide +kernel
theorem dX6_person_116 : decode cX6_person 116 = .ok (.ireturn, 1) := by decide +kernel
theorem dX6_person_117 : decode cX6_person 117 = .ok (.aload_n 3, 1) := by decide +kernel
theorem dX6_person_118 : decode cX6_person 118 = .ok (.invokevirtual 229, 3) := by decide +kernel
theorem dX6_person_121 : decode cX6_person 121 = .ok (.ireturn, 1) := by decide +kernel
theorem dX6_person_122 : decode cX6_person 122 = .ok (.aload_n 3, 1) := by decide +kernel
theorem dX6_person_123 : decode cX6_person 123 = .ok (.iconst 0, 1) := by decide +kernel
theorem dX6_person_124 : decode cX6_person 124 = .ok (.invokevirtual 90, 3) := by decide +kernel
theorem dX6_person_127 : decode cX6_person 127 = .ok (.ifCond .eq 14, 3) := by decide +kernel
theorem dX6_person_130 : decode cX6_person 130 = .ok (.aload_n 0, 1) := by decide +kernel
theorem dX6_person_131 : decode cX6_person 131 = .ok (.getfield 10, 3) := by decide +kernel
theorem dX6_person_134 : decode cX6_person 134 = .ok (.aload_n 3, 1) := by decide +kernel
theorem dX6_person_135 : decode cX6_person 135 = .ok (.invokevirtual 232, 3) := by decide +kernel
theorem dX6_person_138 : decode cX6_person 138 = .ok (.goto 5, 3) := by decide +kernel
theorem dX6_person_141 : decode cX6_person 141 = .ok (.bipush (-5), 2) := by decide +kernel
theorem dX6_person_143 : decode cX6_person 143 = .ok (.ireturn, 1) := by decide +kernel
theorem dX6_person_144 : decode cX6_person 144 = .ok (.aload_n 3, 1) := by decide +kernel
theorem dX6_person_145 : decode cX6_person 145 = .ok (.invokevirtual 235, 3) := by decide +kernel
theorem dX6_person_148 : decode cX6_person 148 = .ok (.ireturn, 1) := by decide +kernel
theorem dX6_person_149 : decode cX6_person 149 = .ok (.aload_n 3, 1) := by decide +kernel
theorem dX6_person_150 : decode cX6_person 150 = .ok (.invokevirtual 238, 3) := by decide +kernel
theorem dX6_person_153 : decode cX6_person 153 = .ok (.ireturn, 1) := by decide +kernel
theorem dX6_person_154 : decode cX6_person 154 = .ok (.aload_n 0, 1) := by decide +kernel
theorem dX6_person_155 : decode cX6_person 155 = .ok (.getfield 10, 3) := by decide +kernel
theorem dX6_person_158 : decode cX6_person 158 = .ok (.aload_n 3, 1) := by decide +kernel
theorem dX6_person_159 : decode cX6_person 159 = .ok (.invokevirtual 241, 3) := by decide +kernel
theorem dX6_person_162 : decode cX6_person 162 = .ok (.ifCond .eq 7, 3) := by decide +kernel
theorem dX6_person_165 : decode cX6_person 165 = .ok (.iconst 1, 1) := by decide +kernel
theorem dX6_person_166 : decode cX6_person 166 = .ok (.goto 4, 3) := by decide +kernel
theorem dX6_person_169 : decode cX6_person 169 = .ok (.iconst 0, 1) := by decide +kernel
theorem dX6_person_170 : decode cX6_person 170 = .ok (.ireturn, 1) := by decide +kernel
theorem dX6_person_171 : decode cX6_person 171 = .ok (.bipush (-2), 2) := by decide +kernel
theorem dX6_person_173 : decode cX6_person 173 = .ok (.ireturn, 1) := by decide +kernel
theorem dX6_fact_0 : decode cX6_fact 0 = .ok (.aload_n 0, 1) := by decide +kernel
theorem dX6_fact_1 : decode cX6_fact 1 = .ok (.getfield 10, 3) := by decide +kernel
theorem dX6_fact_4 : decode cX6_fact 4 = .ok (.iload_n 1, 1) := by decide +kernel
theorem dX6_fact_5 : decode cX6_fact 5 = .ok (.invokevirtual 84, 3) := by decide +kernel
theorem dX6_fact_8 : decode cX6_fact 8 = .ok (.astore 4, 2) := by decide +kernel
theorem dX6_fact_10 : decode cX6_fact 10 = .ok (.aload 4, 2) := by decide +kernel
theorem dX6_fact_12 : decode cX6_fact 12 = .ok (.ifnull 12, 3) := by decide +kernel
theorem dX6_fact_15 : decode cX6_fact 15 = .ok (.aload 4, 2) := by decide +kernel
theorem dX6_fact_17 : decode cX6_fact 17 = .ok (.iload_n 2, 1) := by decide +kernel
theorem dX6_fact_18 : decode cX6_fact 18 = .ok (.invokevirtual 109, 3) := by decide +kernel
theorem dX6_fact_21 : decode cX6_fact 21 = .ok (.ifCond .ne 5, 3) := by decide +kernel
theorem dX6_fact_24 : decode cX6_fact 24 = .ok (.iconst (-1), 1) := by decide +kernel
theorem dX6_fact_25 : decode cX6_fact 25 = .ok (.ireturn, 1) := by decide +kernel
theorem dX6_fact_26 : decode cX6_fact 26 = .ok (.iload_n 3, 1) := by decide +kernel
theorem dX6_fact_27 : decode cX6_fact 27 = .ok (.tableswitch 94 0 4 #[33, 40, 47, 54, 73], 33) := by decide +kernel
theorem dX6_fact_60 : decode cX6_fact 60 = .ok (.aload 4, 2) := by decide +kernel
theorem dX6_fact_62 : decode cX6_fact 62 = .ok (.iload_n 2, 1) := by decide +kernel
theorem dX6_fact_63 : decode cX6_fact 63 = .ok (.invokevirtual 185, 3) := by decide +kernel
theorem dX6_fact_66 : decode cX6_fact 66 = .ok (.ireturn, 1) := by decide +kernel
theorem dX6_fact_67 : decode cX6_fact 67 = .ok (.aload 4, 2) := by decide +kernel
theorem dX6_fact_69 : decode cX6_fact 69 = .ok (.iload_n 2, 1) := by decide +kernel
theorem dX6_fact_70 : decode cX6_fact 70 = .ok (.invokevirtual 245, 3) := by decide +kernel
theorem dX6_fact_73 : decode cX6_fact 73 = .ok (.ireturn, 1) := by decide +kernel
theorem dX6_fact_74 : decode cX6_fact 74 = .ok (.aload 4, 2) := by decide +kernel
theorem dX6_fact_76 : decode cX6_fact 76 = .ok (.iload_n 2, 1) := by decide +kernel
theorem dX6_fact_77 : decode cX6_fact 77 = .ok (.invokevirtual 112, 3) := by decide +kernel
theorem dX6_fact_80 : decode cX6_fact 80 = .ok (.ireturn, 1) := by decide +kernel
theorem dX6_fact_81 : decode cX6_fact 81 = .ok (.aload_n 0, 1) := by decide +kernel
theorem dX6_fact_82 : decode cX6_fact 82 = .ok (.getfield 10, 3) := by decide +kernel
theorem dX6_fact_85 : decode cX6_fact 85 = .ok (.aload 4, 2) := by decide +kernel
theorem dX6_fact_87 : decode cX6_fact 87 = .ok (.iload_n 2, 1) := by decide +kernel
theorem dX6_fact_88 : decode cX6_fact 88 = .ok (.invokevirtual 248, 3) := by decide +kernel
theorem dX6_fact_91 : decode cX6_fact 91 = .ok (.ifCond .eq 7, 3) := by decide +kernel
theorem dX6_fact_94 : decode cX6_fact 94 = .ok (.iconst 1, 1) := by decide +kernel
theorem dX6_fact_95 : decode cX6_fact 95 = .ok (.goto 4, 3) := by decide +kernel
theorem dX6_fact_98 : decode cX6_fact 98 = .ok (.iconst 0, 1) := by decide +kernel
theorem dX6_fact_99 : decode cX6_fact 99 = .ok (.ireturn, 1) := by decide +kernel
theorem dX6_fact_100 : decode cX6_fact 100 = .ok (.aload_n 0, 1) := by decide +kernel
theorem dX6_fact_101 : decode cX6_fact 101 = .ok (.getfield 10, 3) := by decide +kernel
theorem dX6_fact_104 : decode cX6_fact 104 = .ok (.aload 4, 2) := by decide +kernel
theorem dX6_fact_106 : decode cX6_fact 106 = .ok (.iload_n 2, 1) := by decide +kernel
theorem dX6_fact_107 : decode cX6_fact 107 = .ok (.aload_n 0, 1) := by decide +kernel
theorem dX6_fact_108 : decode cX6_fact 108 = .ok (.getfield 10, 3) := by decide +kernel
theorem dX6_fact_111 : decode cX6_fact 111 = .ok (.invokevirtual 63, 3) := by decide +kernel
theorem dX6_fact_114 : decode cX6_fact 114 = .ok (.invokevirtual 252, 3) := by decide +kernel
theorem dX6_fact_117 : decode cX6_fact 117 = .ok (.invokestatic 256, 3) := by decide +kernel
theorem dX6_fact_120 : decode cX6_fact 120 = .ok (.ireturn, 1) := by decide +kernel
theorem dX6_fact_121 : decode cX6_fact 121 = .ok (.bipush (-2), 2) := by decide +kernel
theorem dX6_fact_123 : decode cX6_fact 123 = .ok (.ireturn, 1) := by decide +kernel
theorem dX6_worth_0 : decode cX6_worth 0 = .ok (.aload_n 0, 1) := by decide +kernel
theorem dX6_worth_1 : decode cX6_worth 1 = .ok (.getfield 10, 3) := by decide +kernel
theorem dX6_worth_4 : decode cX6_worth 4 = .ok (.iload_n 1, 1) := by decide +kernel
theorem dX6_worth_5 : decode cX6_worth 5 = .ok (.invokevirtual 84, 3) := by decide +kernel
theorem dX6_worth_8 : decode cX6_worth 8 = .ok (.astore_n 2, 1) := by decide +kernel
theorem dX6_worth_9 : decode cX6_worth 9 = .ok (.aload_n 2, 1) := by decide +kernel
theorem dX6_worth_10 : decode cX6_worth 10 = .ok (.ifnonnull 7, 3) := by decide +kernel
theorem dX6_worth_13 : decode cX6_worth 13 = .ok (.ldc_w 260, 3) := by decide +kernel
theorem dX6_worth_16 : decode cX6_worth 16 = .ok (.freturn, 1) := by decide +kernel
theorem dX6_worth_17 : decode cX6_worth 17 = .ok (.aload_n 0, 1) := by decide +kernel
theorem dX6_worth_18 : decode cX6_worth 18 = .ok (.getfield 10, 3) := by decide +kernel
theorem dX6_worth_21 : decode cX6_worth 21 = .ok (.aload_n 2, 1) := by decide +kernel
theorem dX6_worth_22 : decode cX6_worth 22 = .ok (.invokevirtual 261, 3) := by decide +kernel
theorem dX6_worth_25 : decode cX6_worth 25 = .ok (.freturn, 1) := by decide +kernel
theorem dX6_urgent_0 : decode cX6_urgent 0 = .ok (.iload_n 1, 1) := by decide +kernel
theorem dX6_urgent_1 : decode cX6_urgent 1 = .ok (.ifCond .ge 6, 3) := by decide +kernel
theorem dX6_urgent_4 : decode cX6_urgent 4 = .ok (.bipush (-2), 2) := by decide +kernel
theorem dX6_urgent_6 : decode cX6_urgent 6 = .ok (.ireturn, 1) := by decide +kernel
theorem dX6_urgent_7 : decode cX6_urgent 7 = .ok (.aload_n 0, 1) := by decide +kernel
theorem dX6_urgent_8 : decode cX6_urgent 8 = .ok (.getfield 10, 3) := by decide +kernel
theorem dX6_urgent_11 : decode cX6_urgent 11 = .ok (.aload_n 0, 1) := by decide +kernel
theorem dX6_urgent_12 : decode cX6_urgent 12 = .ok (.getfield 36, 3) := by decide +kernel
theorem dX6_urgent_15 : decode cX6_urgent 15 = .ok (.invokevirtual 265, 3) := by decide +kernel
theorem dX6_urgent_18 : decode cX6_urgent 18 = .ok (.aload_n 0, 1) := by decide +kernel
theorem dX6_urgent_19 : decode cX6_urgent 19 = .ok (.getfield 36, 3) := by decide +kernel
theorem dX6_urgent_22 : decode cX6_urgent 22 = .ok (.iload_n 1, 1) := by decide +kernel
theorem dX6_urgent_23 : decode cX6_urgent 23 = .ok (.invokevirtual 269, 3) := by decide +kernel
theorem dX6_urgent_26 : decode cX6_urgent 26 = .ok (.ireturn, 1) := by decide +kernel
theorem dX6_page_0 : decode cX6_page 0 = .ok (.iload_n 1, 1) := by decide +kernel
theorem dX6_page_1 : decode cX6_page 1 = .ok (.ifCond .ge 6, 3) := by decide +kernel
theorem dX6_page_4 : decode cX6_page 4 = .ok (.bipush (-2), 2) := by decide +kernel
theorem dX6_page_6 : decode cX6_page 6 = .ok (.ireturn, 1) := by decide +kernel
theorem dX6_page_7 : decode cX6_page 7 = .ok (.aload_n 0, 1) := by decide +kernel
theorem dX6_page_8 : decode cX6_page 8 = .ok (.getfield 43, 3) := by decide +kernel
theorem dX6_page_11 : decode cX6_page 11 = .ok (.aload_n 0, 1) := by decide +kernel
theorem dX6_page_12 : decode cX6_page 12 = .ok (.getfield 10, 3) := by decide +kernel
theorem dX6_page_15 : decode cX6_page 15 = .ok (.invokevirtual 169, 3) := by decide +kernel
theorem dX6_page_18 : decode cX6_page 18 = .ok (.aload_n 0, 1) := by decide +kernel
theorem dX6_page_19 : decode cX6_page 19 = .ok (.getfield 43, 3) := by decide +kernel
theorem dX6_page_22 : decode cX6_page 22 = .ok (.iload_n 1, 1) := by decide +kernel
theorem dX6_page_23 : decode cX6_page 23 = .ok (.invokevirtual 173, 3) := by decide +kernel
theorem dX6_page_26 : decode cX6_page 26 = .ok (.ireturn, 1) := by decide +kernel
theorem dX6_source_0 : decode cX6_source 0 = .ok (.iload_n 1, 1) := by decide +kernel
theorem dX6_source_1 : decode cX6_source 1 = .ok (.invokestatic 87, 3) := by decide +kernel
theorem dX6_source_4 : decode cX6_source 4 = .ok (.ifCond .ne 5, 3) := by decide +kernel
theorem dX6_source_7 : decode cX6_source 7 = .ok (.iconst (-1), 1) := by decide +kernel
theorem dX6_source_8 : decode cX6_source 8 = .ok (.ireturn, 1) := by decide +kernel
theorem dX6_source_9 : decode cX6_source 9 = .ok (.iload_n 2, 1) := by decide +kernel
theorem dX6_source_10 : decode cX6_source 10 = .ok (.tableswitch 66 0 3 #[30, 39, 48, 57], 30) := by decide +kernel
theorem dX6_source_40 : decode cX6_source 40 = .ok (.aload_n 0, 1) := by decide +kernel
theorem dX6_source_41 : decode cX6_source 41 = .ok (.getfield 10, 3) := by decide +kernel
theorem dX6_source_44 : decode cX6_source 44 = .ok (.iload_n 1, 1) := by decide +kernel
theorem dX6_source_45 : decode cX6_source 45 = .ok (.invokevirtual 131, 3) := by decide +kernel
theorem dX6_source_48 : decode cX6_source 48 = .ok (.ireturn, 1) := by decide +kernel
theorem dX6_source_49 : decode cX6_source 49 = .ok (.aload_n 0, 1) := by decide +kernel
theorem dX6_source_50 : decode cX6_source 50 = .ok (.getfield 10, 3) := by decide +kernel
theorem dX6_source_53 : decode cX6_source 53 = .ok (.iload_n 1, 1) := by decide +kernel
theorem dX6_source_54 : decode cX6_source 54 = .ok (.invokevirtual 270, 3) := by decide +kernel
theorem dX6_source_57 : decode cX6_source 57 = .ok (.ireturn, 1) := by decide +kernel
theorem dX6_source_58 : decode cX6_source 58 = .ok (.aload_n 0, 1) := by decide +kernel
theorem dX6_source_59 : decode cX6_source 59 = .ok (.getfield 10, 3) := by decide +kernel
theorem dX6_source_62 : decode cX6_source 62 = .ok (.iload_n 1, 1) := by decide +kernel
theorem dX6_source_63 : decode cX6_source 63 = .ok (.invokevirtual 273, 3) := by decide +kernel
theorem dX6_source_66 : decode cX6_source 66 = .ok (.ireturn, 1) := by decide +kernel
theorem dX6_source_67 : decode cX6_source 67 = .ok (.aload_n 0, 1) := by decide +kernel
theorem dX6_source_68 : decode cX6_source 68 = .ok (.getfield 10, 3) := by decide +kernel
theorem dX6_source_71 : decode cX6_source 71 = .ok (.iload_n 1, 1) := by decide +kernel
theorem dX6_source_72 : decode cX6_source 72 = .ok (.invokevirtual 276, 3) := by decide +kernel
theorem dX6_source_75 : decode cX6_source 75 = .ok (.ireturn, 1) := by decide +kernel
theorem dX6_source_76 : decode cX6_source 76 = .ok (.bipush (-2), 2) := by decide +kernel
theorem dX6_source_78 : decode cX6_source 78 = .ok (.ireturn, 1) := by decide +kernel
theorem dX6_staleIn_0 : decode cX6_staleIn 0 = .ok (.iload_n 1, 1) := by decide +kernel
theorem dX6_staleIn_1 : decode cX6_staleIn 1 = .ok (.iconst 0, 1) := by decide +kernel
theorem dX6_staleIn_2 : decode cX6_staleIn 2 = .ok (.sipush 999, 3) := by decide +kernel
theorem dX6_staleIn_5 : decode cX6_staleIn 5 = .ok (.invokestatic 47, 3) := by decide +kernel
theorem dX6_staleIn_8 : decode cX6_staleIn 8 = .ok (.ifCond .ne 6, 3) := by decide +kernel
theorem dX6_staleIn_11 : decode cX6_staleIn 11 = .ok (.bipush (-2), 2) := by decide +kernel
theorem dX6_staleIn_13 : decode cX6_staleIn 13 = .ok (.ireturn, 1) := by decide +kernel
theorem dX6_staleIn_14 : decode cX6_staleIn 14 = .ok (.aload_n 0, 1) := by decide +kernel
theorem dX6_staleIn_15 : decode cX6_staleIn 15 = .ok (.getfield 10, 3) := by decide +kernel
theorem dX6_staleIn_18 : decode cX6_staleIn 18 = .ok (.aload_n 0, 1) := by decide +kernel
theorem dX6_staleIn_19 : decode cX6_staleIn 19 = .ok (.getfield 10, 3) := by decide +kernel
theorem dX6_staleIn_22 : decode cX6_staleIn 22 = .ok (.invokevirtual 63, 3) := by decide +kernel
theorem dX6_staleIn_25 : decode cX6_staleIn 25 = .ok (.iload_n 1, 1) := by decide +kernel
theorem dX6_staleIn_26 : decode cX6_staleIn 26 = .ok (.iadd, 1) := by decide +kernel
theorem dX6_staleIn_27 : decode cX6_staleIn 27 = .ok (.invokevirtual 279, 3) := by decide +kernel
theorem dX6_staleIn_30 : decode cX6_staleIn 30 = .ok (.ireturn, 1) := by decide +kernel
theorem dX6_count_0 : decode cX6_count 0 = .ok (.iload_n 1, 1) := by decide +kernel
theorem dX6_count_1 : decode cX6_count 1 = .ok (.tableswitch 225 0 17 #[87, 95, 103, 111, 120, 129, 138, 147, 155, 170, 189, 197, 197, 197, 197, 197, 209, 217], 87) := by decide +kernel
theorem dX6_count_88 : decode cX6_count 88 = .ok (.aload_n 0, 1) := by decide +kernel
theorem dX6_count_89 : decode cX6_count 89 = .ok (.getfield 10, 3) := by decide +kernel
theorem dX6_count_92 : decode cX6_count 92 = .ok (.invokevirtual 63, 3) := by decide +kernel
theorem dX6_count_95 : decode cX6_count 95 = .ok (.ireturn, 1) := by decide +kernel
theorem dX6_count_96 : decode cX6_count 96 = .ok (.aload_n 0, 1) := by decide +kernel
theorem dX6_count_97 : decode cX6_count 97 = .ok (.getfield 10, 3) := by decide +kernel
theorem dX6_count_100 : decode cX6_count 100 = .ok (.invokevirtual 282, 3) := by decide +kernel
theorem dX6_count_103 : decode cX6_count 103 = .ok (.ireturn, 1) := by decide +kernel
theorem dX6_count_104 : decode cX6_count 104 = .ok (.aload_n 0, 1) := by decide +kernel
theorem dX6_count_105 : decode cX6_count 105 = .ok (.getfield 10, 3) := by decide +kernel
theorem dX6_count_108 : decode cX6_count 108 = .ok (.invokevirtual 98, 3) := by decide +kernel
theorem dX6_count_111 : decode cX6_count 111 = .ok (.ireturn, 1) := by decide +kernel
theorem dX6_count_112 : decode cX6_count 112 = .ok (.aload_n 0, 1) := by decide +kernel
theorem dX6_count_113 : decode cX6_count 113 = .ok (.getfield 10, 3) := by decide +kernel
theorem dX6_count_116 : decode cX6_count 116 = .ok (.iconst 0, 1) := by decide +kernel
theorem dX6_count_117 : decode cX6_count 117 = .ok (.invokevirtual 166, 3) := by decide +kernel
theorem dX6_count_120 : decode cX6_count 120 = .ok (.ireturn, 1) := by decide +kernel
theorem dX6_count_121 : decode cX6_count 121 = .ok (.aload_n 0, 1) := by decide +kernel
theorem dX6_count_122 : decode cX6_count 122 = .ok (.getfield 10, 3) := by decide +kernel
theorem dX6_count_125 : decode cX6_count 125 = .ok (.iconst 1, 1) := by decide +kernel
theorem dX6_count_126 : decode cX6_count 126 = .ok (.invokevirtual 166, 3) := by decide +kernel
theorem dX6_count_129 : decode cX6_count 129 = .ok (.ireturn, 1) := by decide +kernel
theorem dX6_count_130 : decode cX6_count 130 = .ok (.aload_n 0, 1) := by decide +kernel
theorem dX6_count_131 : decode cX6_count 131 = .ok (.getfield 10, 3) := by decide +kernel
theorem dX6_count_134 : decode cX6_count 134 = .ok (.iconst 2, 1) := by decide +kernel
theorem dX6_count_135 : decode cX6_count 135 = .ok (.invokevirtual 166, 3) := by decide +kernel
theorem dX6_count_138 : decode cX6_count 138 = .ok (.ireturn, 1) := by decide +kernel
theorem dX6_count_139 : decode cX6_count 139 = .ok (.aload_n 0, 1) := by decide +kernel
theorem dX6_count_140 : decode cX6_count 140 = .ok (.getfield 10, 3) := by decide +kernel
theorem dX6_count_143 : decode cX6_count 143 = .ok (.iconst 3, 1) := by decide +kernel
theorem dX6_count_144 : decode cX6_count 144 = .ok (.invokevirtual 166, 3) := by decide +kernel
theorem dX6_count_147 : decode cX6_count 147 = .ok (.ireturn, 1) := by decide +kernel
theorem dX6_count_148 : decode cX6_count 148 = .ok (.aload_n 0, 1) := by decide +kernel
theorem dX6_count_149 : decode cX6_count 149 = .ok (.getfield 10, 3) := by decide +kernel
theorem dX6_count_152 : decode cX6_count 152 = .ok (.invokevirtual 285, 3) := by decide +kernel
theorem dX6_count_155 : decode cX6_count 155 = .ok (.ireturn, 1) := by decide +kernel
theorem dX6_count_156 : decode cX6_count 156 = .ok (.aload_n 0, 1) := by decide +kernel
theorem dX6_count_157 : decode cX6_count 157 = .ok (.getfield 10, 3) := by decide +kernel
theorem dX6_count_160 : decode cX6_count 160 = .ok (.aload_n 0, 1) := by decide +kernel
theorem dX6_count_161 : decode cX6_count 161 = .ok (.getfield 10, 3) := by decide +kernel
theorem dX6_count_164 : decode cX6_count 164 = .ok (.invokevirtual 63, 3) := by decide +kernel
theorem dX6_count_167 : decode cX6_count 167 = .ok (.invokevirtual 279, 3) := by decide +kernel
theorem dX6_count_170 : decode cX6_count 170 = .ok (.ireturn, 1) := by decide +kernel
theorem dX6_count_171 : decode cX6_count 171 = .ok (.aload_n 0, 1) := by decide +kernel
theorem dX6_count_172 : decode cX6_count 172 = .ok (.getfield 43, 3) := by decide +kernel
theorem dX6_count_175 : decode cX6_count 175 = .ok (.aload_n 0, 1) := by decide +kernel
theorem dX6_count_176 : decode cX6_count 176 = .ok (.getfield 10, 3) := by decide +kernel
theorem dX6_count_179 : decode cX6_count 179 = .ok (.invokevirtual 169, 3) := by decide +kernel
theorem dX6_count_182 : decode cX6_count 182 = .ok (.aload_n 0, 1) := by decide +kernel
theorem dX6_count_183 : decode cX6_count 183 = .ok (.getfield 43, 3) := by decide +kernel
theorem dX6_count_186 : decode cX6_count 186 = .ok (.invokevirtual 288, 3) := by decide +kernel
theorem dX6_count_189 : decode cX6_count 189 = .ok (.ireturn, 1) := by decide +kernel
theorem dX6_count_190 : decode cX6_count 190 = .ok (.aload_n 0, 1) := by decide +kernel
theorem dX6_count_191 : decode cX6_count 191 = .ok (.getfield 10, 3) := by decide +kernel
theorem dX6_count_194 : decode cX6_count 194 = .ok (.invokevirtual 291, 3) := by decide +kernel
theorem dX6_count_197 : decode cX6_count 197 = .ok (.ireturn, 1) := by decide +kernel
theorem dX6_count_198 : decode cX6_count 198 = .ok (.aload_n 0, 1) := by decide +kernel
theorem dX6_count_199 : decode cX6_count 199 = .ok (.getfield 10, 3) := by decide +kernel
theorem dX6_count_202 : decode cX6_count 202 = .ok (.iload_n 1, 1) := by decide +kernel
theorem dX6_count_203 : decode cX6_count 203 = .ok (.bipush 11, 2) := by decide +kernel
theorem dX6_count_205 : decode cX6_count 205 = .ok (.isub, 1) := by decide +kernel
theorem dX6_count_206 : decode cX6_count 206 = .ok (.invokevirtual 148, 3) := by decide +kernel
theorem dX6_count_209 : decode cX6_count 209 = .ok (.ireturn, 1) := by decide +kernel
theorem dX6_count_210 : decode cX6_count 210 = .ok (.aload_n 0, 1) := by decide +kernel
theorem dX6_count_211 : decode cX6_count 211 = .ok (.getfield 22, 3) := by decide +kernel
theorem dX6_count_214 : decode cX6_count 214 = .ok (.invokevirtual 204, 3) := by decide +kernel
theorem dX6_count_217 : decode cX6_count 217 = .ok (.ireturn, 1) := by decide +kernel
theorem dX6_count_218 : decode cX6_count 218 = .ok (.aload_n 0, 1) := by decide +kernel
theorem dX6_count_219 : decode cX6_count 219 = .ok (.getfield 29, 3) := by decide +kernel
theorem dX6_count_222 : decode cX6_count 222 = .ok (.invokevirtual 198, 3) := by decide +kernel
theorem dX6_count_225 : decode cX6_count 225 = .ok (.ireturn, 1) := by decide +kernel
theorem dX6_count_226 : decode cX6_count 226 = .ok (.bipush (-2), 2) := by decide +kernel
theorem dX6_count_228 : decode cX6_count 228 = .ok (.ireturn, 1) := by decide +kernel
theorem dX6_isWithin_0 : decode cX6_isWithin 0 = .ok (.iload_n 0, 1) := by decide +kernel
theorem dX6_isWithin_1 : decode cX6_isWithin 1 = .ok (.iload_n 1, 1) := by decide +kernel
theorem dX6_isWithin_2 : decode cX6_isWithin 2 = .ok (.if_icmp .lt 12, 3) := by decide +kernel
theorem dX6_isWithin_5 : decode cX6_isWithin 5 = .ok (.iload_n 0, 1) := by decide +kernel
theorem dX6_isWithin_6 : decode cX6_isWithin 6 = .ok (.iload_n 2, 1) := by decide +kernel
theorem dX6_isWithin_7 : decode cX6_isWithin 7 = .ok (.if_icmp .gt 7, 3) := by decide +kernel
theorem dX6_isWithin_10 : decode cX6_isWithin 10 = .ok (.iconst 1, 1) := by decide +kernel
theorem dX6_isWithin_11 : decode cX6_isWithin 11 = .ok (.goto 4, 3) := by decide +kernel
theorem dX6_isWithin_14 : decode cX6_isWithin 14 = .ok (.iconst 0, 1) := by decide +kernel
theorem dX6_isWithin_15 : decode cX6_isWithin 15 = .ok (.ireturn, 1) := by decide +kernel
theorem dX6_isSource_0 : decode cX6_isSource 0 = .ok (.iload_n 0, 1) := by decide +kernel
theorem dX6_isSource_1 : decode cX6_isSource 1 = .ok (.ifCond .lt 13, 3) := by decide +kernel
theorem dX6_isSource_4 : decode cX6_isSource 4 = .ok (.iload_n 0, 1) := by decide +kernel
theorem dX6_isSource_5 : decode cX6_isSource 5 = .ok (.bipush 6, 2) := by decide +kernel
theorem dX6_isSource_7 : decode cX6_isSource 7 = .ok (.if_icmp .ge 7, 3) := by decide +kernel
theorem dX6_isSource_10 : decode cX6_isSource 10 = .ok (.iconst 1, 1) := by decide +kernel
theorem dX6_isSource_11 : decode cX6_isSource 11 = .ok (.goto 4, 3) := by decide +kernel
theorem dX6_isSource_14 : decode cX6_isSource 14 = .ok (.iconst 0, 1) := by decide +kernel
theorem dX6_isSource_15 : decode cX6_isSource 15 = .ok (.ireturn, 1) := by decide +kernel
theorem dX6_isSetting_0 : decode cX6_isSetting 0 = .ok (.iload_n 0, 1) := by decide +kernel
theorem dX6_isSetting_1 : decode cX6_isSetting 1 = .ok (.ifCond .lt 12, 3) := by decide +kernel
theorem dX6_isSetting_4 : decode cX6_isSetting 4 = .ok (.iload_n 0, 1) := by decide +kernel
theorem dX6_isSetting_5 : decode cX6_isSetting 5 = .ok (.iconst 5, 1) := by decide +kernel
theorem dX6_isSetting_6 : decode cX6_isSetting 6 = .ok (.if_icmp .ge 7, 3) := by decide +kernel
theorem dX6_isSetting_9 : decode cX6_isSetting 9 = .ok (.iconst 1, 1) := by decide +kernel
theorem dX6_isSetting_10 : decode cX6_isSetting 10 = .ok (.goto 4, 3) := by decide +kernel
theorem dX6_isSetting_13 : decode cX6_isSetting 13 = .ok (.iconst 0, 1) := by decide +kernel
theorem dX6_isSetting_14 : decode cX6_isSetting 14 = .ok (.ireturn, 1) := by decide +kernel
theorem dX6_bitsOf_0 : decode cX6_bitsOf 0 = .ok (.fload_n 0, 1) := by decide +kernel
theorem dX6_bitsOf_1 : decode cX6_bitsOf 1 = .ok (.fstore_n 1, 1) := by decide +kernel
theorem dX6_bitsOf_2 : decode cX6_bitsOf 2 = .ok (.bipush 127, 2) := by decide +kernel
theorem dX6_bitsOf_4 : decode cX6_bitsOf 4 = .ok (.istore_n 2, 1) := by decide +kernel
theorem dX6_bitsOf_5 : decode cX6_bitsOf 5 = .ok (.fload_n 1, 1) := by decide +kernel
theorem dX6_bitsOf_6 : decode cX6_bitsOf 6 = .ok (.fconst 1, 1) := by decide +kernel
theorem dX6_bitsOf_7 : decode cX6_bitsOf 7 = .ok (.fcmp .g, 1) := by decide +kernel
theorem dX6_bitsOf_8 : decode cX6_bitsOf 8 = .ok (.ifCond .ge 18, 3) := by decide +kernel
theorem dX6_bitsOf_11 : decode cX6_bitsOf 11 = .ok (.iload_n 2, 1) := by decide +kernel
theorem dX6_bitsOf_12 : decode cX6_bitsOf 12 = .ok (.iconst 1, 1) := by decide +kernel
theorem dX6_bitsOf_13 : decode cX6_bitsOf 13 = .ok (.if_icmp .le 13, 3) := by decide +kernel
theorem dX6_bitsOf_16 : decode cX6_bitsOf 16 = .ok (.fload_n 1, 1) := by decide +kernel
theorem dX6_bitsOf_17 : decode cX6_bitsOf 17 = .ok (.fconst 2, 1) := by decide +kernel
theorem dX6_bitsOf_18 : decode cX6_bitsOf 18 = .ok (.fmul, 1) := by decide +kernel
theorem dX6_bitsOf_19 : decode cX6_bitsOf 19 = .ok (.fstore_n 1, 1) := by decide +kernel
theorem dX6_bitsOf_20 : decode cX6_bitsOf 20 = .ok (.iinc 2 (-1), 3) := by decide +kernel
theorem dX6_bitsOf_23 : decode cX6_bitsOf 23 = .ok (.goto (-18), 3) := by decide +kernel
theorem dX6_bitsOf_26 : decode cX6_bitsOf 26 = .ok (.fload_n 1, 1) := by decide +kernel
theorem dX6_bitsOf_27 : decode cX6_bitsOf 27 = .ok (.fconst 1, 1) := by decide +kernel
theorem dX6_bitsOf_28 : decode cX6_bitsOf 28 = .ok (.fcmp .g, 1) := by decide +kernel
theorem dX6_bitsOf_29 : decode cX6_bitsOf 29 = .ok (.ifCond .ge 10, 3) := by decide +kernel
theorem dX6_bitsOf_32 : decode cX6_bitsOf 32 = .ok (.fload_n 1, 1) := by decide +kernel
theorem dX6_bitsOf_33 : decode cX6_bitsOf 33 = .ok (.ldc_w 294, 3) := by decide +kernel
theorem dX6_bitsOf_36 : decode cX6_bitsOf 36 = .ok (.fmul, 1) := by decide +kernel
theorem dX6_bitsOf_37 : decode cX6_bitsOf 37 = .ok (.f2i, 1) := by decide +kernel
theorem dX6_bitsOf_38 : decode cX6_bitsOf 38 = .ok (.ireturn, 1) := by decide +kernel
theorem dX6_bitsOf_39 : decode cX6_bitsOf 39 = .ok (.iload_n 2, 1) := by decide +kernel
theorem dX6_bitsOf_40 : decode cX6_bitsOf 40 = .ok (.bipush 23, 2) := by decide +kernel
theorem dX6_bitsOf_42 : decode cX6_bitsOf 42 = .ok (.ishl, 1) := by decide +kernel
theorem dX6_bitsOf_43 : decode cX6_bitsOf 43 = .ok (.fload_n 1, 1) := by decide +kernel
theorem dX6_bitsOf_44 : decode cX6_bitsOf 44 = .ok (.fconst 1, 1) := by decide +kernel
theorem dX6_bitsOf_45 : decode cX6_bitsOf 45 = .ok (.fsub, 1) := by decide +kernel
theorem dX6_bitsOf_46 : decode cX6_bitsOf 46 = .ok (.ldc_w 294, 3) := by decide +kernel
theorem dX6_bitsOf_49 : decode cX6_bitsOf 49 = .ok (.fmul, 1) := by decide +kernel
theorem dX6_bitsOf_50 : decode cX6_bitsOf 50 = .ok (.f2i, 1) := by decide +kernel
theorem dX6_bitsOf_51 : decode cX6_bitsOf 51 = .ok (.ior, 1) := by decide +kernel
theorem dX6_bitsOf_52 : decode cX6_bitsOf 52 = .ok (.ireturn, 1) := by decide +kernel
theorem dX7_init_0 : decode cX7_init 0 = .ok (.aload_n 0, 1) := by decide +kernel
theorem dX7_init_1 : decode cX7_init 1 = .ok (.invokespecial 1, 3) := by decide +kernel
theorem dX7_init_4 : decode cX7_init 4 = .ok (.aload_n 0, 1) := by decide +kernel
theorem dX7_init_5 : decode cX7_init 5 = .ok (.sipush 656, 3) := by decide +kernel
theorem dX7_init_8 : decode cX7_init 8 = .ok (.newarray .int, 2) := by decide +kernel
theorem dX7_init_10 : decode cX7_init 10 = .ok (.putfield 7, 3) := by decide +kernel
theorem dX7_init_13 : decode cX7_init 13 = .ok (.aload_n 0, 1) := by decide +kernel
theorem dX7_init_14 : decode cX7_init 14 = .ok (.sipush 2624, 3) := by decide +kernel
theorem dX7_init_17 : decode cX7_init 17 = .ok (.newarray .int, 2) := by decide +kernel
theorem dX7_init_19 : decode cX7_init 19 = .ok (.putfield 13, 3) := by decide +kernel
theorem dX7_init_22 : decode cX7_init 22 = .ok (.aload_n 0, 1) := by decide +kernel
theorem dX7_init_23 : decode cX7_init 23 = .ok (.sipush 656, 3) := by decide +kernel
theorem dX7_init_26 : decode cX7_init 26 = .ok (.newarray .int, 2) := by decide +kernel
theorem dX7_init_28 : decode cX7_init 28 = .ok (.putfield 16, 3) := by decide +kernel
theorem dX7_init_31 : decode cX7_init 31 = .ok (.aload_n 0, 1) := by decide +kernel
theorem dX7_init_32 : decode cX7_init 32 = .ok (.bipush 20, 2) := by decide +kernel
theorem dX7_init_34 : decode cX7_init 34 = .ok (.newarray .int, 2) := by decide +kernel
theorem dX7_init_36 : decode cX7_init 36 = .ok (.putfield 19, 3) := by decide +kernel
theorem dX7_init_39 : decode cX7_init 39 = .ok (.aload_n 0, 1) := by decide +kernel
theorem dX7_init_40 : decode cX7_init 40 = .ok (.bipush 20, 2) := by decide +kernel
theorem dX7_init_42 : decode cX7_init 42 = .ok (.newarray .boolean, 2) := by decide +kernel
theorem dX7_init_44 : decode cX7_init 44 = .ok (.putfield 22, 3) := by decide +kernel
theorem dX7_init_47 : decode cX7_init 47 = .ok (.aload_n 0, 1) := by decide +kernel
theorem dX7_init_48 : decode cX7_init 48 = .ok (.bipush 60, 2) := by decide +kernel
theorem dX7_init_50 : decode cX7_init 50 = .ok (.newarray .char, 2) := by decide +kernel
theorem dX7_init_52 : decode cX7_init 52 = .ok (.putfield 26, 3) := by decide +kernel
theorem dX7_init_55 : decode cX7_init 55 = .ok (.aload_n 0, 1) := by decide +kernel
theorem dX7_init_56 : decode cX7_init 56 = .ok (.sipush 400, 3) := by decide +kernel
theorem dX7_init_59 : decode cX7_init 59 = .ok (.newarray .int, 2) := by decide +kernel
theorem dX7_init_61 : decode cX7_init 61 = .ok (.putfield 30, 3) := by decide +kernel
theorem dX7_init_64 : decode cX7_init 64 = .ok (.aload_n 0, 1) := by decide +kernel
theorem dX7_init_65 : decode cX7_init 65 = .ok (.getfield 7, 3) := by decide +kernel
theorem dX7_init_68 : decode cX7_init 68 = .ok (.iconst 2, 1) := by decide +kernel
theorem dX7_init_69 : decode cX7_init 69 = .ok (.bipush 8, 2) := by decide +kernel
theorem dX7_init_71 : decode cX7_init 71 = .ok (.iastore, 1) := by decide +kernel
theorem dX7_init_72 : decode cX7_init 72 = .ok (.aload_n 0, 1) := by decide +kernel
theorem dX7_init_73 : decode cX7_init 73 = .ok (.getfield 7, 3) := by decide +kernel
theorem dX7_init_76 : decode cX7_init 76 = .ok (.iconst 4, 1) := by decide +kernel
theorem dX7_init_77 : decode cX7_init 77 = .ok (.bipush 8, 2) := by decide +kernel
theorem dX7_init_79 : decode cX7_init 79 = .ok (.iastore, 1) := by decide +kernel
theorem dX7_init_80 : decode cX7_init 80 = .ok (.aload_n 0, 1) := by decide +kernel
theorem dX7_init_81 : decode cX7_init 81 = .ok (.getfield 7, 3) := by decide +kernel
theorem dX7_init_84 : decode cX7_init 84 = .ok (.iconst 5, 1) := by decide +kernel
theorem dX7_init_85 : decode cX7_init 85 = .ok (.bipush 40, 2) := by decide +kernel
theorem dX7_init_87 : decode cX7_init 87 = .ok (.iastore, 1) := by decide +kernel
theorem dX7_init_88 : decode cX7_init 88 = .ok (.aload_n 0, 1) := by decide +kernel
theorem dX7_init_89 : decode cX7_init 89 = .ok (.getfield 7, 3) := by decide +kernel
theorem dX7_init_92 : decode cX7_init 92 = .ok (.bipush 6, 2) := by decide +kernel
theorem dX7_init_94 : decode cX7_init 94 = .ok (.bipush 30, 2) := by decide +kernel
theorem dX7_init_96 : decode cX7_init 96 = .ok (.iastore, 1) := by decide +kernel
theorem dX7_init_97 : decode cX7_init 97 = .ok (.aload_n 0, 1) := by decide +kernel
theorem dX7_init_98 : decode cX7_init 98 = .ok (.getfield 7, 3) := by decide +kernel
theorem dX7_init_101 : decode cX7_init 101 = .ok (.bipush 7, 2) := by decide +kernel
theorem dX7_init_103 : decode cX7_init 103 = .ok (.iconst 2, 1) := by decide +kernel
theorem dX7_init_104 : decode cX7_init 104 = .ok (.iastore, 1) := by decide +kernel
theorem dX7_init_105 : decode cX7_init 105 = .ok (.aload_n 0, 1) := by decide +kernel
theorem dX7_init_106 : decode cX7_init 106 = .ok (.getfield 7, 3) := by decide +kernel
theorem dX7_init_109 : decode cX7_init 109 = .ok (.bipush 8, 2) := by decide +kernel
theorem dX7_init_111 : decode cX7_init 111 = .ok (.iconst 3, 1) := by decide +kernel
theorem dX7_init_112 : decode cX7_init 112 = .ok (.iastore, 1) := by decide +kernel
theorem dX7_init_113 : decode cX7_init 113 = .ok (.iconst 0, 1) := by decide +kernel
theorem dX7_init_114 : decode cX7_init 114 = .ok (.istore_n 1, 1) := by decide +kernel
theorem dX7_init_115 : decode cX7_init 115 = .ok (.iload_n 1, 1) := by decide +kernel
theorem dX7_init_116 : decode cX7_init 116 = .ok (.bipush 6, 2) := by decide +kernel
theorem dX7_init_118 : decode cX7_init 118 = .ok (.if_icmp .ge 20, 3) := by decide +kernel
theorem dX7_init_121 : decode cX7_init 121 = .ok (.aload_n 0, 1) := by decide +kernel
theorem dX7_init_122 : decode cX7_init 122 = .ok (.getfield 7, 3) := by decide +kernel
theorem dX7_init_125 : decode cX7_init 125 = .ok (.bipush 9, 2) := by decide +kernel
theorem dX7_init_127 : decode cX7_init 127 = .ok (.iload_n 1, 1) := by decide +kernel
theorem dX7_init_128 : decode cX7_init 128 = .ok (.iadd, 1) := by decide +kernel
theorem dX7_init_129 : decode cX7_init 129 = .ok (.bipush 50, 2) := by decide +kernel
theorem dX7_init_131 : decode cX7_init 131 = .ok (.iastore, 1) := by decide +kernel
theorem dX7_init_132 : decode cX7_init 132 = .ok (.iinc 1 1, 3) := by decide +kernel
theorem dX7_init_135 : decode cX7_init 135 = .ok (.goto (-20), 3) := by decide +kernel
theorem dX7_init_138 : decode cX7_init 138 = .ok (.return_, 1) := by decide +kernel
theorem dX7_in_0 : decode cX7_in 0 = .ok (.iload_n 0, 1) := by decide +kernel
theorem dX7_in_1 : decode cX7_in 1 = .ok (.iload_n 1, 1) := by decide +kernel
theorem dX7_in_2 : decode cX7_in 2 = .ok (.if_icmp .lt 12, 3) := by decide +kernel
theorem dX7_in_5 : decode cX7_in 5 = .ok (.iload_n 0, 1) := by decide +kernel
theorem dX7_in_6 : decode cX7_in 6 = .ok (.iload_n 2, 1) := by decide +kernel
theorem dX7_in_7 : decode cX7_in 7 = .ok (.if_icmp .gt 7, 3) := by decide +kernel
theorem dX7_in_10 : decode cX7_in 10 = .ok (.iconst 1, 1) := by decide +kernel
theorem dX7_in_11 : decode cX7_in 11 = .ok (.goto 4, 3) := by decide +kernel
theorem dX7_in_14 : decode cX7_in 14 = .ok (.iconst 0, 1) := by decide +kernel
theorem dX7_in_15 : decode cX7_in 15 = .ok (.ireturn, 1) := by decide +kernel
theorem dX7_record_0 : decode cX7_record 0 = .ok (.aload_n 0, 1) := by decide +kernel
theorem dX7_record_1 : decode cX7_record 1 = .ok (.getfield 33, 3) := by decide +kernel
theorem dX7_record_4 : decode cX7_record 4 = .ok (.iconst 4, 1) := by decide +kernel
theorem dX7_record_5 : decode cX7_record 5 = .ok (.if_icmp .ne 44, 3) := by decide +kernel
theorem dX7_record_8 : decode cX7_record 8 = .ok (.iconst 0, 1) := by decide +kernel
theorem dX7_record_9 : decode cX7_record 9 = .ok (.istore_n 1, 1) := by decide +kernel
theorem dX7_record_10 : decode cX7_record 10 = .ok (.iload_n 1, 1) := by decide +kernel
theorem dX7_record_11 : decode cX7_record 11 = .ok (.sipush 1968, 3) := by decide +kernel
theorem dX7_record_14 : decode cX7_record 14 = .ok (.if_icmp .ge 25, 3) := by decide +kernel
theorem dX7_record_17 : decode cX7_record 17 = .ok (.aload_n 0, 1) := by decide +kernel
theorem dX7_record_18 : decode cX7_record 18 = .ok (.getfield 13, 3) := by decide +kernel
theorem dX7_record_21 : decode cX7_record 21 = .ok (.iload_n 1, 1) := by decide +kernel
theorem dX7_record_22 : decode cX7_record 22 = .ok (.aload_n 0, 1) := by decide +kernel
theorem dX7_record_23 : decode cX7_record 23 = .ok (.getfield 13, 3) := by decide +kernel
theorem dX7_record_26 : decode cX7_record 26 = .ok (.sipush 656, 3) := by decide +kernel
theorem dX7_record_29 : decode cX7_record 29 = .ok (.iload_n 1, 1) := by decide +kernel
theorem dX7_record_30 : decode cX7_record 30 = .ok (.iadd, 1) := by decide +kernel
theorem dX7_record_31 : decode cX7_record 31 = .ok (.iaload, 1) := by decide +kernel
theorem dX7_record_32 : decode cX7_record 32 = .ok (.iastore, 1) := by decide +kernel
theorem dX7_record_33 : decode cX7_record 33 = .ok (.iinc 1 1, 3) := by decide +kernel
theorem dX7_record_36 : decode cX7_record 36 = .ok (.goto (-26), 3) := by decide +kernel
theorem dX7_record_39 : decode cX7_record 39 = .ok (.aload_n 0, 1) := by decide +kernel
theorem dX7_record_40 : decode cX7_record 40 = .ok (.dup, 1) := by decide +kernel
theorem dX7_record_41 : decode cX7_record 41 = .ok (.getfield 33, 3) := by decide +kernel
theorem dX7_record_44 : decode cX7_record 44 = .ok (.iconst 1, 1) := by decide +kernel
theorem dX7_record_45 : decode cX7_record 45 = .ok (.isub, 1) := by decide +kernel
theorem dX7_record_46 : decode cX7_record 46 = .ok (.putfield 33, 3) := by decide +kernel
theorem dX7_record_49 : decode cX7_record 49 = .ok (.iconst 0, 1) := by decide +kernel
theorem dX7_record_50 : decode cX7_record 50 = .ok (.istore_n 1, 1) := by decide +kernel
theorem dX7_record_51 : decode cX7_record 51 = .ok (.iload_n 1, 1) := by decide +kernel
theorem dX7_record_52 : decode cX7_record 52 = .ok (.sipush 656, 3) := by decide +kernel
theorem dX7_record_55 : decode cX7_record 55 = .ok (.if_icmp .ge 30, 3) := by decide +kernel
theorem dX7_record_58 : decode cX7_record 58 = .ok (.aload_n 0, 1) := by decide +kernel
theorem dX7_record_59 : decode cX7_record 59 = .ok (.getfield 13, 3) := by decide +kernel
theorem dX7_record_62 : decode cX7_record 62 = .ok (.sipush 656, 3) := by decide +kernel
theorem dX7_record_65 : decode cX7_record 65 = .ok (.aload_n 0, 1) := by decide +kernel
theorem dX7_record_66 : decode cX7_record 66 = .ok (.getfield 33, 3) := by decide +kernel
theorem dX7_record_69 : decode cX7_record 69 = .ok (.imul, 1) := by decide +kernel
theorem dX7_record_70 : decode cX7_record 70 = .ok (.iload_n 1, 1) := by decide +kernel
theorem dX7_record_71 : decode cX7_record 71 = .ok (.iadd, 1) := by decide +kernel
theorem dX7_record_72 : decode cX7_record 72 = .ok (.aload_n 0, 1) := by decide +kernel
theorem dX7_record_73 : decode cX7_record 73 = .ok (.getfield 7, 3) := by decide +kernel
theorem dX7_record_76 : decode cX7_record 76 = .ok (.iload_n 1, 1) := by decide +kernel
theorem dX7_record_77 : decode cX7_record 77 = .ok (.iaload, 1) := by decide +kernel
theorem dX7_record_78 : decode cX7_record 78 = .ok (.iastore, 1) := by decide +kernel
theorem dX7_record_79 : decode cX7_record 79 = .ok (.iinc 1 1, 3) := by decide +kernel
theorem dX7_record_82 : decode cX7_record 82 = .ok (.goto (-31), 3) := by decide +kernel
theorem dX7_record_85 : decode cX7_record 85 = .ok (.aload_n 0, 1) := by decide +kernel
theorem dX7_record_86 : decode cX7_record 86 = .ok (.dup, 1) := by decide +kernel
theorem dX7_record_87 : decode cX7_record 87 = .ok (.getfield 33, 3) := by decide +kernel
theorem dX7_record_90 : decode cX7_record 90 = .ok (.iconst 1, 1) := by decide +kernel
theorem dX7_record_91 : decode cX7_record 91 = .ok (.iadd, 1) := by decide +kernel
theorem dX7_record_92 : decode cX7_record 92 = .ok (.putfield 33, 3) := by decide +kernel
theorem dX7_record_95 : decode cX7_record 95 = .ok (.return_, 1) := by decide +kernel
theorem dX7_p_0 : decode cX7_p 0 = .ok (.bipush 16, 2) := by decide +kernel
theorem dX7_p_2 : decode cX7_p 2 = .ok (.bipush 32, 2) := by decide +kernel
theorem dX7_p_4 : decode cX7_p 4 = .ok (.iload_n 0, 1) := by decide +kernel
theorem dX7_p_5 : decode cX7_p 5 = .ok (.imul, 1) := by decide +kernel
theorem dX7_p_6 : decode cX7_p 6 = .ok (.iadd, 1) := by decide +kernel
theorem dX7_p_7 : decode cX7_p 7 = .ok (.ireturn, 1) := by decide +kernel
theorem dX7_f_0 : decode cX7_f 0 = .ok (.bipush 16, 2) := by decide +kernel
theorem dX7_f_2 : decode cX7_f 2 = .ok (.bipush 32, 2) := by decide +kernel
theorem dX7_f_4 : decode cX7_f 4 = .ok (.iload_n 0, 1) := by decide +kernel
theorem dX7_f_5 : decode cX7_f 5 = .ok (.imul, 1) := by decide +kernel
theorem dX7_f_6 : decode cX7_f 6 = .ok (.iadd, 1) := by decide +kernel
theorem dX7_f_7 : decode cX7_f 7 = .ok (.bipush 8, 2) := by decide +kernel
theorem dX7_f_9 : decode cX7_f 9 = .ok (.iadd, 1) := by decide +kernel
theorem dX7_f_10 : decode cX7_f 10 = .ok (.iconst 3, 1) := by decide +kernel
theorem dX7_f_11 : decode cX7_f 11 = .ok (.iload_n 1, 1) := by decide +kernel
theorem dX7_f_12 : decode cX7_f 12 = .ok (.imul, 1) := by decide +kernel
theorem dX7_f_13 : decode cX7_f 13 = .ok (.iadd, 1) := by decide +kernel
theorem dX7_f_14 : decode cX7_f 14 = .ok (.ireturn, 1) := by decide +kernel
theorem dX7_of_0 : decode cX7_of 0 = .ok (.aload_n 0, 1) := by decide +kernel
theorem dX7_of_1 : decode cX7_of 1 = .ok (.getfield 7, 3) := by decide +kernel
theorem dX7_of_4 : decode cX7_of 4 = .ok (.iload_n 1, 1) := by decide +kernel
theorem dX7_of_5 : decode cX7_of 5 = .ok (.invokestatic 37, 3) := by decide +kernel
theorem dX7_of_8 : decode cX7_of 8 = .ok (.iload_n 2, 1) := by decide +kernel
theorem dX7_of_9 : decode cX7_of 9 = .ok (.iadd, 1) := by decide +kernel
theorem dX7_of_10 : decode cX7_of 10 = .ok (.iaload, 1) := by decide +kernel
theorem dX7_of_11 : decode cX7_of 11 = .ok (.ireturn, 1) := by decide +kernel
theorem dX7_isPerson_0 : decode cX7_isPerson 0 = .ok (.iload_n 1, 1) := by decide +kernel
theorem dX7_isPerson_1 : decode cX7_isPerson 1 = .ok (.iconst 0, 1) := by decide +kernel
theorem dX7_isPerson_2 : decode cX7_isPerson 2 = .ok (.aload_n 0, 1) := by decide +kernel
theorem dX7_isPerson_3 : decode cX7_isPerson 3 = .ok (.getfield 7, 3) := by decide +kernel
theorem dX7_isPerson_6 : decode cX7_isPerson 6 = .ok (.iconst 1, 1) := by decide +kernel
theorem dX7_isPerson_7 : decode cX7_isPerson 7 = .ok (.iaload, 1) := by decide +kernel
theorem dX7_isPerson_8 : decode cX7_isPerson 8 = .ok (.iconst 1, 1) := by decide +kernel
theorem dX7_isPerson_9 : decode cX7_isPerson 9 = .ok (.isub, 1) := by decide +kernel
theorem dX7_isPerson_10 : decode cX7_isPerson 10 = .ok (.invokestatic 41, 3) := by decide +kernel
theorem dX7_isPerson_13 : decode cX7_isPerson 13 = .ok (.ireturn, 1) := by decide +kernel
theorem dX7_isFact_0 : decode cX7_isFact 0 = .ok (.aload_n 0, 1) := by decide +kernel
theorem dX7_isFact_1 : decode cX7_isFact 1 = .ok (.iload_n 1, 1) := by decide +kernel
theorem dX7_isFact_2 : decode cX7_isFact 2 = .ok (.invokevirtual 45, 3) := by decide +kernel
theorem dX7_isFact_5 : decode cX7_isFact 5 = .ok (.ifCond .eq 23, 3) := by decide +kernel
theorem dX7_isFact_8 : decode cX7_isFact 8 = .ok (.iload_n 2, 1) := by decide +kernel
theorem dX7_isFact_9 : decode cX7_isFact 9 = .ok (.iconst 0, 1) := by decide +kernel
theorem dX7_isFact_10 : decode cX7_isFact 10 = .ok (.aload_n 0, 1) := by decide +kernel
theorem dX7_isFact_11 : decode cX7_isFact 11 = .ok (.iload_n 1, 1) := by decide +kernel
theorem dX7_isFact_12 : decode cX7_isFact 12 = .ok (.iconst 3, 1) := by decide +kernel
theorem dX7_isFact_13 : decode cX7_isFact 13 = .ok (.invokevirtual 49, 3) := by decide +kernel
theorem dX7_isFact_16 : decode cX7_isFact 16 = .ok (.iconst 1, 1) := by decide +kernel
theorem dX7_isFact_17 : decode cX7_isFact 17 = .ok (.isub, 1) := by decide +kernel
theorem dX7_isFact_18 : decode cX7_isFact 18 = .ok (.invokestatic 41, 3) := by decide +kernel
theorem dX7_isFact_21 : decode cX7_isFact 21 = .ok (.ifCond .eq 7, 3) := by decide +kernel
theorem dX7_isFact_24 : decode cX7_isFact 24 = .ok (.iconst 1, 1) := by decide +kernel
theorem dX7_isFact_25 : decode cX7_isFact 25 = .ok (.goto 4, 3) := by decide +kernel
theorem dX7_isFact_28 : decode cX7_isFact 28 = .ok (.iconst 0, 1) := by decide +kernel
theorem dX7_isFact_29 : decode cX7_isFact 29 = .ok (.ireturn, 1) := by decide +kernel
theorem dX7_worthOn_0 : decode cX7_worthOn 0 = .ok (.aload_n 0, 1) := by decide +kernel
theorem dX7_worthOn_1 : decode cX7_worthOn 1 = .ok (.getfield 7, 3) := by decide +kernel
theorem dX7_worthOn_4 : decode cX7_worthOn 4 = .ok (.bipush 9, 2) := by decide +kernel
theorem dX7_worthOn_6 : decode cX7_worthOn 6 = .ok (.aload_n 0, 1) := by decide +kernel
theorem dX7_worthOn_7 : decode cX7_worthOn 7 = .ok (.getfield 7, 3) := by decide +kernel
theorem dX7_worthOn_10 : decode cX7_worthOn 10 = .ok (.iload_n 1, 1) := by decide +kernel
theorem dX7_worthOn_11 : decode cX7_worthOn 11 = .ok (.iload_n 2, 1) := by decide +kernel
theorem dX7_worthOn_12 : decode cX7_worthOn 12 = .ok (.invokestatic 53, 3) := by decide +kernel
theorem dX7_worthOn_15 : decode cX7_worthOn 15 = .ok (.iaload, 1) := by decide +kernel
theorem dX7_worthOn_16 : decode cX7_worthOn 16 = .ok (.iadd, 1) := by decide +kernel
theorem dX7_worthOn_17 : decode cX7_worthOn 17 = .ok (.iaload, 1) := by decide +kernel
theorem dX7_worthOn_18 : decode cX7_worthOn 18 = .ok (.i2f, 1) := by decide +kernel
theorem dX7_worthOn_19 : decode cX7_worthOn 19 = .ok (.ldc 56, 2) := by decide +kernel
theorem dX7_worthOn_21 : decode cX7_worthOn 21 = .ok (.fdiv, 1) := by decide +kernel
theorem dX7_worthOn_22 : decode cX7_worthOn 22 = .ok (.fstore 4, 2) := by decide +kernel
theorem dX7_worthOn_24 : decode cX7_worthOn 24 = .ok (.iload_n 3, 1) := by decide +kernel
theorem dX7_worthOn_25 : decode cX7_worthOn 25 = .ok (.aload_n 0, 1) := by decide +kernel
theorem dX7_worthOn_26 : decode cX7_worthOn 26 = .ok (.getfield 7, 3) := by decide +kernel
theorem dX7_worthOn_29 : decode cX7_worthOn 29 = .ok (.iload_n 1, 1) := by decide +kernel
theorem dX7_worthOn_30 : decode cX7_worthOn 30 = .ok (.iload_n 2, 1) := by decide +kernel
theorem dX7_worthOn_31 : decode cX7_worthOn 31 = .ok (.invokestatic 53, 3) := by decide +kernel
theorem dX7_worthOn_34 : decode cX7_worthOn 34 = .ok (.iconst 2, 1) := by decide +kernel
theorem dX7_worthOn_35 : decode cX7_worthOn 35 = .ok (.iadd, 1) := by decide +kernel
theorem dX7_worthOn_36 : decode cX7_worthOn 36 = .ok (.iaload, 1) := by decide +kernel
theorem dX7_worthOn_37 : decode cX7_worthOn 37 = .ok (.isub, 1) := by decide +kernel
theorem dX7_worthOn_38 : decode cX7_worthOn 38 = .ok (.bipush 10, 2) := by decide +kernel
theorem dX7_worthOn_40 : decode cX7_worthOn 40 = .ok (.idiv, 1) := by decide +kernel
theorem dX7_worthOn_41 : decode cX7_worthOn 41 = .ok (.istore 5, 2) := by decide +kernel
theorem dX7_worthOn_43 : decode cX7_worthOn 43 = .ok (.iconst 0, 1) := by decide +kernel
theorem dX7_worthOn_44 : decode cX7_worthOn 44 = .ok (.istore 6, 2) := by decide +kernel
theorem dX7_worthOn_46 : decode cX7_worthOn 46 = .ok (.iload 6, 2) := by decide +kernel
theorem dX7_worthOn_48 : decode cX7_worthOn 48 = .ok (.iload 5, 2) := by decide +kernel
theorem dX7_worthOn_50 : decode cX7_worthOn 50 = .ok (.if_icmp .ge 16, 3) := by decide +kernel
theorem dX7_worthOn_53 : decode cX7_worthOn 53 = .ok (.fload 4, 2) := by decide +kernel
theorem dX7_worthOn_55 : decode cX7_worthOn 55 = .ok (.ldc 57, 2) := by decide +kernel
theorem dX7_worthOn_57 : decode cX7_worthOn 57 = .ok (.fmul, 1) := by decide +kernel
theorem dX7_worthOn_58 : decode cX7_worthOn 58 = .ok (.fstore 4, 2) := by decide +kernel
theorem dX7_worthOn_60 : decode cX7_worthOn 60 = .ok (.iinc 6 1, 3) := by decide +kernel
theorem dX7_worthOn_63 : decode cX7_worthOn 63 = .ok (.goto (-17), 3) := by decide +kernel
theorem dX7_worthOn_66 : decode cX7_worthOn 66 = .ok (.fload 4, 2) := by decide +kernel
theorem dX7_worthOn_68 : decode cX7_worthOn 68 = .ok (.freturn, 1) := by decide +kernel
theorem dX7_isStaleOn_0 : decode cX7_isStaleOn 0 = .ok (.aload_n 0, 1) := by decide +kernel
theorem dX7_isStaleOn_1 : decode cX7_isStaleOn 1 = .ok (.iload_n 1, 1) := by decide +kernel
theorem dX7_isStaleOn_2 : decode cX7_isStaleOn 2 = .ok (.iload_n 2, 1) := by decide +kernel
theorem dX7_isStaleOn_3 : decode cX7_isStaleOn 3 = .ok (.iload_n 3, 1) := by decide +kernel
theorem dX7_isStaleOn_4 : decode cX7_isStaleOn 4 = .ok (.invokevirtual 58, 3) := by decide +kernel
theorem dX7_isStaleOn_7 : decode cX7_isStaleOn 7 = .ok (.aload_n 0, 1) := by decide +kernel
theorem dX7_isStaleOn_8 : decode cX7_isStaleOn 8 = .ok (.getfield 7, 3) := by decide +kernel
theorem dX7_isStaleOn_11 : decode cX7_isStaleOn 11 = .ok (.bipush 6, 2) := by decide +kernel
theorem dX7_isStaleOn_13 : decode cX7_isStaleOn 13 = .ok (.iaload, 1) := by decide +kernel
theorem dX7_isStaleOn_14 : decode cX7_isStaleOn 14 = .ok (.i2f, 1) := by decide +kernel
theorem dX7_isStaleOn_15 : decode cX7_isStaleOn 15 = .ok (.ldc 56, 2) := by decide +kernel
theorem dX7_isStaleOn_17 : decode cX7_isStaleOn 17 = .ok (.fdiv, 1) := by decide +kernel
theorem dX7_isStaleOn_18 : decode cX7_isStaleOn 18 = .ok (.fcmp .g, 1) := by decide +kernel
theorem dX7_isStaleOn_19 : decode cX7_isStaleOn 19 = .ok (.ifCond .ge 7, 3) := by decide +kernel
theorem dX7_isStaleOn_22 : decode cX7_isStaleOn 22 = .ok (.iconst 1, 1) := by decide +kernel
theorem dX7_isStaleOn_23 : decode cX7_isStaleOn 23 = .ok (.goto 4, 3) := by decide +kernel
theorem dX7_isStaleOn_26 : decode cX7_isStaleOn 26 = .ok (.iconst 0, 1) := by decide +kernel
theorem dX7_isStaleOn_27 : decode cX7_isStaleOn 27 = .ok (.ireturn, 1) := by decide +kernel
theorem dX7_stale_0 : decode cX7_stale 0 = .ok (.iconst 0, 1) := by decide +kernel
theorem dX7_stale_1 : decode cX7_stale 1 = .ok (.istore_n 3, 1) := by decide +kernel
theorem dX7_stale_2 : decode cX7_stale 2 = .ok (.iconst 0, 1) := by decide +kernel
theorem dX7_stale_3 : decode cX7_stale 3 = .ok (.istore 4, 2) := by decide +kernel
theorem dX7_stale_5 : decode cX7_stale 5 = .ok (.iload 4, 2) := by decide +kernel
theorem dX7_stale_7 : decode cX7_stale 7 = .ok (.aload_n 0, 1) := by decide +kernel
theorem dX7_stale_8 : decode cX7_stale 8 = .ok (.iload_n 1, 1) := by decide +kernel
theorem dX7_stale_9 : decode cX7_stale 9 = .ok (.iconst 3, 1) := by decide +kernel
theorem dX7_stale_10 : decode cX7_stale 10 = .ok (.invokevirtual 49, 3) := by decide +kernel
theorem dX7_stale_13 : decode cX7_stale 13 = .ok (.if_icmp .ge 28, 3) := by decide +kernel
theorem dX7_stale_16 : decode cX7_stale 16 = .ok (.iload_n 3, 1) := by decide +kernel
theorem dX7_stale_17 : decode cX7_stale 17 = .ok (.aload_n 0, 1) := by decide +kernel
theorem dX7_stale_18 : decode cX7_stale 18 = .ok (.iload_n 1, 1) := by decide +kernel
theorem dX7_stale_19 : decode cX7_stale 19 = .ok (.iload 4, 2) := by decide +kernel
theorem dX7_stale_21 : decode cX7_stale 21 = .ok (.iload_n 2, 1) := by decide +kernel
theorem dX7_stale_22 : decode cX7_stale 22 = .ok (.invokevirtual 62, 3) := by decide +kernel
theorem dX7_stale_25 : decode cX7_stale 25 = .ok (.ifCond .eq 7, 3) := by decide +kernel
theorem dX7_stale_28 : decode cX7_stale 28 = .ok (.iconst 1, 1) := by decide +kernel
theorem dX7_stale_29 : decode cX7_stale 29 = .ok (.goto 4, 3) := by decide +kernel
theorem dX7_stale_32 : decode cX7_stale 32 = .ok (.iconst 0, 1) := by decide +kernel
theorem dX7_stale_33 : decode cX7_stale 33 = .ok (.iadd, 1) := by decide +kernel
theorem dX7_stale_34 : decode cX7_stale 34 = .ok (.istore_n 3, 1) := by decide +kernel
theorem dX7_stale_35 : decode cX7_stale 35 = .ok (.iinc 4 1, 3) := by decide +kernel
theorem dX7_stale_38 : decode cX7_stale 38 = .ok (.goto (-33), 3) := by decide +kernel
theorem dX7_stale_41 : decode cX7_stale 41 = .ok (.iload_n 3, 1) := by decide +kernel
theorem dX7_stale_42 : decode cX7_stale 42 = .ok (.ireturn, 1) := by decide +kernel
theorem dX7_lines_0 : decode cX7_lines 0 = .ok (.iconst 0, 1) := by decide +kernel
theorem dX7_lines_1 : decode cX7_lines 1 = .ok (.istore_n 2, 1) := by decide +kernel
theorem dX7_lines_2 : decode cX7_lines 2 = .ok (.iconst 0, 1) := by decide +kernel
theorem dX7_lines_3 : decode cX7_lines 3 = .ok (.istore_n 3, 1) := by decide +kernel
theorem dX7_lines_4 : decode cX7_lines 4 = .ok (.iload_n 3, 1) := by decide +kernel
theorem dX7_lines_5 : decode cX7_lines 5 = .ok (.aload_n 0, 1) := by decide +kernel
theorem dX7_lines_6 : decode cX7_lines 6 = .ok (.iload_n 1, 1) := by decide +kernel
theorem dX7_lines_7 : decode cX7_lines 7 = .ok (.iconst 3, 1) := by decide +kernel
theorem dX7_lines_8 : decode cX7_lines 8 = .ok (.invokevirtual 49, 3) := by decide +kernel
theorem dX7_lines_11 : decode cX7_lines 11 = .ok (.if_icmp .ge 24, 3) := by decide +kernel
theorem dX7_lines_14 : decode cX7_lines 14 = .ok (.iload_n 2, 1) := by decide +kernel
theorem dX7_lines_15 : decode cX7_lines 15 = .ok (.aload_n 0, 1) := by decide +kernel
theorem dX7_lines_16 : decode cX7_lines 16 = .ok (.getfield 7, 3) := by decide +kernel
theorem dX7_lines_19 : decode cX7_lines 19 = .ok (.iload_n 1, 1) := by decide +kernel
theorem dX7_lines_20 : decode cX7_lines 20 = .ok (.iload_n 3, 1) := by decide +kernel
theorem dX7_lines_21 : decode cX7_lines 21 = .ok (.invokestatic 53, 3) := by decide +kernel
theorem dX7_lines_24 : decode cX7_lines 24 = .ok (.iconst 1, 1) := by decide +kernel
theorem dX7_lines_25 : decode cX7_lines 25 = .ok (.iadd, 1) := by decide +kernel
theorem dX7_lines_26 : decode cX7_lines 26 = .ok (.iaload, 1) := by decide +kernel
theorem dX7_lines_27 : decode cX7_lines 27 = .ok (.iadd, 1) := by decide +kernel
theorem dX7_lines_28 : decode cX7_lines 28 = .ok (.istore_n 2, 1) := by decide +kernel
theorem dX7_lines_29 : decode cX7_lines 29 = .ok (.iinc 3 1, 3) := by decide +kernel
theorem dX7_lines_32 : decode cX7_lines 32 = .ok (.goto (-28), 3) := by decide +kernel
theorem dX7_lines_35 : decode cX7_lines 35 = .ok (.iload_n 2, 1) := by decide +kernel
theorem dX7_lines_36 : decode cX7_lines 36 = .ok (.ireturn, 1) := by decide +kernel
theorem dX7_sources_0 : decode cX7_sources 0 = .ok (.iconst 0, 1) := by decide +kernel
theorem dX7_sources_1 : decode cX7_sources 1 = .ok (.istore_n 2, 1) := by decide +kernel
theorem dX7_sources_2 : decode cX7_sources 2 = .ok (.iconst 0, 1) := by decide +kernel
theorem dX7_sources_3 : decode cX7_sources 3 = .ok (.istore_n 3, 1) := by decide +kernel
theorem dX7_sources_4 : decode cX7_sources 4 = .ok (.iload_n 3, 1) := by decide +kernel
theorem dX7_sources_5 : decode cX7_sources 5 = .ok (.aload_n 0, 1) := by decide +kernel
theorem dX7_sources_6 : decode cX7_sources 6 = .ok (.iload_n 1, 1) := by decide +kernel
theorem dX7_sources_7 : decode cX7_sources 7 = .ok (.iconst 3, 1) := by decide +kernel
theorem dX7_sources_8 : decode cX7_sources 8 = .ok (.invokevirtual 49, 3) := by decide +kernel
theorem dX7_sources_11 : decode cX7_sources 11 = .ok (.if_icmp .ge 24, 3) := by decide +kernel
theorem dX7_sources_14 : decode cX7_sources 14 = .ok (.iload_n 2, 1) := by decide +kernel
theorem dX7_sources_15 : decode cX7_sources 15 = .ok (.iconst 1, 1) := by decide +kernel
theorem dX7_sources_16 : decode cX7_sources 16 = .ok (.aload_n 0, 1) := by decide +kernel
theorem dX7_sources_17 : decode cX7_sources 17 = .ok (.getfield 7, 3) := by decide +kernel
theorem dX7_sources_20 : decode cX7_sources 20 = .ok (.iload_n 1, 1) := by decide +kernel
theorem dX7_sources_21 : decode cX7_sources 21 = .ok (.iload_n 3, 1) := by decide +kernel
theorem dX7_sources_22 : decode cX7_sources 22 = .ok (.invokestatic 53, 3) := by decide +kernel
theorem dX7_sources_25 : decode cX7_sources 25 = .ok (.iaload, 1) := by decide +kernel
theorem dX7_sources_26 : decode cX7_sources 26 = .ok (.ishl, 1) := by decide +kernel
theorem dX7_sources_27 : decode cX7_sources 27 = .ok (.ior, 1) := by decide +kernel
theorem dX7_sources_28 : decode cX7_sources 28 = .ok (.istore_n 2, 1) := by decide +kernel
theorem dX7_sources_29 : decode cX7_sources 29 = .ok (.iinc 3 1, 3) := by decide +kernel
theorem dX7_sources_32 : decode cX7_sources 32 = .ok (.goto (-28), 3) := by decide +kernel
theorem dX7_sources_35 : decode cX7_sources 35 = .ok (.iconst 0, 1) := by decide +kernel
theorem dX7_sources_36 : decode cX7_sources 36 = .ok (.istore_n 3, 1) := by decide +kernel
theorem dX7_sources_37 : decode cX7_sources 37 = .ok (.iconst 0, 1) := by decide +kernel
theorem dX7_sources_38 : decode cX7_sources 38 = .ok (.istore 4, 2) := by decide +kernel
theorem dX7_sources_40 : decode cX7_sources 40 = .ok (.iload 4, 2) := by decide +kernel
theorem dX7_sources_42 : decode cX7_sources 42 = .ok (.bipush 6, 2) := by decide +kernel
theorem dX7_sources_44 : decode cX7_sources 44 = .ok (.if_icmp .ge 18, 3) := by decide +kernel
theorem dX7_sources_47 : decode cX7_sources 47 = .ok (.iload_n 3, 1) := by decide +kernel
theorem dX7_sources_48 : decode cX7_sources 48 = .ok (.iload_n 2, 1) := by decide +kernel
theorem dX7_sources_49 : decode cX7_sources 49 = .ok (.iload 4, 2) := by decide +kernel
theorem dX7_sources_51 : decode cX7_sources 51 = .ok (.ishr, 1) := by decide +kernel
theorem dX7_sources_52 : decode cX7_sources 52 = .ok (.iconst 1, 1) := by decide +kernel
theorem dX7_sources_53 : decode cX7_sources 53 = .ok (.iand, 1) := by decide +kernel
theorem dX7_sources_54 : decode cX7_sources 54 = .ok (.iadd, 1) := by decide +kernel
theorem dX7_sources_55 : decode cX7_sources 55 = .ok (.istore_n 3, 1) := by decide +kernel
theorem dX7_sources_56 : decode cX7_sources 56 = .ok (.iinc 4 1, 3) := by decide +kernel
theorem dX7_sources_59 : decode cX7_sources 59 = .ok (.goto (-19), 3) := by decide +kernel
theorem dX7_sources_62 : decode cX7_sources 62 = .ok (.iload_n 3, 1) := by decide +kernel
theorem dX7_sources_63 : decode cX7_sources 63 = .ok (.ireturn, 1) := by decide +kernel
theorem dX7_isReady_0 : decode cX7_isReady 0 = .ok (.aload_n 0, 1) := by decide +kernel
theorem dX7_isReady_1 : decode cX7_isReady 1 = .ok (.iload_n 1, 1) := by decide +kernel
theorem dX7_isReady_2 : decode cX7_isReady 2 = .ok (.invokevirtual 65, 3) := by decide +kernel
theorem dX7_isReady_5 : decode cX7_isReady 5 = .ok (.aload_n 0, 1) := by decide +kernel
theorem dX7_isReady_6 : decode cX7_isReady 6 = .ok (.getfield 7, 3) := by decide +kernel
theorem dX7_isReady_9 : decode cX7_isReady 9 = .ok (.bipush 7, 2) := by decide +kernel
theorem dX7_isReady_11 : decode cX7_isReady 11 = .ok (.iaload, 1) := by decide +kernel
theorem dX7_isReady_12 : decode cX7_isReady 12 = .ok (.if_icmp .lt 21, 3) := by decide +kernel
theorem dX7_isReady_15 : decode cX7_isReady 15 = .ok (.aload_n 0, 1) := by decide +kernel
theorem dX7_isReady_16 : decode cX7_isReady 16 = .ok (.iload_n 1, 1) := by decide +kernel
theorem dX7_isReady_17 : decode cX7_isReady 17 = .ok (.aload_n 0, 1) := by decide +kernel
theorem dX7_isReady_18 : decode cX7_isReady 18 = .ok (.getfield 7, 3) := by decide +kernel
theorem dX7_isReady_21 : decode cX7_isReady 21 = .ok (.iconst 0, 1) := by decide +kernel
theorem dX7_isReady_22 : decode cX7_isReady 22 = .ok (.iaload, 1) := by decide +kernel
theorem dX7_isReady_23 : decode cX7_isReady 23 = .ok (.invokevirtual 68, 3) := by decide +kernel
theorem dX7_isReady_26 : decode cX7_isReady 26 = .ok (.ifCond .ne 7, 3) := by decide +kernel
theorem dX7_isReady_29 : decode cX7_isReady 29 = .ok (.iconst 1, 1) := by decide +kernel
theorem dX7_isReady_30 : decode cX7_isReady 30 = .ok (.goto 4, 3) := by decide +kernel
theorem dX7_isReady_33 : decode cX7_isReady 33 = .ok (.iconst 0, 1) := by decide +kernel
theorem dX7_isReady_34 : decode cX7_isReady 34 = .ok (.ireturn, 1) := by decide +kernel
theorem dX7_urgency_0 : decode cX7_urgency 0 = .ok (.aload_n 0, 1) := by decide +kernel
theorem dX7_urgency_1 : decode cX7_urgency 1 = .ok (.iload_n 1, 1) := by decide +kernel
theorem dX7_urgency_2 : decode cX7_urgency 2 = .ok (.iconst 0, 1) := by decide +kernel
theorem dX7_urgency_3 : decode cX7_urgency 3 = .ok (.invokevirtual 49, 3) := by decide +kernel
theorem dX7_urgency_6 : decode cX7_urgency 6 = .ok (.bipush 10, 2) := by decide +kernel
theorem dX7_urgency_8 : decode cX7_urgency 8 = .ok (.aload_n 0, 1) := by decide +kernel
theorem dX7_urgency_9 : decode cX7_urgency 9 = .ok (.iload_n 1, 1) := by decide +kernel
theorem dX7_urgency_10 : decode cX7_urgency 10 = .ok (.iconst 1, 1) := by decide +kernel
theorem dX7_urgency_11 : decode cX7_urgency 11 = .ok (.invokevirtual 49, 3) := by decide +kernel
theorem dX7_urgency_14 : decode cX7_urgency 14 = .ok (.imul, 1) := by decide +kernel
theorem dX7_urgency_15 : decode cX7_urgency 15 = .ok (.iadd, 1) := by decide +kernel
theorem dX7_urgency_16 : decode cX7_urgency 16 = .ok (.iconst 5, 1) := by decide +kernel
theorem dX7_urgency_17 : decode cX7_urgency 17 = .ok (.aload_n 0, 1) := by decide +kernel
theorem dX7_urgency_18 : decode cX7_urgency 18 = .ok (.iload_n 1, 1) := by decide +kernel
theorem dX7_urgency_19 : decode cX7_urgency 19 = .ok (.aload_n 0, 1) := by decide +kernel
theorem dX7_urgency_20 : decode cX7_urgency 20 = .ok (.getfield 7, 3) := by decide +kernel
theorem dX7_urgency_23 : decode cX7_urgency 23 = .ok (.iconst 0, 1) := by decide +kernel
theorem dX7_urgency_24 : decode cX7_urgency 24 = .ok (.iaload, 1) := by decide +kernel
theorem dX7_urgency_25 : decode cX7_urgency 25 = .ok (.invokevirtual 68, 3) := by decide +kernel
theorem dX7_urgency_28 : decode cX7_urgency 28 = .ok (.imul, 1) := by decide +kernel
theorem dX7_urgency_29 : decode cX7_urgency 29 = .ok (.iadd, 1) := by decide +kernel
theorem dX7_urgency_30 : decode cX7_urgency 30 = .ok (.aload_n 0, 1) := by decide +kernel
theorem dX7_urgency_31 : decode cX7_urgency 31 = .ok (.iload_n 1, 1) := by decide +kernel
theorem dX7_urgency_32 : decode cX7_urgency 32 = .ok (.iconst 3, 1) := by decide +kernel
theorem dX7_urgency_33 : decode cX7_urgency 33 = .ok (.invokevirtual 49, 3) := by decide +kernel
theorem dX7_urgency_36 : decode cX7_urgency 36 = .ok (.ifCond .ne 8, 3) := by decide +kernel
theorem dX7_urgency_39 : decode cX7_urgency 39 = .ok (.bipush 40, 2) := by decide +kernel
theorem dX7_urgency_41 : decode cX7_urgency 41 = .ok (.goto 4, 3) := by decide +kernel
theorem dX7_urgency_44 : decode cX7_urgency 44 = .ok (.iconst 0, 1) := by decide +kernel
theorem dX7_urgency_45 : decode cX7_urgency 45 = .ok (.iadd, 1) := by decide +kernel
theorem dX7_urgency_46 : decode cX7_urgency 46 = .ok (.ireturn, 1) := by decide +kernel
theorem dX7_come_0 : decode cX7_come 0 = .ok (.aload_n 0, 1) := by decide +kernel
theorem dX7_come_1 : decode cX7_come 1 = .ok (.getfield 7, 3) := by decide +kernel
theorem dX7_come_4 : decode cX7_come 4 = .ok (.iconst 1, 1) := by decide +kernel
theorem dX7_come_5 : decode cX7_come 5 = .ok (.iaload, 1) := by decide +kernel
theorem dX7_come_6 : decode cX7_come 6 = .ok (.invokestatic 37, 3) := by decide +kernel
theorem dX7_come_9 : decode cX7_come 9 = .ok (.istore_n 3, 1) := by decide +kernel
theorem dX7_come_10 : decode cX7_come 10 = .ok (.aload_n 0, 1) := by decide +kernel
theorem dX7_come_11 : decode cX7_come 11 = .ok (.getfield 7, 3) := by decide +kernel
theorem dX7_come_14 : decode cX7_come 14 = .ok (.iload_n 3, 1) := by decide +kernel
theorem dX7_come_15 : decode cX7_come 15 = .ok (.iconst 0, 1) := by decide +kernel
theorem dX7_come_16 : decode cX7_come 16 = .ok (.iadd, 1) := by decide +kernel
theorem dX7_come_17 : decode cX7_come 17 = .ok (.iload_n 1, 1) := by decide +kernel
theorem dX7_come_18 : decode cX7_come 18 = .ok (.iastore, 1) := by decide +kernel
theorem dX7_come_19 : decode cX7_come 19 = .ok (.aload_n 0, 1) := by decide +kernel
theorem dX7_come_20 : decode cX7_come 20 = .ok (.getfield 7, 3) := by decide +kernel
theorem dX7_come_23 : decode cX7_come 23 = .ok (.iload_n 3, 1) := by decide +kernel
theorem dX7_come_24 : decode cX7_come 24 = .ok (.iconst 1, 1) := by decide +kernel
theorem dX7_come_25 : decode cX7_come 25 = .ok (.iadd, 1) := by decide +kernel
theorem dX7_come_26 : decode cX7_come 26 = .ok (.iload_n 2, 1) := by decide +kernel
theorem dX7_come_27 : decode cX7_come 27 = .ok (.iastore, 1) := by decide +kernel
theorem dX7_come_28 : decode cX7_come 28 = .ok (.aload_n 0, 1) := by decide +kernel
theorem dX7_come_29 : decode cX7_come 29 = .ok (.getfield 7, 3) := by decide +kernel
theorem dX7_come_32 : decode cX7_come 32 = .ok (.iload_n 3, 1) := by decide +kernel
theorem dX7_come_33 : decode cX7_come 33 = .ok (.bipush 6, 2) := by decide +kernel
theorem dX7_come_35 : decode cX7_come 35 = .ok (.iadd, 1) := by decide +kernel
theorem dX7_come_36 : decode cX7_come 36 = .ok (.bipush (-5), 2) := by decide +kernel
theorem dX7_come_38 : decode cX7_come 38 = .ok (.iastore, 1) := by decide +kernel
theorem dX7_come_39 : decode cX7_come 39 = .ok (.aload_n 0, 1) := by decide +kernel
theorem dX7_come_40 : decode cX7_come 40 = .ok (.getfield 7, 3) := by decide +kernel
theorem dX7_come_43 : decode cX7_come 43 = .ok (.iconst 1, 1) := by decide +kernel
theorem dX7_come_44 : decode cX7_come 44 = .ok (.dup2, 1) := by decide +kernel
theorem dX7_come_45 : decode cX7_come 45 = .ok (.iaload, 1) := by decide +kernel
theorem dX7_come_46 : decode cX7_come 46 = .ok (.iconst 1, 1) := by decide +kernel
theorem dX7_come_47 : decode cX7_come 47 = .ok (.iadd, 1) := by decide +kernel
theorem dX7_come_48 : decode cX7_come 48 = .ok (.iastore, 1) := by decide +kernel
theorem dX7_come_49 : decode cX7_come 49 = .ok (.aload_n 0, 1) := by decide +kernel
theorem dX7_come_50 : decode cX7_come 50 = .ok (.getfield 7, 3) := by decide +kernel
theorem dX7_come_53 : decode cX7_come 53 = .ok (.iconst 1, 1) := by decide +kernel
theorem dX7_come_54 : decode cX7_come 54 = .ok (.iaload, 1) := by decide +kernel
theorem dX7_come_55 : decode cX7_come 55 = .ok (.iconst 1, 1) := by decide +kernel
theorem dX7_come_56 : decode cX7_come 56 = .ok (.isub, 1) := by decide +kernel
theorem dX7_come_57 : decode cX7_come 57 = .ok (.ireturn, 1) := by decide +kernel
theorem dX7_add_0 : decode cX7_add 0 = .ok (.iload_n 1, 1) := by decide +kernel
theorem dX7_add_1 : decode cX7_add 1 = .ok (.aload_n 0, 1) := by decide +kernel
theorem dX7_add_2 : decode cX7_add 2 = .ok (.iload_n 1, 1) := by decide +kernel
theorem dX7_add_3 : decode cX7_add 3 = .ok (.iconst 3, 1) := by decide +kernel
theorem dX7_add_4 : decode cX7_add 4 = .ok (.invokevirtual 49, 3) := by decide +kernel
theorem dX7_add_7 : decode cX7_add 7 = .ok (.invokestatic 53, 3) := by decide +kernel
theorem dX7_add_10 : decode cX7_add 10 = .ok (.istore 4, 2) := by decide +kernel
theorem dX7_add_12 : decode cX7_add 12 = .ok (.aload_n 0, 1) := by decide +kernel
theorem dX7_add_13 : decode cX7_add 13 = .ok (.getfield 7, 3) := by decide +kernel
theorem dX7_add_16 : decode cX7_add 16 = .ok (.iload 4, 2) := by decide +kernel
theorem dX7_add_18 : decode cX7_add 18 = .ok (.iload_n 2, 1) := by decide +kernel
theorem dX7_add_19 : decode cX7_add 19 = .ok (.iastore, 1) := by decide +kernel
theorem dX7_add_20 : decode cX7_add 20 = .ok (.aload_n 0, 1) := by decide +kernel
theorem dX7_add_21 : decode cX7_add 21 = .ok (.getfield 7, 3) := by decide +kernel
theorem dX7_add_24 : decode cX7_add 24 = .ok (.iload 4, 2) := by decide +kernel
theorem dX7_add_26 : decode cX7_add 26 = .ok (.iconst 1, 1) := by decide +kernel
theorem dX7_add_27 : decode cX7_add 27 = .ok (.iadd, 1) := by decide +kernel
theorem dX7_add_28 : decode cX7_add 28 = .ok (.iload_n 3, 1) := by decide +kernel
theorem dX7_add_29 : decode cX7_add 29 = .ok (.iastore, 1) := by decide +kernel
theorem dX7_add_30 : decode cX7_add 30 = .ok (.aload_n 0, 1) := by decide +kernel
theorem dX7_add_31 : decode cX7_add 31 = .ok (.getfield 7, 3) := by decide +kernel
theorem dX7_add_34 : decode cX7_add 34 = .ok (.iload 4, 2) := by decide +kernel
theorem dX7_add_36 : decode cX7_add 36 = .ok (.iconst 2, 1) := by decide +kernel
theorem dX7_add_37 : decode cX7_add 37 = .ok (.iadd, 1) := by decide +kernel
theorem dX7_add_38 : decode cX7_add 38 = .ok (.aload_n 0, 1) := by decide +kernel
theorem dX7_add_39 : decode cX7_add 39 = .ok (.getfield 7, 3) := by decide +kernel
theorem dX7_add_42 : decode cX7_add 42 = .ok (.iconst 0, 1) := by decide +kernel
theorem dX7_add_43 : decode cX7_add 43 = .ok (.iaload, 1) := by decide +kernel
theorem dX7_add_44 : decode cX7_add 44 = .ok (.iastore, 1) := by decide +kernel
theorem dX7_add_45 : decode cX7_add 45 = .ok (.aload_n 0, 1) := by decide +kernel
theorem dX7_add_46 : decode cX7_add 46 = .ok (.getfield 7, 3) := by decide +kernel
theorem dX7_add_49 : decode cX7_add 49 = .ok (.iload_n 1, 1) := by decide +kernel
theorem dX7_add_50 : decode cX7_add 50 = .ok (.invokestatic 37, 3) := by decide +kernel
theorem dX7_add_53 : decode cX7_add 53 = .ok (.iconst 3, 1) := by decide +kernel
theorem dX7_add_54 : decode cX7_add 54 = .ok (.iadd, 1) := by decide +kernel
theorem dX7_add_55 : decode cX7_add 55 = .ok (.dup2, 1) := by decide +kernel
theorem dX7_add_56 : decode cX7_add 56 = .ok (.iaload, 1) := by decide +kernel
theorem dX7_add_57 : decode cX7_add 57 = .ok (.iconst 1, 1) := by decide +kernel
theorem dX7_add_58 : decode cX7_add 58 = .ok (.iadd, 1) := by decide +kernel
theorem dX7_add_59 : decode cX7_add 59 = .ok (.iastore, 1) := by decide +kernel
theorem dX7_add_60 : decode cX7_add 60 = .ok (.return_, 1) := by decide +kernel
theorem dX7_addPerson_0 : decode cX7_addPerson 0 = .ok (.iload_n 1, 1) := by decide +kernel
theorem dX7_addPerson_1 : decode cX7_addPerson 1 = .ok (.iconst 0, 1) := by decide +kernel
theorem dX7_addPerson_2 : decode cX7_addPerson 2 = .ok (.bipush 110, 2) := by decide +kernel
theorem dX7_addPerson_4 : decode cX7_addPerson 4 = .ok (.invokestatic 41, 3) := by decide +kernel
theorem dX7_addPerson_7 : decode cX7_addPerson 7 = .ok (.ifCond .eq 13, 3) := by decide +kernel
theorem dX7_addPerson_10 : decode cX7_addPerson 10 = .ok (.iload_n 2, 1) := by decide +kernel
theorem dX7_addPerson_11 : decode cX7_addPerson 11 = .ok (.iconst 1, 1) := by decide +kernel
theorem dX7_addPerson_12 : decode cX7_addPerson 12 = .ok (.bipush 9, 2) := by decide +kernel
theorem dX7_addPerson_14 : decode cX7_addPerson 14 = .ok (.invokestatic 41, 3) := by decide +kernel
theorem dX7_addPerson_17 : decode cX7_addPerson 17 = .ok (.ifCond .ne 6, 3) := by decide +kernel
theorem dX7_addPerson_20 : decode cX7_addPerson 20 = .ok (.bipush (-2), 2) := by decide +kernel
theorem dX7_addPerson_22 : decode cX7_addPerson 22 = .ok (.ireturn, 1) := by decide +kernel
theorem dX7_addPerson_23 : decode cX7_addPerson 23 = .ok (.aload_n 0, 1) := by decide +kernel
theorem dX7_addPerson_24 : decode cX7_addPerson 24 = .ok (.getfield 7, 3) := by decide +kernel
theorem dX7_addPerson_27 : decode cX7_addPerson 27 = .ok (.iconst 1, 1) := by decide +kernel
theorem dX7_addPerson_28 : decode cX7_addPerson 28 = .ok (.iaload, 1) := by decide +kernel
theorem dX7_addPerson_29 : decode cX7_addPerson 29 = .ok (.bipush 20, 2) := by decide +kernel
theorem dX7_addPerson_31 : decode cX7_addPerson 31 = .ok (.if_icmp .ne 6, 3) := by decide +kernel
theorem dX7_addPerson_34 : decode cX7_addPerson 34 = .ok (.bipush (-3), 2) := by decide +kernel
theorem dX7_addPerson_36 : decode cX7_addPerson 36 = .ok (.ireturn, 1) := by decide +kernel
theorem dX7_addPerson_37 : decode cX7_addPerson 37 = .ok (.aload_n 0, 1) := by decide +kernel
theorem dX7_addPerson_38 : decode cX7_addPerson 38 = .ok (.invokevirtual 71, 3) := by decide +kernel
theorem dX7_addPerson_41 : decode cX7_addPerson 41 = .ok (.aload_n 0, 1) := by decide +kernel
theorem dX7_addPerson_42 : decode cX7_addPerson 42 = .ok (.iload_n 1, 1) := by decide +kernel
theorem dX7_addPerson_43 : decode cX7_addPerson 43 = .ok (.iload_n 2, 1) := by decide +kernel
theorem dX7_addPerson_44 : decode cX7_addPerson 44 = .ok (.invokevirtual 74, 3) := by decide +kernel
theorem dX7_addPerson_47 : decode cX7_addPerson 47 = .ok (.ireturn, 1) := by decide +kernel
theorem dX7_isSign_0 : decode cX7_isSign 0 = .ok (.iload_n 1, 1) := by decide +kernel
theorem dX7_isSign_1 : decode cX7_isSign 1 = .ok (.aload_n 0, 1) := by decide +kernel
theorem dX7_isSign_2 : decode cX7_isSign 2 = .ok (.getfield 77, 3) := by decide +kernel
theorem dX7_isSign_5 : decode cX7_isSign 5 = .ok (.if_icmp .ge 27, 3) := by decide +kernel
theorem dX7_isSign_8 : decode cX7_isSign 8 = .ok (.aload_n 0, 1) := by decide +kernel
theorem dX7_isSign_9 : decode cX7_isSign 9 = .ok (.getfield 26, 3) := by decide +kernel
theorem dX7_isSign_12 : decode cX7_isSign 12 = .ok (.iload_n 1, 1) := by decide +kernel
theorem dX7_isSign_13 : decode cX7_isSign 13 = .ok (.caload, 1) := by decide +kernel
theorem dX7_isSign_14 : decode cX7_isSign 14 = .ok (.iload_n 2, 1) := by decide +kernel
theorem dX7_isSign_15 : decode cX7_isSign 15 = .ok (.if_icmp .lt 17, 3) := by decide +kernel
theorem dX7_isSign_18 : decode cX7_isSign 18 = .ok (.aload_n 0, 1) := by decide +kernel
theorem dX7_isSign_19 : decode cX7_isSign 19 = .ok (.getfield 26, 3) := by decide +kernel
theorem dX7_isSign_22 : decode cX7_isSign 22 = .ok (.iload_n 1, 1) := by decide +kernel
theorem dX7_isSign_23 : decode cX7_isSign 23 = .ok (.caload, 1) := by decide +kernel
theorem dX7_isSign_24 : decode cX7_isSign 24 = .ok (.iload_n 3, 1) := by decide +kernel
theorem dX7_isSign_25 : decode cX7_isSign 25 = .ok (.if_icmp .gt 7, 3) := by decide +kernel
theorem dX7_isSign_28 : decode cX7_isSign 28 = .ok (.iconst 1, 1) := by decide +kernel
theorem dX7_isSign_29 : decode cX7_isSign 29 = .ok (.goto 4, 3) := by decide +kernel
theorem dX7_isSign_32 : decode cX7_isSign 32 = .ok (.iconst 0, 1) := by decide +kernel
theorem dX7_isSign_33 : decode cX7_isSign 33 = .ok (.ireturn, 1) := by decide +kernel
theorem dX7_accepts_0 : decode cX7_accepts 0 = .ok (.aload_n 0, 1) := by decide +kernel
theorem dX7_accepts_1 : decode cX7_accepts 1 = .ok (.aload_n 0, 1) := by decide +kernel
theorem dX7_accepts_2 : decode cX7_accepts 2 = .ok (.getfield 80, 3) := by decide +kernel
theorem dX7_accepts_5 : decode cX7_accepts 5 = .ok (.iload_n 1, 1) := by decide +kernel
theorem dX7_accepts_6 : decode cX7_accepts 6 = .ok (.iload_n 1, 1) := by decide +kernel
theorem dX7_accepts_7 : decode cX7_accepts 7 = .ok (.invokevirtual 83, 3) := by decide +kernel
theorem dX7_accepts_10 : decode cX7_accepts 10 = .ok (.istore_n 2, 1) := by decide +kernel
theorem dX7_accepts_11 : decode cX7_accepts 11 = .ok (.aload_n 0, 1) := by decide +kernel
theorem dX7_accepts_12 : decode cX7_accepts 12 = .ok (.dup, 1) := by decide +kernel
theorem dX7_accepts_13 : decode cX7_accepts 13 = .ok (.getfield 80, 3) := by decide +kernel
theorem dX7_accepts_16 : decode cX7_accepts 16 = .ok (.iload_n 2, 1) := by decide +kernel
theorem dX7_accepts_17 : decode cX7_accepts 17 = .ok (.ifCond .eq 7, 3) := by decide +kernel
theorem dX7_accepts_20 : decode cX7_accepts 20 = .ok (.iconst 1, 1) := by decide +kernel
theorem dX7_accepts_21 : decode cX7_accepts 21 = .ok (.goto 4, 3) := by decide +kernel
theorem dX7_accepts_24 : decode cX7_accepts 24 = .ok (.iconst 0, 1) := by decide +kernel
theorem dX7_accepts_25 : decode cX7_accepts 25 = .ok (.iadd, 1) := by decide +kernel
theorem dX7_accepts_26 : decode cX7_accepts 26 = .ok (.putfield 80, 3) := by decide +kernel
theorem dX7_accepts_29 : decode cX7_accepts 29 = .ok (.iload_n 2, 1) := by decide +kernel
theorem dX7_accepts_30 : decode cX7_accepts 30 = .ok (.ireturn, 1) := by decide +kernel
theorem dX7_digit_0 : decode cX7_digit 0 = .ok (.aload_n 0, 1) := by decide +kernel
theorem dX7_digit_1 : decode cX7_digit 1 = .ok (.aload_n 0, 1) := by decide +kernel
theorem dX7_digit_2 : decode cX7_digit 2 = .ok (.getfield 80, 3) := by decide +kernel
theorem dX7_digit_5 : decode cX7_digit 5 = .ok (.iload_n 1, 1) := by decide +kernel
theorem dX7_digit_6 : decode cX7_digit 6 = .ok (.iload_n 2, 1) := by decide +kernel
theorem dX7_digit_7 : decode cX7_digit 7 = .ok (.invokevirtual 83, 3) := by decide +kernel
theorem dX7_digit_10 : decode cX7_digit 10 = .ok (.ifCond .ne 5, 3) := by decide +kernel
theorem dX7_digit_13 : decode cX7_digit 13 = .ok (.iconst (-1), 1) := by decide +kernel
theorem dX7_digit_14 : decode cX7_digit 14 = .ok (.ireturn, 1) := by decide +kernel
theorem dX7_digit_15 : decode cX7_digit 15 = .ok (.aload_n 0, 1) := by decide +kernel
theorem dX7_digit_16 : decode cX7_digit 16 = .ok (.dup, 1) := by decide +kernel
theorem dX7_digit_17 : decode cX7_digit 17 = .ok (.getfield 80, 3) := by decide +kernel
theorem dX7_digit_20 : decode cX7_digit 20 = .ok (.iconst 1, 1) := by decide +kernel
theorem dX7_digit_21 : decode cX7_digit 21 = .ok (.iadd, 1) := by decide +kernel
theorem dX7_digit_22 : decode cX7_digit 22 = .ok (.putfield 80, 3) := by decide +kernel
theorem dX7_digit_25 : decode cX7_digit 25 = .ok (.aload_n 0, 1) := by decide +kernel
theorem dX7_digit_26 : decode cX7_digit 26 = .ok (.getfield 26, 3) := by decide +kernel
theorem dX7_digit_29 : decode cX7_digit 29 = .ok (.aload_n 0, 1) := by decide +kernel
theorem dX7_digit_30 : decode cX7_digit 30 = .ok (.getfield 80, 3) := by decide +kernel
theorem dX7_digit_33 : decode cX7_digit 33 = .ok (.iconst 1, 1) := by decide +kernel
theorem dX7_digit_34 : decode cX7_digit 34 = .ok (.isub, 1) := by decide +kernel
theorem dX7_digit_35 : decode cX7_digit 35 = .ok (.caload, 1) := by decide +kernel
theorem dX7_digit_36 : decode cX7_digit 36 = .ok (.bipush 48, 2) := by decide +kernel
theorem dX7_digit_38 : decode cX7_digit 38 = .ok (.isub, 1) := by decide +kernel
theorem dX7_digit_39 : decode cX7_digit 39 = .ok (.ireturn, 1) := by decide +kernel
theorem dX7_age_0 : decode cX7_age 0 = .ok (.aload_n 0, 1) := by decide +kernel
theorem dX7_age_1 : decode cX7_age 1 = .ok (.bipush 48, 2) := by decide +kernel
theorem dX7_age_3 : decode cX7_age 3 = .ok (.bipush 57, 2) := by decide +kernel
theorem dX7_age_5 : decode cX7_age 5 = .ok (.invokevirtual 87, 3) := by decide +kernel
theorem dX7_age_8 : decode cX7_age 8 = .ok (.istore_n 1, 1) := by decide +kernel
theorem dX7_age_9 : decode cX7_age 9 = .ok (.iload_n 1, 1) := by decide +kernel
theorem dX7_age_10 : decode cX7_age 10 = .ok (.ifCond .le 71, 3) := by decide +kernel
theorem dX7_age_13 : decode cX7_age 13 = .ok (.aload_n 0, 1) := by decide +kernel
theorem dX7_age_14 : decode cX7_age 14 = .ok (.aload_n 0, 1) := by decide +kernel
theorem dX7_age_15 : decode cX7_age 15 = .ok (.getfield 80, 3) := by decide +kernel
theorem dX7_age_18 : decode cX7_age 18 = .ok (.bipush 48, 2) := by decide +kernel
theorem dX7_age_20 : decode cX7_age 20 = .ok (.bipush 57, 2) := by decide +kernel
theorem dX7_age_22 : decode cX7_age 22 = .ok (.invokevirtual 83, 3) := by decide +kernel
theorem dX7_age_25 : decode cX7_age 25 = .ok (.ifCond .eq 56, 3) := by decide +kernel
theorem dX7_age_28 : decode cX7_age 28 = .ok (.bipush 10, 2) := by decide +kernel
theorem dX7_age_30 : decode cX7_age 30 = .ok (.iload_n 1, 1) := by decide +kernel
theorem dX7_age_31 : decode cX7_age 31 = .ok (.imul, 1) := by decide +kernel
theorem dX7_age_32 : decode cX7_age 32 = .ok (.aload_n 0, 1) := by decide +kernel
theorem dX7_age_33 : decode cX7_age 33 = .ok (.getfield 26, 3) := by decide +kernel
theorem dX7_age_36 : decode cX7_age 36 = .ok (.aload_n 0, 1) := by decide +kernel
theorem dX7_age_37 : decode cX7_age 37 = .ok (.getfield 80, 3) := by decide +kernel
theorem dX7_age_40 : decode cX7_age 40 = .ok (.caload, 1) := by decide +kernel
theorem dX7_age_41 : decode cX7_age 41 = .ok (.iadd, 1) := by decide +kernel
theorem dX7_age_42 : decode cX7_age 42 = .ok (.bipush 48, 2) := by decide +kernel
theorem dX7_age_44 : decode cX7_age 44 = .ok (.isub, 1) := by decide +kernel
theorem dX7_age_45 : decode cX7_age 45 = .ok (.bipush 110, 2) := by decide +kernel
theorem dX7_age_47 : decode cX7_age 47 = .ok (.if_icmp .gt 34, 3) := by decide +kernel
theorem dX7_age_50 : decode cX7_age 50 = .ok (.bipush 10, 2) := by decide +kernel
theorem dX7_age_52 : decode cX7_age 52 = .ok (.iload_n 1, 1) := by decide +kernel
theorem dX7_age_53 : decode cX7_age 53 = .ok (.imul, 1) := by decide +kernel
theorem dX7_age_54 : decode cX7_age 54 = .ok (.aload_n 0, 1) := by decide +kernel
theorem dX7_age_55 : decode cX7_age 55 = .ok (.getfield 26, 3) := by decide +kernel
theorem dX7_age_58 : decode cX7_age 58 = .ok (.aload_n 0, 1) := by decide +kernel
theorem dX7_age_59 : decode cX7_age 59 = .ok (.getfield 80, 3) := by decide +kernel
theorem dX7_age_62 : decode cX7_age 62 = .ok (.caload, 1) := by decide +kernel
theorem dX7_age_63 : decode cX7_age 63 = .ok (.iadd, 1) := by decide +kernel
theorem dX7_age_64 : decode cX7_age 64 = .ok (.bipush 48, 2) := by decide +kernel
theorem dX7_age_66 : decode cX7_age 66 = .ok (.isub, 1) := by decide +kernel
theorem dX7_age_67 : decode cX7_age 67 = .ok (.istore_n 1, 1) := by decide +kernel
theorem dX7_age_68 : decode cX7_age 68 = .ok (.aload_n 0, 1) := by decide +kernel
theorem dX7_age_69 : decode cX7_age 69 = .ok (.dup, 1) := by decide +kernel
theorem dX7_age_70 : decode cX7_age 70 = .ok (.getfield 80, 3) := by decide +kernel
theorem dX7_age_73 : decode cX7_age 73 = .ok (.iconst 1, 1) := by decide +kernel
theorem dX7_age_74 : decode cX7_age 74 = .ok (.iadd, 1) := by decide +kernel
theorem dX7_age_75 : decode cX7_age 75 = .ok (.putfield 80, 3) := by decide +kernel
theorem dX7_age_78 : decode cX7_age 78 = .ok (.goto (-69), 3) := by decide +kernel
theorem dX7_age_81 : decode cX7_age 81 = .ok (.iload_n 1, 1) := by decide +kernel
theorem dX7_age_82 : decode cX7_age 82 = .ok (.ireturn, 1) := by decide +kernel
theorem dX7_readsFact_0 : decode cX7_readsFact 0 = .ok (.iload_n 1, 1) := by decide +kernel
theorem dX7_readsFact_1 : decode cX7_readsFact 1 = .ok (.iconst 3, 1) := by decide +kernel
theorem dX7_readsFact_2 : decode cX7_readsFact 2 = .ok (.iadd, 1) := by decide +kernel
theorem dX7_readsFact_3 : decode cX7_readsFact 3 = .ok (.iconst 2, 1) := by decide +kernel
theorem dX7_readsFact_4 : decode cX7_readsFact 4 = .ok (.aload_n 0, 1) := by decide +kernel
theorem dX7_readsFact_5 : decode cX7_readsFact 5 = .ok (.getfield 30, 3) := by decide +kernel
theorem dX7_readsFact_8 : decode cX7_readsFact 8 = .ok (.iload_n 1, 1) := by decide +kernel
theorem dX7_readsFact_9 : decode cX7_readsFact 9 = .ok (.iconst 2, 1) := by decide +kernel
theorem dX7_readsFact_10 : decode cX7_readsFact 10 = .ok (.iadd, 1) := by decide +kernel
theorem dX7_readsFact_11 : decode cX7_readsFact 11 = .ok (.iaload, 1) := by decide +kernel
theorem dX7_readsFact_12 : decode cX7_readsFact 12 = .ok (.imul, 1) := by decide +kernel
theorem dX7_readsFact_13 : decode cX7_readsFact 13 = .ok (.iadd, 1) := by decide +kernel
theorem dX7_readsFact_14 : decode cX7_readsFact 14 = .ok (.istore_n 2, 1) := by decide +kernel
theorem dX7_readsFact_15 : decode cX7_readsFact 15 = .ok (.aload_n 0, 1) := by decide +kernel
theorem dX7_readsFact_16 : decode cX7_readsFact 16 = .ok (.getfield 30, 3) := by decide +kernel
theorem dX7_readsFact_19 : decode cX7_readsFact 19 = .ok (.iload_n 2, 1) := by decide +kernel
theorem dX7_readsFact_20 : decode cX7_readsFact 20 = .ok (.aload_n 0, 1) := by decide +kernel
theorem dX7_readsFact_21 : decode cX7_readsFact 21 = .ok (.bipush 48, 2) := by decide +kernel
theorem dX7_readsFact_23 : decode cX7_readsFact 23 = .ok (.bipush 53, 2) := by decide +kernel
theorem dX7_readsFact_25 : decode cX7_readsFact 25 = .ok (.invokevirtual 87, 3) := by decide +kernel
theorem dX7_readsFact_28 : decode cX7_readsFact 28 = .ok (.iastore, 1) := by decide +kernel
theorem dX7_readsFact_29 : decode cX7_readsFact 29 = .ok (.aload_n 0, 1) := by decide +kernel
theorem dX7_readsFact_30 : decode cX7_readsFact 30 = .ok (.getfield 30, 3) := by decide +kernel
theorem dX7_readsFact_33 : decode cX7_readsFact 33 = .ok (.iload_n 2, 1) := by decide +kernel
theorem dX7_readsFact_34 : decode cX7_readsFact 34 = .ok (.iaload, 1) := by decide +kernel
theorem dX7_readsFact_35 : decode cX7_readsFact 35 = .ok (.ifCond .lt 12, 3) := by decide +kernel
theorem dX7_readsFact_38 : decode cX7_readsFact 38 = .ok (.aload_n 0, 1) := by decide +kernel
theorem dX7_readsFact_39 : decode cX7_readsFact 39 = .ok (.bipush 120, 2) := by decide +kernel
theorem dX7_readsFact_41 : decode cX7_readsFact 41 = .ok (.invokevirtual 91, 3) := by decide +kernel
theorem dX7_readsFact_44 : decode cX7_readsFact 44 = .ok (.ifCond .ne 5, 3) := by decide +kernel
theorem dX7_readsFact_47 : decode cX7_readsFact 47 = .ok (.iconst 0, 1) := by decide +kernel
theorem dX7_readsFact_48 : decode cX7_readsFact 48 = .ok (.ireturn, 1) := by decide +kernel
theorem dX7_readsFact_49 : decode cX7_readsFact 49 = .ok (.aload_n 0, 1) := by decide +kernel
theorem dX7_readsFact_50 : decode cX7_readsFact 50 = .ok (.getfield 30, 3) := by decide +kernel
theorem dX7_readsFact_53 : decode cX7_readsFact 53 = .ok (.iload_n 2, 1) := by decide +kernel
theorem dX7_readsFact_54 : decode cX7_readsFact 54 = .ok (.iconst 1, 1) := by decide +kernel
theorem dX7_readsFact_55 : decode cX7_readsFact 55 = .ok (.iadd, 1) := by decide +kernel
theorem dX7_readsFact_56 : decode cX7_readsFact 56 = .ok (.aload_n 0, 1) := by decide +kernel
theorem dX7_readsFact_57 : decode cX7_readsFact 57 = .ok (.bipush 49, 2) := by decide +kernel
theorem dX7_readsFact_59 : decode cX7_readsFact 59 = .ok (.bipush 57, 2) := by decide +kernel
theorem dX7_readsFact_61 : decode cX7_readsFact 61 = .ok (.invokevirtual 87, 3) := by decide +kernel
theorem dX7_readsFact_64 : decode cX7_readsFact 64 = .ok (.iastore, 1) := by decide +kernel
theorem dX7_readsFact_65 : decode cX7_readsFact 65 = .ok (.aload_n 0, 1) := by decide +kernel
theorem dX7_readsFact_66 : decode cX7_readsFact 66 = .ok (.getfield 30, 3) := by decide +kernel
theorem dX7_readsFact_69 : decode cX7_readsFact 69 = .ok (.iload_n 1, 1) := by decide +kernel
theorem dX7_readsFact_70 : decode cX7_readsFact 70 = .ok (.iconst 2, 1) := by decide +kernel
theorem dX7_readsFact_71 : decode cX7_readsFact 71 = .ok (.iadd, 1) := by decide +kernel
theorem dX7_readsFact_72 : decode cX7_readsFact 72 = .ok (.dup2, 1) := by decide +kernel
theorem dX7_readsFact_73 : decode cX7_readsFact 73 = .ok (.iaload, 1) := by decide +kernel
theorem dX7_readsFact_74 : decode cX7_readsFact 74 = .ok (.iconst 1, 1) := by decide +kernel
theorem dX7_readsFact_75 : decode cX7_readsFact 75 = .ok (.iadd, 1) := by decide +kernel
theorem dX7_readsFact_76 : decode cX7_readsFact 76 = .ok (.iastore, 1) := by decide +kernel
theorem dX7_readsFact_77 : decode cX7_readsFact 77 = .ok (.aload_n 0, 1) := by decide +kernel
theorem dX7_readsFact_78 : decode cX7_readsFact 78 = .ok (.getfield 30, 3) := by decide +kernel
theorem dX7_readsFact_81 : decode cX7_readsFact 81 = .ok (.iload_n 2, 1) := by decide +kernel
theorem dX7_readsFact_82 : decode cX7_readsFact 82 = .ok (.iconst 1, 1) := by decide +kernel
theorem dX7_readsFact_83 : decode cX7_readsFact 83 = .ok (.iadd, 1) := by decide +kernel
theorem dX7_readsFact_84 : decode cX7_readsFact 84 = .ok (.iaload, 1) := by decide +kernel
theorem dX7_readsFact_85 : decode cX7_readsFact 85 = .ok (.ifCond .le 7, 3) := by decide +kernel
theorem dX7_readsFact_88 : decode cX7_readsFact 88 = .ok (.iconst 1, 1) := by decide +kernel
theorem dX7_readsFact_89 : decode cX7_readsFact 89 = .ok (.goto 4, 3) := by decide +kernel
theorem dX7_readsFact_92 : decode cX7_readsFact 92 = .ok (.iconst 0, 1) := by decide +kernel
theorem dX7_readsFact_93 : decode cX7_readsFact 93 = .ok (.ireturn, 1) := by decide +kernel
theorem dX7_readsPerson_0 : decode cX7_readsPerson 0 = .ok (.bipush 20, 2) := by decide +kernel
theorem dX7_readsPerson_2 : decode cX7_readsPerson 2 = .ok (.aload_n 0, 1) := by decide +kernel
theorem dX7_readsPerson_3 : decode cX7_readsPerson 3 = .ok (.getfield 95, 3) := by decide +kernel
theorem dX7_readsPerson_6 : decode cX7_readsPerson 6 = .ok (.imul, 1) := by decide +kernel
theorem dX7_readsPerson_7 : decode cX7_readsPerson 7 = .ok (.istore_n 1, 1) := by decide +kernel
theorem dX7_readsPerson_8 : decode cX7_readsPerson 8 = .ok (.aload_n 0, 1) := by decide +kernel
theorem dX7_readsPerson_9 : decode cX7_readsPerson 9 = .ok (.getfield 30, 3) := by decide +kernel
theorem dX7_readsPerson_12 : decode cX7_readsPerson 12 = .ok (.iload_n 1, 1) := by decide +kernel
theorem dX7_readsPerson_13 : decode cX7_readsPerson 13 = .ok (.aload_n 0, 1) := by decide +kernel
theorem dX7_readsPerson_14 : decode cX7_readsPerson 14 = .ok (.invokevirtual 98, 3) := by decide +kernel
theorem dX7_readsPerson_17 : decode cX7_readsPerson 17 = .ok (.iastore, 1) := by decide +kernel
theorem dX7_readsPerson_18 : decode cX7_readsPerson 18 = .ok (.aload_n 0, 1) := by decide +kernel
theorem dX7_readsPerson_19 : decode cX7_readsPerson 19 = .ok (.getfield 30, 3) := by decide +kernel
theorem dX7_readsPerson_22 : decode cX7_readsPerson 22 = .ok (.iload_n 1, 1) := by decide +kernel
theorem dX7_readsPerson_23 : decode cX7_readsPerson 23 = .ok (.iconst 2, 1) := by decide +kernel
theorem dX7_readsPerson_24 : decode cX7_readsPerson 24 = .ok (.iadd, 1) := by decide +kernel
theorem dX7_readsPerson_25 : decode cX7_readsPerson 25 = .ok (.iconst 0, 1) := by decide +kernel
theorem dX7_readsPerson_26 : decode cX7_readsPerson 26 = .ok (.iastore, 1) := by decide +kernel
theorem dX7_readsPerson_27 : decode cX7_readsPerson 27 = .ok (.aload_n 0, 1) := by decide +kernel
theorem dX7_readsPerson_28 : decode cX7_readsPerson 28 = .ok (.getfield 30, 3) := by decide +kernel
theorem dX7_readsPerson_31 : decode cX7_readsPerson 31 = .ok (.iload_n 1, 1) := by decide +kernel
theorem dX7_readsPerson_32 : decode cX7_readsPerson 32 = .ok (.iaload, 1) := by decide +kernel
theorem dX7_readsPerson_33 : decode cX7_readsPerson 33 = .ok (.ifCond .lt 12, 3) := by decide +kernel
theorem dX7_readsPerson_36 : decode cX7_readsPerson 36 = .ok (.aload_n 0, 1) := by decide +kernel
theorem dX7_readsPerson_37 : decode cX7_readsPerson 37 = .ok (.bipush 114, 2) := by decide +kernel
theorem dX7_readsPerson_39 : decode cX7_readsPerson 39 = .ok (.invokevirtual 91, 3) := by decide +kernel
theorem dX7_readsPerson_42 : decode cX7_readsPerson 42 = .ok (.ifCond .ne 5, 3) := by decide +kernel
theorem dX7_readsPerson_45 : decode cX7_readsPerson 45 = .ok (.iconst 0, 1) := by decide +kernel
theorem dX7_readsPerson_46 : decode cX7_readsPerson 46 = .ok (.ireturn, 1) := by decide +kernel
theorem dX7_readsPerson_47 : decode cX7_readsPerson 47 = .ok (.aload_n 0, 1) := by decide +kernel
theorem dX7_readsPerson_48 : decode cX7_readsPerson 48 = .ok (.getfield 30, 3) := by decide +kernel
theorem dX7_readsPerson_51 : decode cX7_readsPerson 51 = .ok (.iload_n 1, 1) := by decide +kernel
theorem dX7_readsPerson_52 : decode cX7_readsPerson 52 = .ok (.iconst 1, 1) := by decide +kernel
theorem dX7_readsPerson_53 : decode cX7_readsPerson 53 = .ok (.iadd, 1) := by decide +kernel
theorem dX7_readsPerson_54 : decode cX7_readsPerson 54 = .ok (.aload_n 0, 1) := by decide +kernel
theorem dX7_readsPerson_55 : decode cX7_readsPerson 55 = .ok (.bipush 49, 2) := by decide +kernel
theorem dX7_readsPerson_57 : decode cX7_readsPerson 57 = .ok (.bipush 57, 2) := by decide +kernel
theorem dX7_readsPerson_59 : decode cX7_readsPerson 59 = .ok (.invokevirtual 87, 3) := by decide +kernel
theorem dX7_readsPerson_62 : decode cX7_readsPerson 62 = .ok (.iastore, 1) := by decide +kernel
theorem dX7_readsPerson_63 : decode cX7_readsPerson 63 = .ok (.aload_n 0, 1) := by decide +kernel
theorem dX7_readsPerson_64 : decode cX7_readsPerson 64 = .ok (.getfield 30, 3) := by decide +kernel
theorem dX7_readsPerson_67 : decode cX7_readsPerson 67 = .ok (.iload_n 1, 1) := by decide +kernel
theorem dX7_readsPerson_68 : decode cX7_readsPerson 68 = .ok (.iconst 1, 1) := by decide +kernel
theorem dX7_readsPerson_69 : decode cX7_readsPerson 69 = .ok (.iadd, 1) := by decide +kernel
theorem dX7_readsPerson_70 : decode cX7_readsPerson 70 = .ok (.iaload, 1) := by decide +kernel
theorem dX7_readsPerson_71 : decode cX7_readsPerson 71 = .ok (.ifCond .le 7, 3) := by decide +kernel
theorem dX7_readsPerson_74 : decode cX7_readsPerson 74 = .ok (.iconst 1, 1) := by decide +kernel
theorem dX7_readsPerson_75 : decode cX7_readsPerson 75 = .ok (.goto 4, 3) := by decide +kernel
theorem dX7_readsPerson_78 : decode cX7_readsPerson 78 = .ok (.iconst 0, 1) := by decide +kernel
theorem dX7_readsPerson_79 : decode cX7_readsPerson 79 = .ok (.istore_n 2, 1) := by decide +kernel
theorem dX7_readsPerson_80 : decode cX7_readsPerson 80 = .ok (.iload_n 2, 1) := by decide +kernel
theorem dX7_readsPerson_81 : decode cX7_readsPerson 81 = .ok (.ifCond .eq 34, 3) := by decide +kernel
theorem dX7_readsPerson_84 : decode cX7_readsPerson 84 = .ok (.aload_n 0, 1) := by decide +kernel
theorem dX7_readsPerson_85 : decode cX7_readsPerson 85 = .ok (.getfield 30, 3) := by decide +kernel
theorem dX7_readsPerson_88 : decode cX7_readsPerson 88 = .ok (.iload_n 1, 1) := by decide +kernel
theorem dX7_readsPerson_89 : decode cX7_readsPerson 89 = .ok (.iconst 2, 1) := by decide +kernel
theorem dX7_readsPerson_90 : decode cX7_readsPerson 90 = .ok (.iadd, 1) := by decide +kernel
theorem dX7_readsPerson_91 : decode cX7_readsPerson 91 = .ok (.iaload, 1) := by decide +kernel
theorem dX7_readsPerson_92 : decode cX7_readsPerson 92 = .ok (.bipush 8, 2) := by decide +kernel
theorem dX7_readsPerson_94 : decode cX7_readsPerson 94 = .ok (.if_icmp .ge 21, 3) := by decide +kernel
theorem dX7_readsPerson_97 : decode cX7_readsPerson 97 = .ok (.aload_n 0, 1) := by decide +kernel
theorem dX7_readsPerson_98 : decode cX7_readsPerson 98 = .ok (.bipush 44, 2) := by decide +kernel
theorem dX7_readsPerson_100 : decode cX7_readsPerson 100 = .ok (.invokevirtual 91, 3) := by decide +kernel
theorem dX7_readsPerson_103 : decode cX7_readsPerson 103 = .ok (.ifCond .eq 12, 3) := by decide +kernel
theorem dX7_readsPerson_106 : decode cX7_readsPerson 106 = .ok (.aload_n 0, 1) := by decide +kernel
theorem dX7_readsPerson_107 : decode cX7_readsPerson 107 = .ok (.iload_n 1, 1) := by decide +kernel
theorem dX7_readsPerson_108 : decode cX7_readsPerson 108 = .ok (.invokevirtual 102, 3) := by decide +kernel
theorem dX7_readsPerson_111 : decode cX7_readsPerson 111 = .ok (.istore_n 2, 1) := by decide +kernel
theorem dX7_readsPerson_112 : decode cX7_readsPerson 112 = .ok (.goto (-32), 3) := by decide +kernel
theorem dX7_readsPerson_115 : decode cX7_readsPerson 115 = .ok (.aload_n 0, 1) := by decide +kernel
theorem dX7_readsPerson_116 : decode cX7_readsPerson 116 = .ok (.dup, 1) := by decide +kernel
theorem dX7_readsPerson_117 : decode cX7_readsPerson 117 = .ok (.getfield 95, 3) := by decide +kernel
theorem dX7_readsPerson_120 : decode cX7_readsPerson 120 = .ok (.iload_n 2, 1) := by decide +kernel
theorem dX7_readsPerson_121 : decode cX7_readsPerson 121 = .ok (.ifCond .eq 7, 3) := by decide +kernel
theorem dX7_readsPerson_124 : decode cX7_readsPerson 124 = .ok (.iconst 1, 1) := by decide +kernel
theorem dX7_readsPerson_125 : decode cX7_readsPerson 125 = .ok (.goto 4, 3) := by decide +kernel
theorem dX7_readsPerson_128 : decode cX7_readsPerson 128 = .ok (.iconst 0, 1) := by decide +kernel
theorem dX7_readsPerson_129 : decode cX7_readsPerson 129 = .ok (.iadd, 1) := by decide +kernel
theorem dX7_readsPerson_130 : decode cX7_readsPerson 130 = .ok (.putfield 95, 3) := by decide +kernel
theorem dX7_readsPerson_133 : decode cX7_readsPerson 133 = .ok (.iload_n 2, 1) := by decide +kernel
theorem dX7_readsPerson_134 : decode cX7_readsPerson 134 = .ok (.ireturn, 1) := by decide +kernel
theorem dX7_faultOf_0 : decode cX7_faultOf 0 = .ok (.aload_n 0, 1) := by decide +kernel
theorem dX7_faultOf_1 : decode cX7_faultOf 1 = .ok (.iconst 0, 1) := by decide +kernel
theorem dX7_faultOf_2 : decode cX7_faultOf 2 = .ok (.putfield 80, 3) := by decide +kernel
theorem dX7_faultOf_5 : decode cX7_faultOf 5 = .ok (.aload_n 0, 1) := by decide +kernel
theorem dX7_faultOf_6 : decode cX7_faultOf 6 = .ok (.iconst 0, 1) := by decide +kernel
theorem dX7_faultOf_7 : decode cX7_faultOf 7 = .ok (.putfield 95, 3) := by decide +kernel
theorem dX7_faultOf_10 : decode cX7_faultOf 10 = .ok (.aload_n 0, 1) := by decide +kernel
theorem dX7_faultOf_11 : decode cX7_faultOf 11 = .ok (.invokevirtual 105, 3) := by decide +kernel
theorem dX7_faultOf_14 : decode cX7_faultOf 14 = .ok (.istore_n 1, 1) := by decide +kernel
theorem dX7_faultOf_15 : decode cX7_faultOf 15 = .ok (.iload_n 1, 1) := by decide +kernel
theorem dX7_faultOf_16 : decode cX7_faultOf 16 = .ok (.ifCond .eq 39, 3) := by decide +kernel
theorem dX7_faultOf_19 : decode cX7_faultOf 19 = .ok (.aload_n 0, 1) := by decide +kernel
theorem dX7_faultOf_20 : decode cX7_faultOf 20 = .ok (.getfield 80, 3) := by decide +kernel
theorem dX7_faultOf_23 : decode cX7_faultOf 23 = .ok (.aload_n 0, 1) := by decide +kernel
theorem dX7_faultOf_24 : decode cX7_faultOf 24 = .ok (.getfield 77, 3) := by decide +kernel
theorem dX7_faultOf_27 : decode cX7_faultOf 27 = .ok (.if_icmp .ge 28, 3) := by decide +kernel
theorem dX7_faultOf_30 : decode cX7_faultOf 30 = .ok (.aload_n 0, 1) := by decide +kernel
theorem dX7_faultOf_31 : decode cX7_faultOf 31 = .ok (.bipush 59, 2) := by decide +kernel
theorem dX7_faultOf_33 : decode cX7_faultOf 33 = .ok (.invokevirtual 91, 3) := by decide +kernel
theorem dX7_faultOf_36 : decode cX7_faultOf 36 = .ok (.ifCond .eq 14, 3) := by decide +kernel
theorem dX7_faultOf_39 : decode cX7_faultOf 39 = .ok (.aload_n 0, 1) := by decide +kernel
theorem dX7_faultOf_40 : decode cX7_faultOf 40 = .ok (.invokevirtual 105, 3) := by decide +kernel
theorem dX7_faultOf_43 : decode cX7_faultOf 43 = .ok (.ifCond .eq 7, 3) := by decide +kernel
theorem dX7_faultOf_46 : decode cX7_faultOf 46 = .ok (.iconst 1, 1) := by decide +kernel
theorem dX7_faultOf_47 : decode cX7_faultOf 47 = .ok (.goto 4, 3) := by decide +kernel
theorem dX7_faultOf_50 : decode cX7_faultOf 50 = .ok (.iconst 0, 1) := by decide +kernel
theorem dX7_faultOf_51 : decode cX7_faultOf 51 = .ok (.istore_n 1, 1) := by decide +kernel
theorem dX7_faultOf_52 : decode cX7_faultOf 52 = .ok (.goto (-37), 3) := by decide +kernel
theorem dX7_faultOf_55 : decode cX7_faultOf 55 = .ok (.iload_n 1, 1) := by decide +kernel
theorem dX7_faultOf_56 : decode cX7_faultOf 56 = .ok (.ifCond .eq 7, 3) := by decide +kernel
theorem dX7_faultOf_59 : decode cX7_faultOf 59 = .ok (.iconst (-1), 1) := by decide +kernel
theorem dX7_faultOf_60 : decode cX7_faultOf 60 = .ok (.goto 7, 3) := by decide +kernel
theorem dX7_faultOf_63 : decode cX7_faultOf 63 = .ok (.aload_n 0, 1) := by decide +kernel
theorem dX7_faultOf_64 : decode cX7_faultOf 64 = .ok (.getfield 80, 3) := by decide +kernel
theorem dX7_faultOf_67 : decode cX7_faultOf 67 = .ok (.ireturn, 1) := by decide +kernel
theorem dX7_addPersons_0 : decode cX7_addPersons 0 = .ok (.aload_n 0, 1) := by decide +kernel
theorem dX7_addPersons_1 : decode cX7_addPersons 1 = .ok (.invokevirtual 109, 3) := by decide +kernel
theorem dX7_addPersons_4 : decode cX7_addPersons 4 = .ok (.istore_n 1, 1) := by decide +kernel
theorem dX7_addPersons_5 : decode cX7_addPersons 5 = .ok (.iload_n 1, 1) := by decide +kernel
theorem dX7_addPersons_6 : decode cX7_addPersons 6 = .ok (.ifCond .lt 8, 3) := by decide +kernel
theorem dX7_addPersons_9 : decode cX7_addPersons 9 = .ok (.bipush (-100), 2) := by decide +kernel
theorem dX7_addPersons_11 : decode cX7_addPersons 11 = .ok (.iload_n 1, 1) := by decide +kernel
theorem dX7_addPersons_12 : decode cX7_addPersons 12 = .ok (.isub, 1) := by decide +kernel
theorem dX7_addPersons_13 : decode cX7_addPersons 13 = .ok (.ireturn, 1) := by decide +kernel
theorem dX7_addPersons_14 : decode cX7_addPersons 14 = .ok (.aload_n 0, 1) := by decide +kernel
theorem dX7_addPersons_15 : decode cX7_addPersons 15 = .ok (.getfield 7, 3) := by decide +kernel
theorem dX7_addPersons_18 : decode cX7_addPersons 18 = .ok (.iconst 1, 1) := by decide +kernel
theorem dX7_addPersons_19 : decode cX7_addPersons 19 = .ok (.iaload, 1) := by decide +kernel
theorem dX7_addPersons_20 : decode cX7_addPersons 20 = .ok (.aload_n 0, 1) := by decide +kernel
theorem dX7_addPersons_21 : decode cX7_addPersons 21 = .ok (.getfield 95, 3) := by decide +kernel
theorem dX7_addPersons_24 : decode cX7_addPersons 24 = .ok (.iadd, 1) := by decide +kernel
theorem dX7_addPersons_25 : decode cX7_addPersons 25 = .ok (.bipush 20, 2) := by decide +kernel
theorem dX7_addPersons_27 : decode cX7_addPersons 27 = .ok (.if_icmp .le 6, 3) := by decide +kernel
theorem dX7_addPersons_30 : decode cX7_addPersons 30 = .ok (.bipush (-3), 2) := by decide +kernel
theorem dX7_addPersons_32 : decode cX7_addPersons 32 = .ok (.ireturn, 1) := by decide +kernel
theorem dX7_addPersons_33 : decode cX7_addPersons 33 = .ok (.aload_n 0, 1) := by decide +kernel
theorem dX7_addPersons_34 : decode cX7_addPersons 34 = .ok (.invokevirtual 71, 3) := by decide +kernel
theorem dX7_addPersons_37 : decode cX7_addPersons 37 = .ok (.iconst 0, 1) := by decide +kernel
theorem dX7_addPersons_38 : decode cX7_addPersons 38 = .ok (.istore_n 2, 1) := by decide +kernel
theorem dX7_addPersons_39 : decode cX7_addPersons 39 = .ok (.iload_n 2, 1) := by decide +kernel
theorem dX7_addPersons_40 : decode cX7_addPersons 40 = .ok (.aload_n 0, 1) := by decide +kernel
theorem dX7_addPersons_41 : decode cX7_addPersons 41 = .ok (.getfield 95, 3) := by decide +kernel
theorem dX7_addPersons_44 : decode cX7_addPersons 44 = .ok (.if_icmp .ge 96, 3) := by decide +kernel
theorem dX7_addPersons_47 : decode cX7_addPersons 47 = .ok (.aload_n 0, 1) := by decide +kernel
theorem dX7_addPersons_48 : decode cX7_addPersons 48 = .ok (.aload_n 0, 1) := by decide +kernel
theorem dX7_addPersons_49 : decode cX7_addPersons 49 = .ok (.getfield 30, 3) := by decide +kernel
theorem dX7_addPersons_52 : decode cX7_addPersons 52 = .ok (.bipush 20, 2) := by decide +kernel
theorem dX7_addPersons_54 : decode cX7_addPersons 54 = .ok (.iload_n 2, 1) := by decide +kernel
theorem dX7_addPersons_55 : decode cX7_addPersons 55 = .ok (.imul, 1) := by decide +kernel
theorem dX7_addPersons_56 : decode cX7_addPersons 56 = .ok (.iaload, 1) := by decide +kernel
theorem dX7_addPersons_57 : decode cX7_addPersons 57 = .ok (.aload_n 0, 1) := by decide +kernel
theorem dX7_addPersons_58 : decode cX7_addPersons 58 = .ok (.getfield 30, 3) := by decide +kernel
theorem dX7_addPersons_61 : decode cX7_addPersons 61 = .ok (.bipush 20, 2) := by decide +kernel
theorem dX7_addPersons_63 : decode cX7_addPersons 63 = .ok (.iload_n 2, 1) := by decide +kernel
theorem dX7_addPersons_64 : decode cX7_addPersons 64 = .ok (.imul, 1) := by decide +kernel
theorem dX7_addPersons_65 : decode cX7_addPersons 65 = .ok (.iconst 1, 1) := by decide +kernel
theorem dX7_addPersons_66 : decode cX7_addPersons 66 = .ok (.iadd, 1) := by decide +kernel
theorem dX7_addPersons_67 : decode cX7_addPersons 67 = .ok (.iaload, 1) := by decide +kernel
theorem dX7_addPersons_68 : decode cX7_addPersons 68 = .ok (.invokevirtual 74, 3) := by decide +kernel
theorem dX7_addPersons_71 : decode cX7_addPersons 71 = .ok (.istore_n 3, 1) := by decide +kernel
theorem dX7_addPersons_72 : decode cX7_addPersons 72 = .ok (.iconst 0, 1) := by decide +kernel
theorem dX7_addPersons_73 : decode cX7_addPersons 73 = .ok (.istore 4, 2) := by decide +kernel
theorem dX7_addPersons_75 : decode cX7_addPersons 75 = .ok (.iload 4, 2) := by decide +kernel
theorem dX7_addPersons_77 : decode cX7_addPersons 77 = .ok (.aload_n 0, 1) := by decide +kernel
theorem dX7_addPersons_78 : decode cX7_addPersons 78 = .ok (.getfield 30, 3) := by decide +kernel
theorem dX7_addPersons_81 : decode cX7_addPersons 81 = .ok (.bipush 20, 2) := by decide +kernel
theorem dX7_addPersons_83 : decode cX7_addPersons 83 = .ok (.iload_n 2, 1) := by decide +kernel
theorem dX7_addPersons_84 : decode cX7_addPersons 84 = .ok (.imul, 1) := by decide +kernel
theorem dX7_addPersons_85 : decode cX7_addPersons 85 = .ok (.iconst 2, 1) := by decide +kernel
theorem dX7_addPersons_86 : decode cX7_addPersons 86 = .ok (.iadd, 1) := by decide +kernel
theorem dX7_addPersons_87 : decode cX7_addPersons 87 = .ok (.iaload, 1) := by decide +kernel
theorem dX7_addPersons_88 : decode cX7_addPersons 88 = .ok (.if_icmp .ge 46, 3) := by decide +kernel
theorem dX7_addPersons_91 : decode cX7_addPersons 91 = .ok (.aload_n 0, 1) := by decide +kernel
theorem dX7_addPersons_92 : decode cX7_addPersons 92 = .ok (.iload_n 3, 1) := by decide +kernel
theorem dX7_addPersons_93 : decode cX7_addPersons 93 = .ok (.aload_n 0, 1) := by decide +kernel
theorem dX7_addPersons_94 : decode cX7_addPersons 94 = .ok (.getfield 30, 3) := by decide +kernel
theorem dX7_addPersons_97 : decode cX7_addPersons 97 = .ok (.bipush 20, 2) := by decide +kernel
theorem dX7_addPersons_99 : decode cX7_addPersons 99 = .ok (.iload_n 2, 1) := by decide +kernel
theorem dX7_addPersons_100 : decode cX7_addPersons 100 = .ok (.imul, 1) := by decide +kernel
theorem dX7_addPersons_101 : decode cX7_addPersons 101 = .ok (.iconst 3, 1) := by decide +kernel
theorem dX7_addPersons_102 : decode cX7_addPersons 102 = .ok (.iadd, 1) := by decide +kernel
theorem dX7_addPersons_103 : decode cX7_addPersons 103 = .ok (.iconst 2, 1) := by decide +kernel
theorem dX7_addPersons_104 : decode cX7_addPersons 104 = .ok (.iload 4, 2) := by decide +kernel
theorem dX7_addPersons_106 : decode cX7_addPersons 106 = .ok (.imul, 1) := by decide +kernel
theorem dX7_addPersons_107 : decode cX7_addPersons 107 = .ok (.iadd, 1) := by decide +kernel
theorem dX7_addPersons_108 : decode cX7_addPersons 108 = .ok (.iaload, 1) := by decide +kernel
theorem dX7_addPersons_109 : decode cX7_addPersons 109 = .ok (.aload_n 0, 1) := by decide +kernel
theorem dX7_addPersons_110 : decode cX7_addPersons 110 = .ok (.getfield 30, 3) := by decide +kernel
theorem dX7_addPersons_113 : decode cX7_addPersons 113 = .ok (.bipush 20, 2) := by decide +kernel
theorem dX7_addPersons_115 : decode cX7_addPersons 115 = .ok (.iload_n 2, 1) := by decide +kernel
theorem dX7_addPersons_116 : decode cX7_addPersons 116 = .ok (.imul, 1) := by decide +kernel
theorem dX7_addPersons_117 : decode cX7_addPersons 117 = .ok (.iconst 4, 1) := by decide +kernel
theorem dX7_addPersons_118 : decode cX7_addPersons 118 = .ok (.iadd, 1) := by decide +kernel
theorem dX7_addPersons_119 : decode cX7_addPersons 119 = .ok (.iconst 2, 1) := by decide +kernel
theorem dX7_addPersons_120 : decode cX7_addPersons 120 = .ok (.iload 4, 2) := by decide +kernel
theorem dX7_addPersons_122 : decode cX7_addPersons 122 = .ok (.imul, 1) := by decide +kernel
theorem dX7_addPersons_123 : decode cX7_addPersons 123 = .ok (.iadd, 1) := by decide +kernel
theorem dX7_addPersons_124 : decode cX7_addPersons 124 = .ok (.iaload, 1) := by decide +kernel
theorem dX7_addPersons_125 : decode cX7_addPersons 125 = .ok (.invokevirtual 112, 3) := by decide +kernel
theorem dX7_addPersons_128 : decode cX7_addPersons 128 = .ok (.iinc 4 1, 3) := by decide +kernel
theorem dX7_addPersons_131 : decode cX7_addPersons 131 = .ok (.goto (-56), 3) := by decide +kernel
theorem dX7_addPersons_134 : decode cX7_addPersons 134 = .ok (.iinc 2 1, 3) := by decide +kernel
theorem dX7_addPersons_137 : decode cX7_addPersons 137 = .ok (.goto (-98), 3) := by decide +kernel
theorem dX7_addPersons_140 : decode cX7_addPersons 140 = .ok (.aload_n 0, 1) := by decide +kernel
theorem dX7_addPersons_141 : decode cX7_addPersons 141 = .ok (.getfield 95, 3) := by decide +kernel
theorem dX7_addPersons_144 : decode cX7_addPersons 144 = .ok (.ireturn, 1) := by decide +kernel
theorem dX7_write_0 : decode cX7_write 0 = .ok (.aload_n 0, 1) := by decide +kernel
theorem dX7_write_1 : decode cX7_write 1 = .ok (.iload_n 1, 1) := by decide +kernel
theorem dX7_write_2 : decode cX7_write 2 = .ok (.invokevirtual 45, 3) := by decide +kernel
theorem dX7_write_5 : decode cX7_write 5 = .ok (.ifCond .eq 12, 3) := by decide +kernel
theorem dX7_write_8 : decode cX7_write 8 = .ok (.iload_n 2, 1) := by decide +kernel
theorem dX7_write_9 : decode cX7_write 9 = .ok (.iconst 0, 1) := by decide +kernel
theorem dX7_write_10 : decode cX7_write 10 = .ok (.iconst 5, 1) := by decide +kernel
theorem dX7_write_11 : decode cX7_write 11 = .ok (.invokestatic 41, 3) := by decide +kernel
theorem dX7_write_14 : decode cX7_write 14 = .ok (.ifCond .ne 5, 3) := by decide +kernel
theorem dX7_write_17 : decode cX7_write 17 = .ok (.iconst (-1), 1) := by decide +kernel
theorem dX7_write_18 : decode cX7_write 18 = .ok (.ireturn, 1) := by decide +kernel
theorem dX7_write_19 : decode cX7_write 19 = .ok (.iload_n 3, 1) := by decide +kernel
theorem dX7_write_20 : decode cX7_write 20 = .ok (.iconst 1, 1) := by decide +kernel
theorem dX7_write_21 : decode cX7_write 21 = .ok (.bipush 9, 2) := by decide +kernel
theorem dX7_write_23 : decode cX7_write 23 = .ok (.invokestatic 41, 3) := by decide +kernel
theorem dX7_write_26 : decode cX7_write 26 = .ok (.ifCond .ne 6, 3) := by decide +kernel
theorem dX7_write_29 : decode cX7_write 29 = .ok (.bipush (-2), 2) := by decide +kernel
theorem dX7_write_31 : decode cX7_write 31 = .ok (.ireturn, 1) := by decide +kernel
theorem dX7_write_32 : decode cX7_write 32 = .ok (.aload_n 0, 1) := by decide +kernel
theorem dX7_write_33 : decode cX7_write 33 = .ok (.iload_n 1, 1) := by decide +kernel
theorem dX7_write_34 : decode cX7_write 34 = .ok (.iconst 2, 1) := by decide +kernel
theorem dX7_write_35 : decode cX7_write 35 = .ok (.invokevirtual 49, 3) := by decide +kernel
theorem dX7_write_38 : decode cX7_write 38 = .ok (.iconst 3, 1) := by decide +kernel
theorem dX7_write_39 : decode cX7_write 39 = .ok (.if_icmp .ne 6, 3) := by decide +kernel
theorem dX7_write_42 : decode cX7_write 42 = .ok (.bipush (-4), 2) := by decide +kernel
theorem dX7_write_44 : decode cX7_write 44 = .ok (.ireturn, 1) := by decide +kernel
theorem dX7_write_45 : decode cX7_write 45 = .ok (.aload_n 0, 1) := by decide +kernel
theorem dX7_write_46 : decode cX7_write 46 = .ok (.iload_n 1, 1) := by decide +kernel
theorem dX7_write_47 : decode cX7_write 47 = .ok (.iconst 3, 1) := by decide +kernel
theorem dX7_write_48 : decode cX7_write 48 = .ok (.invokevirtual 49, 3) := by decide +kernel
theorem dX7_write_51 : decode cX7_write 51 = .ok (.bipush 8, 2) := by decide +kernel
theorem dX7_write_53 : decode cX7_write 53 = .ok (.if_icmp .eq 13, 3) := by decide +kernel
theorem dX7_write_56 : decode cX7_write 56 = .ok (.iload_n 3, 1) := by decide +kernel
theorem dX7_write_57 : decode cX7_write 57 = .ok (.aload_n 0, 1) := by decide +kernel
theorem dX7_write_58 : decode cX7_write 58 = .ok (.getfield 7, 3) := by decide +kernel
theorem dX7_write_61 : decode cX7_write 61 = .ok (.iconst 2, 1) := by decide +kernel
theorem dX7_write_62 : decode cX7_write 62 = .ok (.iaload, 1) := by decide +kernel
theorem dX7_write_63 : decode cX7_write 63 = .ok (.if_icmp .le 6, 3) := by decide +kernel
theorem dX7_write_66 : decode cX7_write 66 = .ok (.bipush (-3), 2) := by decide +kernel
theorem dX7_write_68 : decode cX7_write 68 = .ok (.ireturn, 1) := by decide +kernel
theorem dX7_write_69 : decode cX7_write 69 = .ok (.aload_n 0, 1) := by decide +kernel
theorem dX7_write_70 : decode cX7_write 70 = .ok (.invokevirtual 71, 3) := by decide +kernel
theorem dX7_write_73 : decode cX7_write 73 = .ok (.aload_n 0, 1) := by decide +kernel
theorem dX7_write_74 : decode cX7_write 74 = .ok (.iload_n 1, 1) := by decide +kernel
theorem dX7_write_75 : decode cX7_write 75 = .ok (.iload_n 2, 1) := by decide +kernel
theorem dX7_write_76 : decode cX7_write 76 = .ok (.iload_n 3, 1) := by decide +kernel
theorem dX7_write_77 : decode cX7_write 77 = .ok (.invokevirtual 112, 3) := by decide +kernel
theorem dX7_write_80 : decode cX7_write 80 = .ok (.aload_n 0, 1) := by decide +kernel
theorem dX7_write_81 : decode cX7_write 81 = .ok (.getfield 7, 3) := by decide +kernel
theorem dX7_write_84 : decode cX7_write 84 = .ok (.iconst 2, 1) := by decide +kernel
theorem dX7_write_85 : decode cX7_write 85 = .ok (.dup2, 1) := by decide +kernel
theorem dX7_write_86 : decode cX7_write 86 = .ok (.iaload, 1) := by decide +kernel
theorem dX7_write_87 : decode cX7_write 87 = .ok (.iload_n 3, 1) := by decide +kernel
theorem dX7_write_88 : decode cX7_write 88 = .ok (.isub, 1) := by decide +kernel
theorem dX7_write_89 : decode cX7_write 89 = .ok (.iastore, 1) := by decide +kernel
theorem dX7_write_90 : decode cX7_write 90 = .ok (.aload_n 0, 1) := by decide +kernel
theorem dX7_write_91 : decode cX7_write 91 = .ok (.iload_n 1, 1) := by decide +kernel
theorem dX7_write_92 : decode cX7_write 92 = .ok (.iconst 3, 1) := by decide +kernel
theorem dX7_write_93 : decode cX7_write 93 = .ok (.invokevirtual 49, 3) := by decide +kernel
theorem dX7_write_96 : decode cX7_write 96 = .ok (.iconst 1, 1) := by decide +kernel
theorem dX7_write_97 : decode cX7_write 97 = .ok (.isub, 1) := by decide +kernel
theorem dX7_write_98 : decode cX7_write 98 = .ok (.ireturn, 1) := by decide +kernel
theorem dX7_check_0 : decode cX7_check 0 = .ok (.aload_n 0, 1) := by decide +kernel
theorem dX7_check_1 : decode cX7_check 1 = .ok (.iload_n 1, 1) := by decide +kernel
theorem dX7_check_2 : decode cX7_check 2 = .ok (.iload_n 2, 1) := by decide +kernel
theorem dX7_check_3 : decode cX7_check 3 = .ok (.invokevirtual 116, 3) := by decide +kernel
theorem dX7_check_6 : decode cX7_check 6 = .ok (.ifCond .ne 5, 3) := by decide +kernel
theorem dX7_check_9 : decode cX7_check 9 = .ok (.iconst (-1), 1) := by decide +kernel
theorem dX7_check_10 : decode cX7_check 10 = .ok (.ireturn, 1) := by decide +kernel
theorem dX7_check_11 : decode cX7_check 11 = .ok (.aload_n 0, 1) := by decide +kernel
theorem dX7_check_12 : decode cX7_check 12 = .ok (.iload_n 1, 1) := by decide +kernel
theorem dX7_check_13 : decode cX7_check 13 = .ok (.iconst 2, 1) := by decide +kernel
theorem dX7_check_14 : decode cX7_check 14 = .ok (.invokevirtual 49, 3) := by decide +kernel
theorem dX7_check_17 : decode cX7_check 17 = .ok (.iconst 3, 1) := by decide +kernel
theorem dX7_check_18 : decode cX7_check 18 = .ok (.if_icmp .ne 6, 3) := by decide +kernel
theorem dX7_check_21 : decode cX7_check 21 = .ok (.bipush (-4), 2) := by decide +kernel
theorem dX7_check_23 : decode cX7_check 23 = .ok (.ireturn, 1) := by decide +kernel
theorem dX7_check_24 : decode cX7_check 24 = .ok (.aload_n 0, 1) := by decide +kernel
theorem dX7_check_25 : decode cX7_check 25 = .ok (.getfield 7, 3) := by decide +kernel
theorem dX7_check_28 : decode cX7_check 28 = .ok (.iconst 2, 1) := by decide +kernel
theorem dX7_check_29 : decode cX7_check 29 = .ok (.iaload, 1) := by decide +kernel
theorem dX7_check_30 : decode cX7_check 30 = .ok (.ifCond .ne 6, 3) := by decide +kernel
theorem dX7_check_33 : decode cX7_check 33 = .ok (.bipush (-3), 2) := by decide +kernel
theorem dX7_check_35 : decode cX7_check 35 = .ok (.ireturn, 1) := by decide +kernel
theorem dX7_check_36 : decode cX7_check 36 = .ok (.aload_n 0, 1) := by decide +kernel
theorem dX7_check_37 : decode cX7_check 37 = .ok (.getfield 7, 3) := by decide +kernel
theorem dX7_check_40 : decode cX7_check 40 = .ok (.iload_n 1, 1) := by decide +kernel
theorem dX7_check_41 : decode cX7_check 41 = .ok (.iload_n 2, 1) := by decide +kernel
theorem dX7_check_42 : decode cX7_check 42 = .ok (.invokestatic 53, 3) := by decide +kernel
theorem dX7_check_45 : decode cX7_check 45 = .ok (.iconst 2, 1) := by decide +kernel
theorem dX7_check_46 : decode cX7_check 46 = .ok (.iadd, 1) := by decide +kernel
theorem dX7_check_47 : decode cX7_check 47 = .ok (.iaload, 1) := by decide +kernel
theorem dX7_check_48 : decode cX7_check 48 = .ok (.aload_n 0, 1) := by decide +kernel
theorem dX7_check_49 : decode cX7_check 49 = .ok (.getfield 7, 3) := by decide +kernel
theorem dX7_check_52 : decode cX7_check 52 = .ok (.iconst 0, 1) := by decide +kernel
theorem dX7_check_53 : decode cX7_check 53 = .ok (.iaload, 1) := by decide +kernel
theorem dX7_check_54 : decode cX7_check 54 = .ok (.if_icmp .ne 6, 3) := by decide +kernel
theorem dX7_check_57 : decode cX7_check 57 = .ok (.bipush (-5), 2) := by decide +kernel
theorem dX7_check_59 : decode cX7_check 59 = .ok (.ireturn, 1) := by decide +kernel
theorem dX7_check_60 : decode cX7_check 60 = .ok (.aload_n 0, 1) := by decide +kernel
theorem dX7_check_61 : decode cX7_check 61 = .ok (.invokevirtual 71, 3) := by decide +kernel
theorem dX7_check_64 : decode cX7_check 64 = .ok (.aload_n 0, 1) := by decide +kernel
theorem dX7_check_65 : decode cX7_check 65 = .ok (.getfield 7, 3) := by decide +kernel
theorem dX7_check_68 : decode cX7_check 68 = .ok (.iload_n 1, 1) := by decide +kernel
theorem dX7_check_69 : decode cX7_check 69 = .ok (.iload_n 2, 1) := by decide +kernel
theorem dX7_check_70 : decode cX7_check 70 = .ok (.invokestatic 53, 3) := by decide +kernel
theorem dX7_check_73 : decode cX7_check 73 = .ok (.iconst 2, 1) := by decide +kernel
theorem dX7_check_74 : decode cX7_check 74 = .ok (.iadd, 1) := by decide +kernel
theorem dX7_check_75 : decode cX7_check 75 = .ok (.aload_n 0, 1) := by decide +kernel
theorem dX7_check_76 : decode cX7_check 76 = .ok (.getfield 7, 3) := by decide +kernel
theorem dX7_check_79 : decode cX7_check 79 = .ok (.iconst 0, 1) := by decide +kernel
theorem dX7_check_80 : decode cX7_check 80 = .ok (.iaload, 1) := by decide +kernel
theorem dX7_check_81 : decode cX7_check 81 = .ok (.iastore, 1) := by decide +kernel
theorem dX7_check_82 : decode cX7_check 82 = .ok (.aload_n 0, 1) := by decide +kernel
theorem dX7_check_83 : decode cX7_check 83 = .ok (.getfield 7, 3) := by decide +kernel
theorem dX7_check_86 : decode cX7_check 86 = .ok (.iconst 2, 1) := by decide +kernel
theorem dX7_check_87 : decode cX7_check 87 = .ok (.dup2, 1) := by decide +kernel
theorem dX7_check_88 : decode cX7_check 88 = .ok (.iaload, 1) := by decide +kernel
theorem dX7_check_89 : decode cX7_check 89 = .ok (.iconst 1, 1) := by decide +kernel
theorem dX7_check_90 : decode cX7_check 90 = .ok (.isub, 1) := by decide +kernel
theorem dX7_check_91 : decode cX7_check 91 = .ok (.iastore, 1) := by decide +kernel
theorem dX7_check_92 : decode cX7_check 92 = .ok (.aload_n 0, 1) := by decide +kernel
theorem dX7_check_93 : decode cX7_check 93 = .ok (.getfield 7, 3) := by decide +kernel
theorem dX7_check_96 : decode cX7_check 96 = .ok (.iconst 2, 1) := by decide +kernel
theorem dX7_check_97 : decode cX7_check 97 = .ok (.iaload, 1) := by decide +kernel
theorem dX7_check_98 : decode cX7_check 98 = .ok (.ireturn, 1) := by decide +kernel
theorem dX7_strike_0 : decode cX7_strike 0 = .ok (.aload_n 0, 1) := by decide +kernel
theorem dX7_strike_1 : decode cX7_strike 1 = .ok (.iload_n 1, 1) := by decide +kernel
theorem dX7_strike_2 : decode cX7_strike 2 = .ok (.iload_n 2, 1) := by decide +kernel
theorem dX7_strike_3 : decode cX7_strike 3 = .ok (.invokevirtual 116, 3) := by decide +kernel
theorem dX7_strike_6 : decode cX7_strike 6 = .ok (.ifCond .ne 5, 3) := by decide +kernel
theorem dX7_strike_9 : decode cX7_strike 9 = .ok (.iconst (-1), 1) := by decide +kernel
theorem dX7_strike_10 : decode cX7_strike 10 = .ok (.ireturn, 1) := by decide +kernel
theorem dX7_strike_11 : decode cX7_strike 11 = .ok (.aload_n 0, 1) := by decide +kernel
theorem dX7_strike_12 : decode cX7_strike 12 = .ok (.iload_n 1, 1) := by decide +kernel
theorem dX7_strike_13 : decode cX7_strike 13 = .ok (.iconst 2, 1) := by decide +kernel
theorem dX7_strike_14 : decode cX7_strike 14 = .ok (.invokevirtual 49, 3) := by decide +kernel
theorem dX7_strike_17 : decode cX7_strike 17 = .ok (.iconst 3, 1) := by decide +kernel
theorem dX7_strike_18 : decode cX7_strike 18 = .ok (.if_icmp .ne 6, 3) := by decide +kernel
theorem dX7_strike_21 : decode cX7_strike 21 = .ok (.bipush (-4), 2) := by decide +kernel
theorem dX7_strike_23 : decode cX7_strike 23 = .ok (.ireturn, 1) := by decide +kernel
theorem dX7_strike_24 : decode cX7_strike 24 = .ok (.aload_n 0, 1) := by decide +kernel
theorem dX7_strike_25 : decode cX7_strike 25 = .ok (.invokevirtual 71, 3) := by decide +kernel
theorem dX7_strike_28 : decode cX7_strike 28 = .ok (.aload_n 0, 1) := by decide +kernel
theorem dX7_strike_29 : decode cX7_strike 29 = .ok (.getfield 7, 3) := by decide +kernel
theorem dX7_strike_32 : decode cX7_strike 32 = .ok (.iload_n 1, 1) := by decide +kernel
theorem dX7_strike_33 : decode cX7_strike 33 = .ok (.invokestatic 37, 3) := by decide +kernel
theorem dX7_strike_36 : decode cX7_strike 36 = .ok (.iconst 3, 1) := by decide +kernel
theorem dX7_strike_37 : decode cX7_strike 37 = .ok (.iadd, 1) := by decide +kernel
theorem dX7_strike_38 : decode cX7_strike 38 = .ok (.dup2, 1) := by decide +kernel
theorem dX7_strike_39 : decode cX7_strike 39 = .ok (.iaload, 1) := by decide +kernel
theorem dX7_strike_40 : decode cX7_strike 40 = .ok (.iconst 1, 1) := by decide +kernel
theorem dX7_strike_41 : decode cX7_strike 41 = .ok (.isub, 1) := by decide +kernel
theorem dX7_strike_42 : decode cX7_strike 42 = .ok (.iastore, 1) := by decide +kernel
theorem dX7_strike_43 : decode cX7_strike 43 = .ok (.iload_n 1, 1) := by decide +kernel
theorem dX7_strike_44 : decode cX7_strike 44 = .ok (.iload_n 2, 1) := by decide +kernel
theorem dX7_strike_45 : decode cX7_strike 45 = .ok (.invokestatic 53, 3) := by decide +kernel
theorem dX7_strike_48 : decode cX7_strike 48 = .ok (.istore_n 3, 1) := by decide +kernel
theorem dX7_strike_49 : decode cX7_strike 49 = .ok (.iload_n 3, 1) := by decide +kernel
theorem dX7_strike_50 : decode cX7_strike 50 = .ok (.iload_n 1, 1) := by decide +kernel
theorem dX7_strike_51 : decode cX7_strike 51 = .ok (.aload_n 0, 1) := by decide +kernel
theorem dX7_strike_52 : decode cX7_strike 52 = .ok (.iload_n 1, 1) := by decide +kernel
theorem dX7_strike_53 : decode cX7_strike 53 = .ok (.iconst 3, 1) := by decide +kernel
theorem dX7_strike_54 : decode cX7_strike 54 = .ok (.invokevirtual 49, 3) := by decide +kernel
theorem dX7_strike_57 : decode cX7_strike 57 = .ok (.invokestatic 53, 3) := by decide +kernel
theorem dX7_strike_60 : decode cX7_strike 60 = .ok (.if_icmp .ge 23, 3) := by decide +kernel
theorem dX7_strike_63 : decode cX7_strike 63 = .ok (.aload_n 0, 1) := by decide +kernel
theorem dX7_strike_64 : decode cX7_strike 64 = .ok (.getfield 7, 3) := by decide +kernel
theorem dX7_strike_67 : decode cX7_strike 67 = .ok (.iload_n 3, 1) := by decide +kernel
theorem dX7_strike_68 : decode cX7_strike 68 = .ok (.aload_n 0, 1) := by decide +kernel
theorem dX7_strike_69 : decode cX7_strike 69 = .ok (.getfield 7, 3) := by decide +kernel
theorem dX7_strike_72 : decode cX7_strike 72 = .ok (.iload_n 3, 1) := by decide +kernel
theorem dX7_strike_73 : decode cX7_strike 73 = .ok (.iconst 3, 1) := by decide +kernel
theorem dX7_strike_74 : decode cX7_strike 74 = .ok (.iadd, 1) := by decide +kernel
theorem dX7_strike_75 : decode cX7_strike 75 = .ok (.iaload, 1) := by decide +kernel
theorem dX7_strike_76 : decode cX7_strike 76 = .ok (.iastore, 1) := by decide +kernel
theorem dX7_strike_77 : decode cX7_strike 77 = .ok (.iinc 3 1, 3) := by decide +kernel
theorem dX7_strike_80 : decode cX7_strike 80 = .ok (.goto (-31), 3) := by decide +kernel
theorem dX7_strike_83 : decode cX7_strike 83 = .ok (.aload_n 0, 1) := by decide +kernel
theorem dX7_strike_84 : decode cX7_strike 84 = .ok (.iload_n 1, 1) := by decide +kernel
theorem dX7_strike_85 : decode cX7_strike 85 = .ok (.iconst 3, 1) := by decide +kernel
theorem dX7_strike_86 : decode cX7_strike 86 = .ok (.invokevirtual 49, 3) := by decide +kernel
theorem dX7_strike_89 : decode cX7_strike 89 = .ok (.ireturn, 1) := by decide +kernel
theorem dX7_due_0 : decode cX7_due 0 = .ok (.bipush (-5), 2) := by decide +kernel
theorem dX7_due_2 : decode cX7_due 2 = .ok (.istore_n 2, 1) := by decide +kernel
theorem dX7_due_3 : decode cX7_due 3 = .ok (.aload_n 0, 1) := by decide +kernel
theorem dX7_due_4 : decode cX7_due 4 = .ok (.iload_n 1, 1) := by decide +kernel
theorem dX7_due_5 : decode cX7_due 5 = .ok (.iconst 3, 1) := by decide +kernel
theorem dX7_due_6 : decode cX7_due 6 = .ok (.invokevirtual 49, 3) := by decide +kernel
theorem dX7_due_9 : decode cX7_due 9 = .ok (.iconst 1, 1) := by decide +kernel
theorem dX7_due_10 : decode cX7_due 10 = .ok (.isub, 1) := by decide +kernel
theorem dX7_due_11 : decode cX7_due 11 = .ok (.istore_n 3, 1) := by decide +kernel
theorem dX7_due_12 : decode cX7_due 12 = .ok (.iload_n 3, 1) := by decide +kernel
theorem dX7_due_13 : decode cX7_due 13 = .ok (.ifCond .lt 51, 3) := by decide +kernel
theorem dX7_due_16 : decode cX7_due 16 = .ok (.aload_n 0, 1) := by decide +kernel
theorem dX7_due_17 : decode cX7_due 17 = .ok (.getfield 7, 3) := by decide +kernel
theorem dX7_due_20 : decode cX7_due 20 = .ok (.iload_n 1, 1) := by decide +kernel
theorem dX7_due_21 : decode cX7_due 21 = .ok (.iload_n 3, 1) := by decide +kernel
theorem dX7_due_22 : decode cX7_due 22 = .ok (.invokestatic 53, 3) := by decide +kernel
theorem dX7_due_25 : decode cX7_due 25 = .ok (.iconst 2, 1) := by decide +kernel
theorem dX7_due_26 : decode cX7_due 26 = .ok (.iadd, 1) := by decide +kernel
theorem dX7_due_27 : decode cX7_due 27 = .ok (.iaload, 1) := by decide +kernel
theorem dX7_due_28 : decode cX7_due 28 = .ok (.aload_n 0, 1) := by decide +kernel
theorem dX7_due_29 : decode cX7_due 29 = .ok (.getfield 7, 3) := by decide +kernel
theorem dX7_due_32 : decode cX7_due 32 = .ok (.iconst 0, 1) := by decide +kernel
theorem dX7_due_33 : decode cX7_due 33 = .ok (.iaload, 1) := by decide +kernel
theorem dX7_due_34 : decode cX7_due 34 = .ok (.if_icmp .eq 22, 3) := by decide +kernel
theorem dX7_due_37 : decode cX7_due 37 = .ok (.aload_n 0, 1) := by decide +kernel
theorem dX7_due_38 : decode cX7_due 38 = .ok (.iload_n 1, 1) := by decide +kernel
theorem dX7_due_39 : decode cX7_due 39 = .ok (.iload_n 3, 1) := by decide +kernel
theorem dX7_due_40 : decode cX7_due 40 = .ok (.aload_n 0, 1) := by decide +kernel
theorem dX7_due_41 : decode cX7_due 41 = .ok (.getfield 7, 3) := by decide +kernel
theorem dX7_due_44 : decode cX7_due 44 = .ok (.iconst 0, 1) := by decide +kernel
theorem dX7_due_45 : decode cX7_due 45 = .ok (.iaload, 1) := by decide +kernel
theorem dX7_due_46 : decode cX7_due 46 = .ok (.invokevirtual 62, 3) := by decide +kernel
theorem dX7_due_49 : decode cX7_due 49 = .ok (.ifCond .eq 7, 3) := by decide +kernel
theorem dX7_due_52 : decode cX7_due 52 = .ok (.iload_n 3, 1) := by decide +kernel
theorem dX7_due_53 : decode cX7_due 53 = .ok (.goto 4, 3) := by decide +kernel
theorem dX7_due_56 : decode cX7_due 56 = .ok (.iload_n 2, 1) := by decide +kernel
theorem dX7_due_57 : decode cX7_due 57 = .ok (.istore_n 2, 1) := by decide +kernel
theorem dX7_due_58 : decode cX7_due 58 = .ok (.iinc 3 (-1), 3) := by decide +kernel
theorem dX7_due_61 : decode cX7_due 61 = .ok (.goto (-49), 3) := by decide +kernel
theorem dX7_due_64 : decode cX7_due 64 = .ok (.iload_n 2, 1) := by decide +kernel
theorem dX7_due_65 : decode cX7_due 65 = .ok (.ireturn, 1) := by decide +kernel
theorem dX7_mostUrgent_0 : decode cX7_mostUrgent 0 = .ok (.bipush (-5), 2) := by decide +kernel
theorem dX7_mostUrgent_2 : decode cX7_mostUrgent 2 = .ok (.istore_n 1, 1) := by decide +kernel
theorem dX7_mostUrgent_3 : decode cX7_mostUrgent 3 = .ok (.iconst 0, 1) := by decide +kernel
theorem dX7_mostUrgent_4 : decode cX7_mostUrgent 4 = .ok (.istore_n 2, 1) := by decide +kernel
theorem dX7_mostUrgent_5 : decode cX7_mostUrgent 5 = .ok (.iload_n 2, 1) := by decide +kernel
theorem dX7_mostUrgent_6 : decode cX7_mostUrgent 6 = .ok (.aload_n 0, 1) := by decide +kernel
theorem dX7_mostUrgent_7 : decode cX7_mostUrgent 7 = .ok (.getfield 7, 3) := by decide +kernel
theorem dX7_mostUrgent_10 : decode cX7_mostUrgent 10 = .ok (.iconst 1, 1) := by decide +kernel
theorem dX7_mostUrgent_11 : decode cX7_mostUrgent 11 = .ok (.iaload, 1) := by decide +kernel
theorem dX7_mostUrgent_12 : decode cX7_mostUrgent 12 = .ok (.if_icmp .ge 63, 3) := by decide +kernel
theorem dX7_mostUrgent_15 : decode cX7_mostUrgent 15 = .ok (.aload_n 0, 1) := by decide +kernel
theorem dX7_mostUrgent_16 : decode cX7_mostUrgent 16 = .ok (.iload_n 2, 1) := by decide +kernel
theorem dX7_mostUrgent_17 : decode cX7_mostUrgent 17 = .ok (.iconst 2, 1) := by decide +kernel
theorem dX7_mostUrgent_18 : decode cX7_mostUrgent 18 = .ok (.invokevirtual 49, 3) := by decide +kernel
theorem dX7_mostUrgent_21 : decode cX7_mostUrgent 21 = .ok (.ifCond .ne 17, 3) := by decide +kernel
theorem dX7_mostUrgent_24 : decode cX7_mostUrgent 24 = .ok (.aload_n 0, 1) := by decide +kernel
theorem dX7_mostUrgent_25 : decode cX7_mostUrgent 25 = .ok (.iload_n 2, 1) := by decide +kernel
theorem dX7_mostUrgent_26 : decode cX7_mostUrgent 26 = .ok (.invokevirtual 120, 3) := by decide +kernel
theorem dX7_mostUrgent_29 : decode cX7_mostUrgent 29 = .ok (.bipush (-5), 2) := by decide +kernel
theorem dX7_mostUrgent_31 : decode cX7_mostUrgent 31 = .ok (.if_icmp .eq 7, 3) := by decide +kernel
theorem dX7_mostUrgent_34 : decode cX7_mostUrgent 34 = .ok (.iconst 1, 1) := by decide +kernel
theorem dX7_mostUrgent_35 : decode cX7_mostUrgent 35 = .ok (.goto 4, 3) := by decide +kernel
theorem dX7_mostUrgent_38 : decode cX7_mostUrgent 38 = .ok (.iconst 0, 1) := by decide +kernel
theorem dX7_mostUrgent_39 : decode cX7_mostUrgent 39 = .ok (.istore_n 3, 1) := by decide +kernel
theorem dX7_mostUrgent_40 : decode cX7_mostUrgent 40 = .ok (.iload_n 3, 1) := by decide +kernel
theorem dX7_mostUrgent_41 : decode cX7_mostUrgent 41 = .ok (.ifCond .eq 26, 3) := by decide +kernel
theorem dX7_mostUrgent_44 : decode cX7_mostUrgent 44 = .ok (.iload_n 1, 1) := by decide +kernel
theorem dX7_mostUrgent_45 : decode cX7_mostUrgent 45 = .ok (.bipush (-5), 2) := by decide +kernel
theorem dX7_mostUrgent_47 : decode cX7_mostUrgent 47 = .ok (.if_icmp .eq 16, 3) := by decide +kernel
theorem dX7_mostUrgent_50 : decode cX7_mostUrgent 50 = .ok (.aload_n 0, 1) := by decide +kernel
theorem dX7_mostUrgent_51 : decode cX7_mostUrgent 51 = .ok (.iload_n 2, 1) := by decide +kernel
theorem dX7_mostUrgent_52 : decode cX7_mostUrgent 52 = .ok (.invokevirtual 123, 3) := by decide +kernel
theorem dX7_mostUrgent_55 : decode cX7_mostUrgent 55 = .ok (.aload_n 0, 1) := by decide +kernel
theorem dX7_mostUrgent_56 : decode cX7_mostUrgent 56 = .ok (.iload_n 1, 1) := by decide +kernel
theorem dX7_mostUrgent_57 : decode cX7_mostUrgent 57 = .ok (.invokevirtual 123, 3) := by decide +kernel
theorem dX7_mostUrgent_60 : decode cX7_mostUrgent 60 = .ok (.if_icmp .le 7, 3) := by decide +kernel
theorem dX7_mostUrgent_63 : decode cX7_mostUrgent 63 = .ok (.iload_n 2, 1) := by decide +kernel
theorem dX7_mostUrgent_64 : decode cX7_mostUrgent 64 = .ok (.goto 4, 3) := by decide +kernel
theorem dX7_mostUrgent_67 : decode cX7_mostUrgent 67 = .ok (.iload_n 1, 1) := by decide +kernel
theorem dX7_mostUrgent_68 : decode cX7_mostUrgent 68 = .ok (.istore_n 1, 1) := by decide +kernel
theorem dX7_mostUrgent_69 : decode cX7_mostUrgent 69 = .ok (.iinc 2 1, 3) := by decide +kernel
theorem dX7_mostUrgent_72 : decode cX7_mostUrgent 72 = .ok (.goto (-67), 3) := by decide +kernel
theorem dX7_mostUrgent_75 : decode cX7_mostUrgent 75 = .ok (.iload_n 1, 1) := by decide +kernel
theorem dX7_mostUrgent_76 : decode cX7_mostUrgent 76 = .ok (.ireturn, 1) := by decide +kernel
theorem dX7_checkUrgent_0 : decode cX7_checkUrgent 0 = .ok (.aload_n 0, 1) := by decide +kernel
theorem dX7_checkUrgent_1 : decode cX7_checkUrgent 1 = .ok (.getfield 7, 3) := by decide +kernel
theorem dX7_checkUrgent_4 : decode cX7_checkUrgent 4 = .ok (.iconst 2, 1) := by decide +kernel
theorem dX7_checkUrgent_5 : decode cX7_checkUrgent 5 = .ok (.iaload, 1) := by decide +kernel
theorem dX7_checkUrgent_6 : decode cX7_checkUrgent 6 = .ok (.ifCond .eq 12, 3) := by decide +kernel
theorem dX7_checkUrgent_9 : decode cX7_checkUrgent 9 = .ok (.aload_n 0, 1) := by decide +kernel
theorem dX7_checkUrgent_10 : decode cX7_checkUrgent 10 = .ok (.invokevirtual 126, 3) := by decide +kernel
theorem dX7_checkUrgent_13 : decode cX7_checkUrgent 13 = .ok (.bipush (-5), 2) := by decide +kernel
theorem dX7_checkUrgent_15 : decode cX7_checkUrgent 15 = .ok (.if_icmp .ne 6, 3) := by decide +kernel
theorem dX7_checkUrgent_18 : decode cX7_checkUrgent 18 = .ok (.bipush (-5), 2) := by decide +kernel
theorem dX7_checkUrgent_20 : decode cX7_checkUrgent 20 = .ok (.ireturn, 1) := by decide +kernel
theorem dX7_checkUrgent_21 : decode cX7_checkUrgent 21 = .ok (.aload_n 0, 1) := by decide +kernel
theorem dX7_checkUrgent_22 : decode cX7_checkUrgent 22 = .ok (.invokevirtual 71, 3) := by decide +kernel
theorem dX7_checkUrgent_25 : decode cX7_checkUrgent 25 = .ok (.iconst 0, 1) := by decide +kernel
theorem dX7_checkUrgent_26 : decode cX7_checkUrgent 26 = .ok (.istore_n 1, 1) := by decide +kernel
theorem dX7_checkUrgent_27 : decode cX7_checkUrgent 27 = .ok (.aload_n 0, 1) := by decide +kernel
theorem dX7_checkUrgent_28 : decode cX7_checkUrgent 28 = .ok (.invokevirtual 126, 3) := by decide +kernel
theorem dX7_checkUrgent_31 : decode cX7_checkUrgent 31 = .ok (.istore_n 2, 1) := by decide +kernel
theorem dX7_checkUrgent_32 : decode cX7_checkUrgent 32 = .ok (.iload_n 2, 1) := by decide +kernel
theorem dX7_checkUrgent_33 : decode cX7_checkUrgent 33 = .ok (.bipush (-5), 2) := by decide +kernel
theorem dX7_checkUrgent_35 : decode cX7_checkUrgent 35 = .ok (.if_icmp .eq 55, 3) := by decide +kernel
theorem dX7_checkUrgent_38 : decode cX7_checkUrgent 38 = .ok (.aload_n 0, 1) := by decide +kernel
theorem dX7_checkUrgent_39 : decode cX7_checkUrgent 39 = .ok (.getfield 7, 3) := by decide +kernel
theorem dX7_checkUrgent_42 : decode cX7_checkUrgent 42 = .ok (.iconst 2, 1) := by decide +kernel
theorem dX7_checkUrgent_43 : decode cX7_checkUrgent 43 = .ok (.iaload, 1) := by decide +kernel
theorem dX7_checkUrgent_44 : decode cX7_checkUrgent 44 = .ok (.ifCond .le 46, 3) := by decide +kernel
theorem dX7_checkUrgent_47 : decode cX7_checkUrgent 47 = .ok (.aload_n 0, 1) := by decide +kernel
theorem dX7_checkUrgent_48 : decode cX7_checkUrgent 48 = .ok (.getfield 7, 3) := by decide +kernel
theorem dX7_checkUrgent_51 : decode cX7_checkUrgent 51 = .ok (.iload_n 2, 1) := by decide +kernel
theorem dX7_checkUrgent_52 : decode cX7_checkUrgent 52 = .ok (.aload_n 0, 1) := by decide +kernel
theorem dX7_checkUrgent_53 : decode cX7_checkUrgent 53 = .ok (.iload_n 2, 1) := by decide +kernel
theorem dX7_checkUrgent_54 : decode cX7_checkUrgent 54 = .ok (.invokevirtual 120, 3) := by decide +kernel
theorem dX7_checkUrgent_57 : decode cX7_checkUrgent 57 = .ok (.invokestatic 53, 3) := by decide +kernel
theorem dX7_checkUrgent_60 : decode cX7_checkUrgent 60 = .ok (.iconst 2, 1) := by decide +kernel
theorem dX7_checkUrgent_61 : decode cX7_checkUrgent 61 = .ok (.iadd, 1) := by decide +kernel
theorem dX7_checkUrgent_62 : decode cX7_checkUrgent 62 = .ok (.aload_n 0, 1) := by decide +kernel
theorem dX7_checkUrgent_63 : decode cX7_checkUrgent 63 = .ok (.getfield 7, 3) := by decide +kernel
theorem dX7_checkUrgent_66 : decode cX7_checkUrgent 66 = .ok (.iconst 0, 1) := by decide +kernel
theorem dX7_checkUrgent_67 : decode cX7_checkUrgent 67 = .ok (.iaload, 1) := by decide +kernel
theorem dX7_checkUrgent_68 : decode cX7_checkUrgent 68 = .ok (.iastore, 1) := by decide +kernel
theorem dX7_checkUrgent_69 : decode cX7_checkUrgent 69 = .ok (.aload_n 0, 1) := by decide +kernel
theorem dX7_checkUrgent_70 : decode cX7_checkUrgent 70 = .ok (.getfield 7, 3) := by decide +kernel
theorem dX7_checkUrgent_73 : decode cX7_checkUrgent 73 = .ok (.iconst 2, 1) := by decide +kernel
theorem dX7_checkUrgent_74 : decode cX7_checkUrgent 74 = .ok (.dup2, 1) := by decide +kernel
theorem dX7_checkUrgent_75 : decode cX7_checkUrgent 75 = .ok (.iaload, 1) := by decide +kernel
theorem dX7_checkUrgent_76 : decode cX7_checkUrgent 76 = .ok (.iconst 1, 1) := by decide +kernel
theorem dX7_checkUrgent_77 : decode cX7_checkUrgent 77 = .ok (.isub, 1) := by decide +kernel
theorem dX7_checkUrgent_78 : decode cX7_checkUrgent 78 = .ok (.iastore, 1) := by decide +kernel
theorem dX7_checkUrgent_79 : decode cX7_checkUrgent 79 = .ok (.iinc 1 1, 3) := by decide +kernel
theorem dX7_checkUrgent_82 : decode cX7_checkUrgent 82 = .ok (.aload_n 0, 1) := by decide +kernel
theorem dX7_checkUrgent_83 : decode cX7_checkUrgent 83 = .ok (.invokevirtual 126, 3) := by decide +kernel
theorem dX7_checkUrgent_86 : decode cX7_checkUrgent 86 = .ok (.istore_n 2, 1) := by decide +kernel
theorem dX7_checkUrgent_87 : decode cX7_checkUrgent 87 = .ok (.goto (-55), 3) := by decide +kernel
theorem dX7_checkUrgent_90 : decode cX7_checkUrgent 90 = .ok (.iload_n 1, 1) := by decide +kernel
theorem dX7_checkUrgent_91 : decode cX7_checkUrgent 91 = .ok (.ireturn, 1) := by decide +kernel
theorem dX7_trust_0 : decode cX7_trust 0 = .ok (.iload_n 1, 1) := by decide +kernel
theorem dX7_trust_1 : decode cX7_trust 1 = .ok (.iconst 0, 1) := by decide +kernel
theorem dX7_trust_2 : decode cX7_trust 2 = .ok (.iconst 5, 1) := by decide +kernel
theorem dX7_trust_3 : decode cX7_trust 3 = .ok (.invokestatic 41, 3) := by decide +kernel
theorem dX7_trust_6 : decode cX7_trust 6 = .ok (.ifCond .ne 5, 3) := by decide +kernel
theorem dX7_trust_9 : decode cX7_trust 9 = .ok (.iconst (-1), 1) := by decide +kernel
theorem dX7_trust_10 : decode cX7_trust 10 = .ok (.ireturn, 1) := by decide +kernel
theorem dX7_trust_11 : decode cX7_trust 11 = .ok (.iload_n 2, 1) := by decide +kernel
theorem dX7_trust_12 : decode cX7_trust 12 = .ok (.iconst 0, 1) := by decide +kernel
theorem dX7_trust_13 : decode cX7_trust 13 = .ok (.bipush 100, 2) := by decide +kernel
theorem dX7_trust_15 : decode cX7_trust 15 = .ok (.invokestatic 41, 3) := by decide +kernel
theorem dX7_trust_18 : decode cX7_trust 18 = .ok (.ifCond .ne 6, 3) := by decide +kernel
theorem dX7_trust_21 : decode cX7_trust 21 = .ok (.bipush (-2), 2) := by decide +kernel
theorem dX7_trust_23 : decode cX7_trust 23 = .ok (.ireturn, 1) := by decide +kernel
theorem dX7_trust_24 : decode cX7_trust 24 = .ok (.aload_n 0, 1) := by decide +kernel
theorem dX7_trust_25 : decode cX7_trust 25 = .ok (.getfield 7, 3) := by decide +kernel
theorem dX7_trust_28 : decode cX7_trust 28 = .ok (.bipush 9, 2) := by decide +kernel
theorem dX7_trust_30 : decode cX7_trust 30 = .ok (.iload_n 1, 1) := by decide +kernel
theorem dX7_trust_31 : decode cX7_trust 31 = .ok (.iadd, 1) := by decide +kernel
theorem dX7_trust_32 : decode cX7_trust 32 = .ok (.iaload, 1) := by decide +kernel
theorem dX7_trust_33 : decode cX7_trust 33 = .ok (.istore_n 3, 1) := by decide +kernel
theorem dX7_trust_34 : decode cX7_trust 34 = .ok (.iload_n 3, 1) := by decide +kernel
theorem dX7_trust_35 : decode cX7_trust 35 = .ok (.iload_n 2, 1) := by decide +kernel
theorem dX7_trust_36 : decode cX7_trust 36 = .ok (.if_icmp .ne 6, 3) := by decide +kernel
theorem dX7_trust_39 : decode cX7_trust 39 = .ok (.bipush (-5), 2) := by decide +kernel
theorem dX7_trust_41 : decode cX7_trust 41 = .ok (.ireturn, 1) := by decide +kernel
theorem dX7_trust_42 : decode cX7_trust 42 = .ok (.aload_n 0, 1) := by decide +kernel
theorem dX7_trust_43 : decode cX7_trust 43 = .ok (.invokevirtual 71, 3) := by decide +kernel
theorem dX7_trust_46 : decode cX7_trust 46 = .ok (.aload_n 0, 1) := by decide +kernel
theorem dX7_trust_47 : decode cX7_trust 47 = .ok (.getfield 7, 3) := by decide +kernel
theorem dX7_trust_50 : decode cX7_trust 50 = .ok (.bipush 9, 2) := by decide +kernel
theorem dX7_trust_52 : decode cX7_trust 52 = .ok (.iload_n 1, 1) := by decide +kernel
theorem dX7_trust_53 : decode cX7_trust 53 = .ok (.iadd, 1) := by decide +kernel
theorem dX7_trust_54 : decode cX7_trust 54 = .ok (.iload_n 2, 1) := by decide +kernel
theorem dX7_trust_55 : decode cX7_trust 55 = .ok (.iastore, 1) := by decide +kernel
theorem dX7_trust_56 : decode cX7_trust 56 = .ok (.iload_n 3, 1) := by decide +kernel
theorem dX7_trust_57 : decode cX7_trust 57 = .ok (.ireturn, 1) := by decide +kernel
theorem dX7_isSetting_0 : decode cX7_isSetting 0 = .ok (.iload_n 0, 1) := by decide +kernel
theorem dX7_isSetting_1 : decode cX7_isSetting 1 = .ok (.ifCond .ne 13, 3) := by decide +kernel
theorem dX7_isSetting_4 : decode cX7_isSetting 4 = .ok (.iload_n 1, 1) := by decide +kernel
theorem dX7_isSetting_5 : decode cX7_isSetting 5 = .ok (.iconst 1, 1) := by decide +kernel
theorem dX7_isSetting_6 : decode cX7_isSetting 6 = .ok (.bipush 24, 2) := by decide +kernel
theorem dX7_isSetting_8 : decode cX7_isSetting 8 = .ok (.invokestatic 41, 3) := by decide +kernel
theorem dX7_isSetting_11 : decode cX7_isSetting 11 = .ok (.goto 69, 3) := by decide +kernel
theorem dX7_isSetting_14 : decode cX7_isSetting 14 = .ok (.iload_n 0, 1) := by decide +kernel
theorem dX7_isSetting_15 : decode cX7_isSetting 15 = .ok (.iconst 1, 1) := by decide +kernel
theorem dX7_isSetting_16 : decode cX7_isSetting 16 = .ok (.if_icmp .ne 15, 3) := by decide +kernel
theorem dX7_isSetting_19 : decode cX7_isSetting 19 = .ok (.iload_n 1, 1) := by decide +kernel
theorem dX7_isSetting_20 : decode cX7_isSetting 20 = .ok (.bipush 10, 2) := by decide +kernel
theorem dX7_isSetting_22 : decode cX7_isSetting 22 = .ok (.sipush 200, 3) := by decide +kernel
theorem dX7_isSetting_25 : decode cX7_isSetting 25 = .ok (.invokestatic 41, 3) := by decide +kernel
theorem dX7_isSetting_28 : decode cX7_isSetting 28 = .ok (.goto 52, 3) := by decide +kernel
theorem dX7_isSetting_31 : decode cX7_isSetting 31 = .ok (.iload_n 0, 1) := by decide +kernel
theorem dX7_isSetting_32 : decode cX7_isSetting 32 = .ok (.iconst 2, 1) := by decide +kernel
theorem dX7_isSetting_33 : decode cX7_isSetting 33 = .ok (.if_icmp .ne 13, 3) := by decide +kernel
theorem dX7_isSetting_36 : decode cX7_isSetting 36 = .ok (.iload_n 1, 1) := by decide +kernel
theorem dX7_isSetting_37 : decode cX7_isSetting 37 = .ok (.iconst 0, 1) := by decide +kernel
theorem dX7_isSetting_38 : decode cX7_isSetting 38 = .ok (.bipush 100, 2) := by decide +kernel
theorem dX7_isSetting_40 : decode cX7_isSetting 40 = .ok (.invokestatic 41, 3) := by decide +kernel
theorem dX7_isSetting_43 : decode cX7_isSetting 43 = .ok (.goto 37, 3) := by decide +kernel
theorem dX7_isSetting_46 : decode cX7_isSetting 46 = .ok (.iload_n 0, 1) := by decide +kernel
theorem dX7_isSetting_47 : decode cX7_isSetting 47 = .ok (.iconst 3, 1) := by decide +kernel
theorem dX7_isSetting_48 : decode cX7_isSetting 48 = .ok (.if_icmp .ne 12, 3) := by decide +kernel
theorem dX7_isSetting_51 : decode cX7_isSetting 51 = .ok (.iload_n 1, 1) := by decide +kernel
theorem dX7_isSetting_52 : decode cX7_isSetting 52 = .ok (.iconst 1, 1) := by decide +kernel
theorem dX7_isSetting_53 : decode cX7_isSetting 53 = .ok (.iconst 3, 1) := by decide +kernel
theorem dX7_isSetting_54 : decode cX7_isSetting 54 = .ok (.invokestatic 41, 3) := by decide +kernel
theorem dX7_isSetting_57 : decode cX7_isSetting 57 = .ok (.goto 23, 3) := by decide +kernel
theorem dX7_isSetting_60 : decode cX7_isSetting 60 = .ok (.iload_n 0, 1) := by decide +kernel
theorem dX7_isSetting_61 : decode cX7_isSetting 61 = .ok (.iconst 4, 1) := by decide +kernel
theorem dX7_isSetting_62 : decode cX7_isSetting 62 = .ok (.if_icmp .ne 17, 3) := by decide +kernel
theorem dX7_isSetting_65 : decode cX7_isSetting 65 = .ok (.iload_n 1, 1) := by decide +kernel
theorem dX7_isSetting_66 : decode cX7_isSetting 66 = .ok (.iconst 1, 1) := by decide +kernel
theorem dX7_isSetting_67 : decode cX7_isSetting 67 = .ok (.bipush 9, 2) := by decide +kernel
theorem dX7_isSetting_69 : decode cX7_isSetting 69 = .ok (.invokestatic 41, 3) := by decide +kernel
theorem dX7_isSetting_72 : decode cX7_isSetting 72 = .ok (.ifCond .eq 7, 3) := by decide +kernel
theorem dX7_isSetting_75 : decode cX7_isSetting 75 = .ok (.iconst 1, 1) := by decide +kernel
theorem dX7_isSetting_76 : decode cX7_isSetting 76 = .ok (.goto 4, 3) := by decide +kernel
theorem dX7_isSetting_79 : decode cX7_isSetting 79 = .ok (.iconst 0, 1) := by decide +kernel
theorem dX7_isSetting_80 : decode cX7_isSetting 80 = .ok (.ireturn, 1) := by decide +kernel
theorem dX7_set_0 : decode cX7_set 0 = .ok (.iload_n 1, 1) := by decide +kernel
theorem dX7_set_1 : decode cX7_set 1 = .ok (.iload_n 2, 1) := by decide +kernel
theorem dX7_set_2 : decode cX7_set 2 = .ok (.invokestatic 129, 3) := by decide +kernel
theorem dX7_set_5 : decode cX7_set 5 = .ok (.ifCond .ne 6, 3) := by decide +kernel
theorem dX7_set_8 : decode cX7_set 8 = .ok (.bipush (-2), 2) := by decide +kernel
theorem dX7_set_10 : decode cX7_set 10 = .ok (.ireturn, 1) := by decide +kernel
theorem dX7_set_11 : decode cX7_set 11 = .ok (.aload_n 0, 1) := by decide +kernel
theorem dX7_set_12 : decode cX7_set 12 = .ok (.getfield 7, 3) := by decide +kernel
theorem dX7_set_15 : decode cX7_set 15 = .ok (.iconst 4, 1) := by decide +kernel
theorem dX7_set_16 : decode cX7_set 16 = .ok (.iload_n 1, 1) := by decide +kernel
theorem dX7_set_17 : decode cX7_set 17 = .ok (.iadd, 1) := by decide +kernel
theorem dX7_set_18 : decode cX7_set 18 = .ok (.iaload, 1) := by decide +kernel
theorem dX7_set_19 : decode cX7_set 19 = .ok (.istore_n 3, 1) := by decide +kernel
theorem dX7_set_20 : decode cX7_set 20 = .ok (.iload_n 3, 1) := by decide +kernel
theorem dX7_set_21 : decode cX7_set 21 = .ok (.iload_n 2, 1) := by decide +kernel
theorem dX7_set_22 : decode cX7_set 22 = .ok (.if_icmp .ne 6, 3) := by decide +kernel
theorem dX7_set_25 : decode cX7_set 25 = .ok (.bipush (-5), 2) := by decide +kernel
theorem dX7_set_27 : decode cX7_set 27 = .ok (.ireturn, 1) := by decide +kernel
theorem dX7_set_28 : decode cX7_set 28 = .ok (.aload_n 0, 1) := by decide +kernel
theorem dX7_set_29 : decode cX7_set 29 = .ok (.invokevirtual 71, 3) := by decide +kernel
theorem dX7_set_32 : decode cX7_set 32 = .ok (.aload_n 0, 1) := by decide +kernel
theorem dX7_set_33 : decode cX7_set 33 = .ok (.getfield 7, 3) := by decide +kernel
theorem dX7_set_36 : decode cX7_set 36 = .ok (.iconst 4, 1) := by decide +kernel
theorem dX7_set_37 : decode cX7_set 37 = .ok (.iload_n 1, 1) := by decide +kernel
theorem dX7_set_38 : decode cX7_set 38 = .ok (.iadd, 1) := by decide +kernel
theorem dX7_set_39 : decode cX7_set 39 = .ok (.iload_n 2, 1) := by decide +kernel
theorem dX7_set_40 : decode cX7_set 40 = .ok (.iastore, 1) := by decide +kernel
theorem dX7_set_41 : decode cX7_set 41 = .ok (.iload_n 3, 1) := by decide +kernel
theorem dX7_set_42 : decode cX7_set 42 = .ok (.ireturn, 1) := by decide +kernel
theorem dX7_inState_0 : decode cX7_inState 0 = .ok (.iconst 0, 1) := by decide +kernel
theorem dX7_inState_1 : decode cX7_inState 1 = .ok (.istore_n 2, 1) := by decide +kernel
theorem dX7_inState_2 : decode cX7_inState 2 = .ok (.iconst 0, 1) := by decide +kernel
theorem dX7_inState_3 : decode cX7_inState 3 = .ok (.istore_n 3, 1) := by decide +kernel
theorem dX7_inState_4 : decode cX7_inState 4 = .ok (.iload_n 3, 1) := by decide +kernel
theorem dX7_inState_5 : decode cX7_inState 5 = .ok (.aload_n 0, 1) := by decide +kernel
theorem dX7_inState_6 : decode cX7_inState 6 = .ok (.getfield 7, 3) := by decide +kernel
theorem dX7_inState_9 : decode cX7_inState 9 = .ok (.iconst 1, 1) := by decide +kernel
theorem dX7_inState_10 : decode cX7_inState 10 = .ok (.iaload, 1) := by decide +kernel
theorem dX7_inState_11 : decode cX7_inState 11 = .ok (.if_icmp .ge 27, 3) := by decide +kernel
theorem dX7_inState_14 : decode cX7_inState 14 = .ok (.iload_n 2, 1) := by decide +kernel
theorem dX7_inState_15 : decode cX7_inState 15 = .ok (.aload_n 0, 1) := by decide +kernel
theorem dX7_inState_16 : decode cX7_inState 16 = .ok (.iload_n 3, 1) := by decide +kernel
theorem dX7_inState_17 : decode cX7_inState 17 = .ok (.iconst 2, 1) := by decide +kernel
theorem dX7_inState_18 : decode cX7_inState 18 = .ok (.invokevirtual 49, 3) := by decide +kernel
theorem dX7_inState_21 : decode cX7_inState 21 = .ok (.iload_n 1, 1) := by decide +kernel
theorem dX7_inState_22 : decode cX7_inState 22 = .ok (.if_icmp .ne 7, 3) := by decide +kernel
theorem dX7_inState_25 : decode cX7_inState 25 = .ok (.iconst 1, 1) := by decide +kernel
theorem dX7_inState_26 : decode cX7_inState 26 = .ok (.goto 4, 3) := by decide +kernel
theorem dX7_inState_29 : decode cX7_inState 29 = .ok (.iconst 0, 1) := by decide +kernel
theorem dX7_inState_30 : decode cX7_inState 30 = .ok (.iadd, 1) := by decide +kernel
theorem dX7_inState_31 : decode cX7_inState 31 = .ok (.istore_n 2, 1) := by decide +kernel
theorem dX7_inState_32 : decode cX7_inState 32 = .ok (.iinc 3 1, 3) := by decide +kernel
theorem dX7_inState_35 : decode cX7_inState 35 = .ok (.goto (-31), 3) := by decide +kernel
theorem dX7_inState_38 : decode cX7_inState 38 = .ok (.iload_n 2, 1) := by decide +kernel
theorem dX7_inState_39 : decode cX7_inState 39 = .ok (.ireturn, 1) := by decide +kernel
theorem dX7_tellDeath_0 : decode cX7_tellDeath 0 = .ok (.aload_n 0, 1) := by decide +kernel
theorem dX7_tellDeath_1 : decode cX7_tellDeath 1 = .ok (.iload_n 1, 1) := by decide +kernel
theorem dX7_tellDeath_2 : decode cX7_tellDeath 2 = .ok (.invokevirtual 45, 3) := by decide +kernel
theorem dX7_tellDeath_5 : decode cX7_tellDeath 5 = .ok (.ifCond .eq 12, 3) := by decide +kernel
theorem dX7_tellDeath_8 : decode cX7_tellDeath 8 = .ok (.iload_n 2, 1) := by decide +kernel
theorem dX7_tellDeath_9 : decode cX7_tellDeath 9 = .ok (.iconst 0, 1) := by decide +kernel
theorem dX7_tellDeath_10 : decode cX7_tellDeath 10 = .ok (.iconst 5, 1) := by decide +kernel
theorem dX7_tellDeath_11 : decode cX7_tellDeath 11 = .ok (.invokestatic 41, 3) := by decide +kernel
theorem dX7_tellDeath_14 : decode cX7_tellDeath 14 = .ok (.ifCond .ne 5, 3) := by decide +kernel
theorem dX7_tellDeath_17 : decode cX7_tellDeath 17 = .ok (.iconst (-1), 1) := by decide +kernel
theorem dX7_tellDeath_18 : decode cX7_tellDeath 18 = .ok (.ireturn, 1) := by decide +kernel
theorem dX7_tellDeath_19 : decode cX7_tellDeath 19 = .ok (.iload_n 1, 1) := by decide +kernel
theorem dX7_tellDeath_20 : decode cX7_tellDeath 20 = .ok (.invokestatic 37, 3) := by decide +kernel
theorem dX7_tellDeath_23 : decode cX7_tellDeath 23 = .ok (.istore_n 3, 1) := by decide +kernel
theorem dX7_tellDeath_24 : decode cX7_tellDeath 24 = .ok (.aload_n 0, 1) := by decide +kernel
theorem dX7_tellDeath_25 : decode cX7_tellDeath 25 = .ok (.getfield 7, 3) := by decide +kernel
theorem dX7_tellDeath_28 : decode cX7_tellDeath 28 = .ok (.iload_n 3, 1) := by decide +kernel
theorem dX7_tellDeath_29 : decode cX7_tellDeath 29 = .ok (.iconst 2, 1) := by decide +kernel
theorem dX7_tellDeath_30 : decode cX7_tellDeath 30 = .ok (.iadd, 1) := by decide +kernel
theorem dX7_tellDeath_31 : decode cX7_tellDeath 31 = .ok (.iaload, 1) := by decide +kernel
theorem dX7_tellDeath_32 : decode cX7_tellDeath 32 = .ok (.iconst 1, 1) := by decide +kernel
theorem dX7_tellDeath_33 : decode cX7_tellDeath 33 = .ok (.if_icmp .le 6, 3) := by decide +kernel
theorem dX7_tellDeath_36 : decode cX7_tellDeath 36 = .ok (.bipush (-4), 2) := by decide +kernel
theorem dX7_tellDeath_38 : decode cX7_tellDeath 38 = .ok (.ireturn, 1) := by decide +kernel
theorem dX7_tellDeath_39 : decode cX7_tellDeath 39 = .ok (.aload_n 0, 1) := by decide +kernel
theorem dX7_tellDeath_40 : decode cX7_tellDeath 40 = .ok (.getfield 7, 3) := by decide +kernel
theorem dX7_tellDeath_43 : decode cX7_tellDeath 43 = .ok (.iload_n 3, 1) := by decide +kernel
theorem dX7_tellDeath_44 : decode cX7_tellDeath 44 = .ok (.iconst 2, 1) := by decide +kernel
theorem dX7_tellDeath_45 : decode cX7_tellDeath 45 = .ok (.iadd, 1) := by decide +kernel
theorem dX7_tellDeath_46 : decode cX7_tellDeath 46 = .ok (.iaload, 1) := by decide +kernel
theorem dX7_tellDeath_47 : decode cX7_tellDeath 47 = .ok (.iconst 1, 1) := by decide +kernel
theorem dX7_tellDeath_48 : decode cX7_tellDeath 48 = .ok (.if_icmp .ne 18, 3) := by decide +kernel
theorem dX7_tellDeath_51 : decode cX7_tellDeath 51 = .ok (.aload_n 0, 1) := by decide +kernel
theorem dX7_tellDeath_52 : decode cX7_tellDeath 52 = .ok (.getfield 7, 3) := by decide +kernel
theorem dX7_tellDeath_55 : decode cX7_tellDeath 55 = .ok (.iload_n 3, 1) := by decide +kernel
theorem dX7_tellDeath_56 : decode cX7_tellDeath 56 = .ok (.iconst 5, 1) := by decide +kernel
theorem dX7_tellDeath_57 : decode cX7_tellDeath 57 = .ok (.iadd, 1) := by decide +kernel
theorem dX7_tellDeath_58 : decode cX7_tellDeath 58 = .ok (.iaload, 1) := by decide +kernel
theorem dX7_tellDeath_59 : decode cX7_tellDeath 59 = .ok (.iload_n 2, 1) := by decide +kernel
theorem dX7_tellDeath_60 : decode cX7_tellDeath 60 = .ok (.if_icmp .ne 6, 3) := by decide +kernel
theorem dX7_tellDeath_63 : decode cX7_tellDeath 63 = .ok (.bipush (-5), 2) := by decide +kernel
theorem dX7_tellDeath_65 : decode cX7_tellDeath 65 = .ok (.ireturn, 1) := by decide +kernel
theorem dX7_tellDeath_66 : decode cX7_tellDeath 66 = .ok (.aload_n 0, 1) := by decide +kernel
theorem dX7_tellDeath_67 : decode cX7_tellDeath 67 = .ok (.invokevirtual 71, 3) := by decide +kernel
theorem dX7_tellDeath_70 : decode cX7_tellDeath 70 = .ok (.aload_n 0, 1) := by decide +kernel
theorem dX7_tellDeath_71 : decode cX7_tellDeath 71 = .ok (.getfield 7, 3) := by decide +kernel
theorem dX7_tellDeath_74 : decode cX7_tellDeath 74 = .ok (.iload_n 3, 1) := by decide +kernel
theorem dX7_tellDeath_75 : decode cX7_tellDeath 75 = .ok (.iconst 4, 1) := by decide +kernel
theorem dX7_tellDeath_76 : decode cX7_tellDeath 76 = .ok (.iadd, 1) := by decide +kernel
theorem dX7_tellDeath_77 : decode cX7_tellDeath 77 = .ok (.aload_n 0, 1) := by decide +kernel
theorem dX7_tellDeath_78 : decode cX7_tellDeath 78 = .ok (.getfield 7, 3) := by decide +kernel
theorem dX7_tellDeath_81 : decode cX7_tellDeath 81 = .ok (.iconst 0, 1) := by decide +kernel
theorem dX7_tellDeath_82 : decode cX7_tellDeath 82 = .ok (.iaload, 1) := by decide +kernel
theorem dX7_tellDeath_83 : decode cX7_tellDeath 83 = .ok (.iastore, 1) := by decide +kernel
theorem dX7_tellDeath_84 : decode cX7_tellDeath 84 = .ok (.aload_n 0, 1) := by decide +kernel
theorem dX7_tellDeath_85 : decode cX7_tellDeath 85 = .ok (.getfield 7, 3) := by decide +kernel
theorem dX7_tellDeath_88 : decode cX7_tellDeath 88 = .ok (.iload_n 3, 1) := by decide +kernel
theorem dX7_tellDeath_89 : decode cX7_tellDeath 89 = .ok (.iconst 5, 1) := by decide +kernel
theorem dX7_tellDeath_90 : decode cX7_tellDeath 90 = .ok (.iadd, 1) := by decide +kernel
theorem dX7_tellDeath_91 : decode cX7_tellDeath 91 = .ok (.iload_n 2, 1) := by decide +kernel
theorem dX7_tellDeath_92 : decode cX7_tellDeath 92 = .ok (.iastore, 1) := by decide +kernel
theorem dX7_tellDeath_93 : decode cX7_tellDeath 93 = .ok (.aload_n 0, 1) := by decide +kernel
theorem dX7_tellDeath_94 : decode cX7_tellDeath 94 = .ok (.getfield 7, 3) := by decide +kernel
theorem dX7_tellDeath_97 : decode cX7_tellDeath 97 = .ok (.iload_n 3, 1) := by decide +kernel
theorem dX7_tellDeath_98 : decode cX7_tellDeath 98 = .ok (.iconst 2, 1) := by decide +kernel
theorem dX7_tellDeath_99 : decode cX7_tellDeath 99 = .ok (.iadd, 1) := by decide +kernel
theorem dX7_tellDeath_100 : decode cX7_tellDeath 100 = .ok (.dup2, 1) := by decide +kernel
theorem dX7_tellDeath_101 : decode cX7_tellDeath 101 = .ok (.iaload, 1) := by decide +kernel
theorem dX7_tellDeath_102 : decode cX7_tellDeath 102 = .ok (.iconst 1, 1) := by decide +kernel
theorem dX7_tellDeath_103 : decode cX7_tellDeath 103 = .ok (.iadd, 1) := by decide +kernel
theorem dX7_tellDeath_104 : decode cX7_tellDeath 104 = .ok (.iastore, 1) := by decide +kernel
theorem dX7_tellDeath_105 : decode cX7_tellDeath 105 = .ok (.aload_n 0, 1) := by decide +kernel
theorem dX7_tellDeath_106 : decode cX7_tellDeath 106 = .ok (.getfield 7, 3) := by decide +kernel
theorem dX7_tellDeath_109 : decode cX7_tellDeath 109 = .ok (.iload_n 3, 1) := by decide +kernel
theorem dX7_tellDeath_110 : decode cX7_tellDeath 110 = .ok (.iconst 2, 1) := by decide +kernel
theorem dX7_tellDeath_111 : decode cX7_tellDeath 111 = .ok (.iadd, 1) := by decide +kernel
theorem dX7_tellDeath_112 : decode cX7_tellDeath 112 = .ok (.iaload, 1) := by decide +kernel
theorem dX7_tellDeath_113 : decode cX7_tellDeath 113 = .ok (.iconst 1, 1) := by decide +kernel
theorem dX7_tellDeath_114 : decode cX7_tellDeath 114 = .ok (.isub, 1) := by decide +kernel
theorem dX7_tellDeath_115 : decode cX7_tellDeath 115 = .ok (.ireturn, 1) := by decide +kernel
theorem dX7_decide_0 : decode cX7_decide 0 = .ok (.aload_n 0, 1) := by decide +kernel
theorem dX7_decide_1 : decode cX7_decide 1 = .ok (.iload_n 1, 1) := by decide +kernel
theorem dX7_decide_2 : decode cX7_decide 2 = .ok (.invokevirtual 45, 3) := by decide +kernel
theorem dX7_decide_5 : decode cX7_decide 5 = .ok (.ifCond .ne 5, 3) := by decide +kernel
theorem dX7_decide_8 : decode cX7_decide 8 = .ok (.iconst (-1), 1) := by decide +kernel
theorem dX7_decide_9 : decode cX7_decide 9 = .ok (.ireturn, 1) := by decide +kernel
theorem dX7_decide_10 : decode cX7_decide 10 = .ok (.iload_n 1, 1) := by decide +kernel
theorem dX7_decide_11 : decode cX7_decide 11 = .ok (.invokestatic 37, 3) := by decide +kernel
theorem dX7_decide_14 : decode cX7_decide 14 = .ok (.istore_n 3, 1) := by decide +kernel
theorem dX7_decide_15 : decode cX7_decide 15 = .ok (.aload_n 0, 1) := by decide +kernel
theorem dX7_decide_16 : decode cX7_decide 16 = .ok (.getfield 7, 3) := by decide +kernel
theorem dX7_decide_19 : decode cX7_decide 19 = .ok (.iload_n 3, 1) := by decide +kernel
theorem dX7_decide_20 : decode cX7_decide 20 = .ok (.iconst 2, 1) := by decide +kernel
theorem dX7_decide_21 : decode cX7_decide 21 = .ok (.iadd, 1) := by decide +kernel
theorem dX7_decide_22 : decode cX7_decide 22 = .ok (.iaload, 1) := by decide +kernel
theorem dX7_decide_23 : decode cX7_decide 23 = .ok (.iconst 1, 1) := by decide +kernel
theorem dX7_decide_24 : decode cX7_decide 24 = .ok (.if_icmp .eq 6, 3) := by decide +kernel
theorem dX7_decide_27 : decode cX7_decide 27 = .ok (.bipush (-4), 2) := by decide +kernel
theorem dX7_decide_29 : decode cX7_decide 29 = .ok (.ireturn, 1) := by decide +kernel
theorem dX7_decide_30 : decode cX7_decide 30 = .ok (.aload_n 0, 1) := by decide +kernel
theorem dX7_decide_31 : decode cX7_decide 31 = .ok (.invokevirtual 71, 3) := by decide +kernel
theorem dX7_decide_34 : decode cX7_decide 34 = .ok (.aload_n 0, 1) := by decide +kernel
theorem dX7_decide_35 : decode cX7_decide 35 = .ok (.getfield 7, 3) := by decide +kernel
theorem dX7_decide_38 : decode cX7_decide 38 = .ok (.iload_n 3, 1) := by decide +kernel
theorem dX7_decide_39 : decode cX7_decide 39 = .ok (.iconst 2, 1) := by decide +kernel
theorem dX7_decide_40 : decode cX7_decide 40 = .ok (.iadd, 1) := by decide +kernel
theorem dX7_decide_41 : decode cX7_decide 41 = .ok (.iload_n 2, 1) := by decide +kernel
theorem dX7_decide_42 : decode cX7_decide 42 = .ok (.ifCond .eq 7, 3) := by decide +kernel
theorem dX7_decide_45 : decode cX7_decide 45 = .ok (.iconst 2, 1) := by decide +kernel
theorem dX7_decide_46 : decode cX7_decide 46 = .ok (.goto 4, 3) := by decide +kernel
theorem dX7_decide_49 : decode cX7_decide 49 = .ok (.iconst 0, 1) := by decide +kernel
theorem dX7_decide_50 : decode cX7_decide 50 = .ok (.iastore, 1) := by decide +kernel
theorem dX7_decide_51 : decode cX7_decide 51 = .ok (.aload_n 0, 1) := by decide +kernel
theorem dX7_decide_52 : decode cX7_decide 52 = .ok (.getfield 7, 3) := by decide +kernel
theorem dX7_decide_55 : decode cX7_decide 55 = .ok (.iload_n 3, 1) := by decide +kernel
theorem dX7_decide_56 : decode cX7_decide 56 = .ok (.iconst 4, 1) := by decide +kernel
theorem dX7_decide_57 : decode cX7_decide 57 = .ok (.iadd, 1) := by decide +kernel
theorem dX7_decide_58 : decode cX7_decide 58 = .ok (.aload_n 0, 1) := by decide +kernel
theorem dX7_decide_59 : decode cX7_decide 59 = .ok (.getfield 7, 3) := by decide +kernel
theorem dX7_decide_62 : decode cX7_decide 62 = .ok (.iconst 0, 1) := by decide +kernel
theorem dX7_decide_63 : decode cX7_decide 63 = .ok (.iaload, 1) := by decide +kernel
theorem dX7_decide_64 : decode cX7_decide 64 = .ok (.iastore, 1) := by decide +kernel
theorem dX7_decide_65 : decode cX7_decide 65 = .ok (.aload_n 0, 1) := by decide +kernel
theorem dX7_decide_66 : decode cX7_decide 66 = .ok (.iconst 1, 1) := by decide +kernel
theorem dX7_decide_67 : decode cX7_decide 67 = .ok (.invokevirtual 132, 3) := by decide +kernel
theorem dX7_decide_70 : decode cX7_decide 70 = .ok (.ireturn, 1) := by decide +kernel
theorem dX7_isAhead_0 : decode cX7_isAhead 0 = .ok (.aload_n 0, 1) := by decide +kernel
theorem dX7_isAhead_1 : decode cX7_isAhead 1 = .ok (.iload_n 2, 1) := by decide +kernel
theorem dX7_isAhead_2 : decode cX7_isAhead 2 = .ok (.iconst 1, 1) := by decide +kernel
theorem dX7_isAhead_3 : decode cX7_isAhead 3 = .ok (.invokevirtual 49, 3) := by decide +kernel
theorem dX7_isAhead_6 : decode cX7_isAhead 6 = .ok (.aload_n 0, 1) := by decide +kernel
theorem dX7_isAhead_7 : decode cX7_isAhead 7 = .ok (.iload_n 1, 1) := by decide +kernel
theorem dX7_isAhead_8 : decode cX7_isAhead 8 = .ok (.iconst 1, 1) := by decide +kernel
theorem dX7_isAhead_9 : decode cX7_isAhead 9 = .ok (.invokevirtual 49, 3) := by decide +kernel
theorem dX7_isAhead_12 : decode cX7_isAhead 12 = .ok (.isub, 1) := by decide +kernel
theorem dX7_isAhead_13 : decode cX7_isAhead 13 = .ok (.istore_n 3, 1) := by decide +kernel
theorem dX7_isAhead_14 : decode cX7_isAhead 14 = .ok (.iload_n 3, 1) := by decide +kernel
theorem dX7_isAhead_15 : decode cX7_isAhead 15 = .ok (.ifCond .eq 7, 3) := by decide +kernel
theorem dX7_isAhead_18 : decode cX7_isAhead 18 = .ok (.iload_n 3, 1) := by decide +kernel
theorem dX7_isAhead_19 : decode cX7_isAhead 19 = .ok (.goto 16, 3) := by decide +kernel
theorem dX7_isAhead_22 : decode cX7_isAhead 22 = .ok (.aload_n 0, 1) := by decide +kernel
theorem dX7_isAhead_23 : decode cX7_isAhead 23 = .ok (.iload_n 1, 1) := by decide +kernel
theorem dX7_isAhead_24 : decode cX7_isAhead 24 = .ok (.iconst 4, 1) := by decide +kernel
theorem dX7_isAhead_25 : decode cX7_isAhead 25 = .ok (.invokevirtual 49, 3) := by decide +kernel
theorem dX7_isAhead_28 : decode cX7_isAhead 28 = .ok (.aload_n 0, 1) := by decide +kernel
theorem dX7_isAhead_29 : decode cX7_isAhead 29 = .ok (.iload_n 2, 1) := by decide +kernel
theorem dX7_isAhead_30 : decode cX7_isAhead 30 = .ok (.iconst 4, 1) := by decide +kernel
theorem dX7_isAhead_31 : decode cX7_isAhead 31 = .ok (.invokevirtual 49, 3) := by decide +kernel
theorem dX7_isAhead_34 : decode cX7_isAhead 34 = .ok (.isub, 1) := by decide +kernel
theorem dX7_isAhead_35 : decode cX7_isAhead 35 = .ok (.istore_n 3, 1) := by decide +kernel
theorem dX7_isAhead_36 : decode cX7_isAhead 36 = .ok (.iload_n 3, 1) := by decide +kernel
theorem dX7_isAhead_37 : decode cX7_isAhead 37 = .ok (.ifCond .lt 12, 3) := by decide +kernel
theorem dX7_isAhead_40 : decode cX7_isAhead 40 = .ok (.iload_n 3, 1) := by decide +kernel
theorem dX7_isAhead_41 : decode cX7_isAhead 41 = .ok (.ifCond .ne 12, 3) := by decide +kernel
theorem dX7_isAhead_44 : decode cX7_isAhead 44 = .ok (.iload_n 1, 1) := by decide +kernel
theorem dX7_isAhead_45 : decode cX7_isAhead 45 = .ok (.iload_n 2, 1) := by decide +kernel
theorem dX7_isAhead_46 : decode cX7_isAhead 46 = .ok (.if_icmp .ge 7, 3) := by decide +kernel
theorem dX7_isAhead_49 : decode cX7_isAhead 49 = .ok (.iconst 1, 1) := by decide +kernel
theorem dX7_isAhead_50 : decode cX7_isAhead 50 = .ok (.goto 4, 3) := by decide +kernel
theorem dX7_isAhead_53 : decode cX7_isAhead 53 = .ok (.iconst 0, 1) := by decide +kernel
theorem dX7_isAhead_54 : decode cX7_isAhead 54 = .ok (.ireturn, 1) := by decide +kernel
theorem dX7_layPage_0 : decode cX7_layPage 0 = .ok (.aload_n 0, 1) := by decide +kernel
theorem dX7_layPage_1 : decode cX7_layPage 1 = .ok (.iconst 0, 1) := by decide +kernel
theorem dX7_layPage_2 : decode cX7_layPage 2 = .ok (.putfield 135, 3) := by decide +kernel
theorem dX7_layPage_5 : decode cX7_layPage 5 = .ok (.aload_n 0, 1) := by decide +kernel
theorem dX7_layPage_6 : decode cX7_layPage 6 = .ok (.aload_n 0, 1) := by decide +kernel
theorem dX7_layPage_7 : decode cX7_layPage 7 = .ok (.getfield 7, 3) := by decide +kernel
theorem dX7_layPage_10 : decode cX7_layPage 10 = .ok (.iconst 5, 1) := by decide +kernel
theorem dX7_layPage_11 : decode cX7_layPage 11 = .ok (.iaload, 1) := by decide +kernel
theorem dX7_layPage_12 : decode cX7_layPage 12 = .ok (.putfield 138, 3) := by decide +kernel
theorem dX7_layPage_15 : decode cX7_layPage 15 = .ok (.iconst 0, 1) := by decide +kernel
theorem dX7_layPage_16 : decode cX7_layPage 16 = .ok (.istore_n 1, 1) := by decide +kernel
theorem dX7_layPage_17 : decode cX7_layPage 17 = .ok (.iload_n 1, 1) := by decide +kernel
theorem dX7_layPage_18 : decode cX7_layPage 18 = .ok (.bipush 20, 2) := by decide +kernel
theorem dX7_layPage_20 : decode cX7_layPage 20 = .ok (.if_icmp .ge 48, 3) := by decide +kernel
theorem dX7_layPage_23 : decode cX7_layPage 23 = .ok (.aload_n 0, 1) := by decide +kernel
theorem dX7_layPage_24 : decode cX7_layPage 24 = .ok (.getfield 22, 3) := by decide +kernel
theorem dX7_layPage_27 : decode cX7_layPage 27 = .ok (.iload_n 1, 1) := by decide +kernel
theorem dX7_layPage_28 : decode cX7_layPage 28 = .ok (.iload_n 1, 1) := by decide +kernel
theorem dX7_layPage_29 : decode cX7_layPage 29 = .ok (.aload_n 0, 1) := by decide +kernel
theorem dX7_layPage_30 : decode cX7_layPage 30 = .ok (.getfield 7, 3) := by decide +kernel
theorem dX7_layPage_33 : decode cX7_layPage 33 = .ok (.iconst 1, 1) := by decide +kernel
theorem dX7_layPage_34 : decode cX7_layPage 34 = .ok (.iaload, 1) := by decide +kernel
theorem dX7_layPage_35 : decode cX7_layPage 35 = .ok (.if_icmp .ge 21, 3) := by decide +kernel
theorem dX7_layPage_38 : decode cX7_layPage 38 = .ok (.aload_n 0, 1) := by decide +kernel
theorem dX7_layPage_39 : decode cX7_layPage 39 = .ok (.iload_n 1, 1) := by decide +kernel
theorem dX7_layPage_40 : decode cX7_layPage 40 = .ok (.iconst 2, 1) := by decide +kernel
theorem dX7_layPage_41 : decode cX7_layPage 41 = .ok (.invokevirtual 49, 3) := by decide +kernel
theorem dX7_layPage_44 : decode cX7_layPage 44 = .ok (.iconst 2, 1) := by decide +kernel
theorem dX7_layPage_45 : decode cX7_layPage 45 = .ok (.if_icmp .ne 11, 3) := by decide +kernel
theorem dX7_layPage_48 : decode cX7_layPage 48 = .ok (.aload_n 0, 1) := by decide +kernel
theorem dX7_layPage_49 : decode cX7_layPage 49 = .ok (.iload_n 1, 1) := by decide +kernel
theorem dX7_layPage_50 : decode cX7_layPage 50 = .ok (.invokevirtual 141, 3) := by decide +kernel
theorem dX7_layPage_53 : decode cX7_layPage 53 = .ok (.ifCond .ne 7, 3) := by decide +kernel
theorem dX7_layPage_56 : decode cX7_layPage 56 = .ok (.iconst 1, 1) := by decide +kernel
theorem dX7_layPage_57 : decode cX7_layPage 57 = .ok (.goto 4, 3) := by decide +kernel
theorem dX7_layPage_60 : decode cX7_layPage 60 = .ok (.iconst 0, 1) := by decide +kernel
theorem dX7_layPage_61 : decode cX7_layPage 61 = .ok (.bastore, 1) := by decide +kernel
theorem dX7_layPage_62 : decode cX7_layPage 62 = .ok (.iinc 1 1, 3) := by decide +kernel
theorem dX7_layPage_65 : decode cX7_layPage 65 = .ok (.goto (-48), 3) := by decide +kernel
theorem dX7_layPage_68 : decode cX7_layPage 68 = .ok (.iconst 1, 1) := by decide +kernel
theorem dX7_layPage_69 : decode cX7_layPage 69 = .ok (.istore_n 1, 1) := by decide +kernel
theorem dX7_layPage_70 : decode cX7_layPage 70 = .ok (.iload_n 1, 1) := by decide +kernel
theorem dX7_layPage_71 : decode cX7_layPage 71 = .ok (.ifCond .eq 122, 3) := by decide +kernel
theorem dX7_layPage_74 : decode cX7_layPage 74 = .ok (.bipush (-5), 2) := by decide +kernel
theorem dX7_layPage_76 : decode cX7_layPage 76 = .ok (.istore_n 2, 1) := by decide +kernel
theorem dX7_layPage_77 : decode cX7_layPage 77 = .ok (.iconst 0, 1) := by decide +kernel
theorem dX7_layPage_78 : decode cX7_layPage 78 = .ok (.istore_n 3, 1) := by decide +kernel
theorem dX7_layPage_79 : decode cX7_layPage 79 = .ok (.iload_n 3, 1) := by decide +kernel
theorem dX7_layPage_80 : decode cX7_layPage 80 = .ok (.bipush 20, 2) := by decide +kernel
theorem dX7_layPage_82 : decode cX7_layPage 82 = .ok (.if_icmp .ge 39, 3) := by decide +kernel
theorem dX7_layPage_85 : decode cX7_layPage 85 = .ok (.aload_n 0, 1) := by decide +kernel
theorem dX7_layPage_86 : decode cX7_layPage 86 = .ok (.getfield 22, 3) := by decide +kernel
theorem dX7_layPage_89 : decode cX7_layPage 89 = .ok (.iload_n 3, 1) := by decide +kernel
theorem dX7_layPage_90 : decode cX7_layPage 90 = .ok (.baload, 1) := by decide +kernel
theorem dX7_layPage_91 : decode cX7_layPage 91 = .ok (.ifCond .ne 22, 3) := by decide +kernel
theorem dX7_layPage_94 : decode cX7_layPage 94 = .ok (.iload_n 2, 1) := by decide +kernel
theorem dX7_layPage_95 : decode cX7_layPage 95 = .ok (.bipush (-5), 2) := by decide +kernel
theorem dX7_layPage_97 : decode cX7_layPage 97 = .ok (.if_icmp .eq 12, 3) := by decide +kernel
theorem dX7_layPage_100 : decode cX7_layPage 100 = .ok (.aload_n 0, 1) := by decide +kernel
theorem dX7_layPage_101 : decode cX7_layPage 101 = .ok (.iload_n 3, 1) := by decide +kernel
theorem dX7_layPage_102 : decode cX7_layPage 102 = .ok (.iload_n 2, 1) := by decide +kernel
theorem dX7_layPage_103 : decode cX7_layPage 103 = .ok (.invokevirtual 144, 3) := by decide +kernel
theorem dX7_layPage_106 : decode cX7_layPage 106 = .ok (.ifCond .eq 7, 3) := by decide +kernel
theorem dX7_layPage_109 : decode cX7_layPage 109 = .ok (.iload_n 3, 1) := by decide +kernel
theorem dX7_layPage_110 : decode cX7_layPage 110 = .ok (.goto 4, 3) := by decide +kernel
theorem dX7_layPage_113 : decode cX7_layPage 113 = .ok (.iload_n 2, 1) := by decide +kernel
theorem dX7_layPage_114 : decode cX7_layPage 114 = .ok (.istore_n 2, 1) := by decide +kernel
theorem dX7_layPage_115 : decode cX7_layPage 115 = .ok (.iinc 3 1, 3) := by decide +kernel
theorem dX7_layPage_118 : decode cX7_layPage 118 = .ok (.goto (-39), 3) := by decide +kernel
theorem dX7_layPage_121 : decode cX7_layPage 121 = .ok (.iload_n 2, 1) := by decide +kernel
theorem dX7_layPage_122 : decode cX7_layPage 122 = .ok (.bipush (-5), 2) := by decide +kernel
theorem dX7_layPage_124 : decode cX7_layPage 124 = .ok (.if_icmp .eq 7, 3) := by decide +kernel
theorem dX7_layPage_127 : decode cX7_layPage 127 = .ok (.iconst 1, 1) := by decide +kernel
theorem dX7_layPage_128 : decode cX7_layPage 128 = .ok (.goto 4, 3) := by decide +kernel
theorem dX7_layPage_131 : decode cX7_layPage 131 = .ok (.iconst 0, 1) := by decide +kernel
theorem dX7_layPage_132 : decode cX7_layPage 132 = .ok (.istore_n 1, 1) := by decide +kernel
theorem dX7_layPage_133 : decode cX7_layPage 133 = .ok (.iload_n 1, 1) := by decide +kernel
theorem dX7_layPage_134 : decode cX7_layPage 134 = .ok (.ifCond .eq 56, 3) := by decide +kernel
theorem dX7_layPage_137 : decode cX7_layPage 137 = .ok (.aload_n 0, 1) := by decide +kernel
theorem dX7_layPage_138 : decode cX7_layPage 138 = .ok (.getfield 22, 3) := by decide +kernel
theorem dX7_layPage_141 : decode cX7_layPage 141 = .ok (.iload_n 2, 1) := by decide +kernel
theorem dX7_layPage_142 : decode cX7_layPage 142 = .ok (.iconst 1, 1) := by decide +kernel
theorem dX7_layPage_143 : decode cX7_layPage 143 = .ok (.bastore, 1) := by decide +kernel
theorem dX7_layPage_144 : decode cX7_layPage 144 = .ok (.aload_n 0, 1) := by decide +kernel
theorem dX7_layPage_145 : decode cX7_layPage 145 = .ok (.iload_n 2, 1) := by decide +kernel
theorem dX7_layPage_146 : decode cX7_layPage 146 = .ok (.invokevirtual 147, 3) := by decide +kernel
theorem dX7_layPage_149 : decode cX7_layPage 149 = .ok (.aload_n 0, 1) := by decide +kernel
theorem dX7_layPage_150 : decode cX7_layPage 150 = .ok (.getfield 138, 3) := by decide +kernel
theorem dX7_layPage_153 : decode cX7_layPage 153 = .ok (.if_icmp .gt 37, 3) := by decide +kernel
theorem dX7_layPage_156 : decode cX7_layPage 156 = .ok (.aload_n 0, 1) := by decide +kernel
theorem dX7_layPage_157 : decode cX7_layPage 157 = .ok (.getfield 19, 3) := by decide +kernel
theorem dX7_layPage_160 : decode cX7_layPage 160 = .ok (.aload_n 0, 1) := by decide +kernel
theorem dX7_layPage_161 : decode cX7_layPage 161 = .ok (.getfield 135, 3) := by decide +kernel
theorem dX7_layPage_164 : decode cX7_layPage 164 = .ok (.iload_n 2, 1) := by decide +kernel
theorem dX7_layPage_165 : decode cX7_layPage 165 = .ok (.iastore, 1) := by decide +kernel
theorem dX7_layPage_166 : decode cX7_layPage 166 = .ok (.aload_n 0, 1) := by decide +kernel
theorem dX7_layPage_167 : decode cX7_layPage 167 = .ok (.dup, 1) := by decide +kernel
theorem dX7_layPage_168 : decode cX7_layPage 168 = .ok (.getfield 135, 3) := by decide +kernel
theorem dX7_layPage_171 : decode cX7_layPage 171 = .ok (.iconst 1, 1) := by decide +kernel
theorem dX7_layPage_172 : decode cX7_layPage 172 = .ok (.iadd, 1) := by decide +kernel
theorem dX7_layPage_173 : decode cX7_layPage 173 = .ok (.putfield 135, 3) := by decide +kernel
theorem dX7_layPage_176 : decode cX7_layPage 176 = .ok (.aload_n 0, 1) := by decide +kernel
theorem dX7_layPage_177 : decode cX7_layPage 177 = .ok (.dup, 1) := by decide +kernel
theorem dX7_layPage_178 : decode cX7_layPage 178 = .ok (.getfield 138, 3) := by decide +kernel
theorem dX7_layPage_181 : decode cX7_layPage 181 = .ok (.aload_n 0, 1) := by decide +kernel
theorem dX7_layPage_182 : decode cX7_layPage 182 = .ok (.iload_n 2, 1) := by decide +kernel
theorem dX7_layPage_183 : decode cX7_layPage 183 = .ok (.invokevirtual 147, 3) := by decide +kernel
theorem dX7_layPage_186 : decode cX7_layPage 186 = .ok (.isub, 1) := by decide +kernel
theorem dX7_layPage_187 : decode cX7_layPage 187 = .ok (.putfield 138, 3) := by decide +kernel
theorem dX7_layPage_190 : decode cX7_layPage 190 = .ok (.goto (-120), 3) := by decide +kernel
theorem dX7_layPage_193 : decode cX7_layPage 193 = .ok (.return_, 1) := by decide +kernel
theorem dX7_print_0 : decode cX7_print 0 = .ok (.aload_n 0, 1) := by decide +kernel
theorem dX7_print_1 : decode cX7_print 1 = .ok (.getfield 7, 3) := by decide +kernel
theorem dX7_print_4 : decode cX7_print 4 = .ok (.iconst 0, 1) := by decide +kernel
theorem dX7_print_5 : decode cX7_print 5 = .ok (.iaload, 1) := by decide +kernel
theorem dX7_print_6 : decode cX7_print 6 = .ok (.sipush 9999, 3) := by decide +kernel
theorem dX7_print_9 : decode cX7_print 9 = .ok (.if_icmp .ne 6, 3) := by decide +kernel
theorem dX7_print_12 : decode cX7_print 12 = .ok (.bipush (-3), 2) := by decide +kernel
theorem dX7_print_14 : decode cX7_print 14 = .ok (.ireturn, 1) := by decide +kernel
theorem dX7_print_15 : decode cX7_print 15 = .ok (.aload_n 0, 1) := by decide +kernel
theorem dX7_print_16 : decode cX7_print 16 = .ok (.invokevirtual 71, 3) := by decide +kernel
theorem dX7_print_19 : decode cX7_print 19 = .ok (.aload_n 0, 1) := by decide +kernel
theorem dX7_print_20 : decode cX7_print 20 = .ok (.invokevirtual 150, 3) := by decide +kernel
theorem dX7_print_23 : decode cX7_print 23 = .ok (.iconst 0, 1) := by decide +kernel
theorem dX7_print_24 : decode cX7_print 24 = .ok (.istore_n 1, 1) := by decide +kernel
theorem dX7_print_25 : decode cX7_print 25 = .ok (.iload_n 1, 1) := by decide +kernel
theorem dX7_print_26 : decode cX7_print 26 = .ok (.aload_n 0, 1) := by decide +kernel
theorem dX7_print_27 : decode cX7_print 27 = .ok (.getfield 135, 3) := by decide +kernel
theorem dX7_print_30 : decode cX7_print 30 = .ok (.if_icmp .ge 49, 3) := by decide +kernel
theorem dX7_print_33 : decode cX7_print 33 = .ok (.aload_n 0, 1) := by decide +kernel
theorem dX7_print_34 : decode cX7_print 34 = .ok (.getfield 7, 3) := by decide +kernel
theorem dX7_print_37 : decode cX7_print 37 = .ok (.aload_n 0, 1) := by decide +kernel
theorem dX7_print_38 : decode cX7_print 38 = .ok (.getfield 19, 3) := by decide +kernel
theorem dX7_print_41 : decode cX7_print 41 = .ok (.iload_n 1, 1) := by decide +kernel
theorem dX7_print_42 : decode cX7_print 42 = .ok (.iaload, 1) := by decide +kernel
theorem dX7_print_43 : decode cX7_print 43 = .ok (.invokestatic 37, 3) := by decide +kernel
theorem dX7_print_46 : decode cX7_print 46 = .ok (.iconst 2, 1) := by decide +kernel
theorem dX7_print_47 : decode cX7_print 47 = .ok (.iadd, 1) := by decide +kernel
theorem dX7_print_48 : decode cX7_print 48 = .ok (.iconst 3, 1) := by decide +kernel
theorem dX7_print_49 : decode cX7_print 49 = .ok (.iastore, 1) := by decide +kernel
theorem dX7_print_50 : decode cX7_print 50 = .ok (.aload_n 0, 1) := by decide +kernel
theorem dX7_print_51 : decode cX7_print 51 = .ok (.getfield 7, 3) := by decide +kernel
theorem dX7_print_54 : decode cX7_print 54 = .ok (.aload_n 0, 1) := by decide +kernel
theorem dX7_print_55 : decode cX7_print 55 = .ok (.getfield 19, 3) := by decide +kernel
theorem dX7_print_58 : decode cX7_print 58 = .ok (.iload_n 1, 1) := by decide +kernel
theorem dX7_print_59 : decode cX7_print 59 = .ok (.iaload, 1) := by decide +kernel
theorem dX7_print_60 : decode cX7_print 60 = .ok (.invokestatic 37, 3) := by decide +kernel
theorem dX7_print_63 : decode cX7_print 63 = .ok (.bipush 6, 2) := by decide +kernel
theorem dX7_print_65 : decode cX7_print 65 = .ok (.iadd, 1) := by decide +kernel
theorem dX7_print_66 : decode cX7_print 66 = .ok (.aload_n 0, 1) := by decide +kernel
theorem dX7_print_67 : decode cX7_print 67 = .ok (.getfield 7, 3) := by decide +kernel
theorem dX7_print_70 : decode cX7_print 70 = .ok (.iconst 0, 1) := by decide +kernel
theorem dX7_print_71 : decode cX7_print 71 = .ok (.iaload, 1) := by decide +kernel
theorem dX7_print_72 : decode cX7_print 72 = .ok (.iastore, 1) := by decide +kernel
theorem dX7_print_73 : decode cX7_print 73 = .ok (.iinc 1 1, 3) := by decide +kernel
theorem dX7_print_76 : decode cX7_print 76 = .ok (.goto (-51), 3) := by decide +kernel
theorem dX7_print_79 : decode cX7_print 79 = .ok (.iconst 0, 1) := by decide +kernel
theorem dX7_print_80 : decode cX7_print 80 = .ok (.istore_n 1, 1) := by decide +kernel
theorem dX7_print_81 : decode cX7_print 81 = .ok (.iload_n 1, 1) := by decide +kernel
theorem dX7_print_82 : decode cX7_print 82 = .ok (.aload_n 0, 1) := by decide +kernel
theorem dX7_print_83 : decode cX7_print 83 = .ok (.getfield 7, 3) := by decide +kernel
theorem dX7_print_86 : decode cX7_print 86 = .ok (.iconst 1, 1) := by decide +kernel
theorem dX7_print_87 : decode cX7_print 87 = .ok (.iaload, 1) := by decide +kernel
theorem dX7_print_88 : decode cX7_print 88 = .ok (.if_icmp .ge 75, 3) := by decide +kernel
theorem dX7_print_91 : decode cX7_print 91 = .ok (.aload_n 0, 1) := by decide +kernel
theorem dX7_print_92 : decode cX7_print 92 = .ok (.iload_n 1, 1) := by decide +kernel
theorem dX7_print_93 : decode cX7_print 93 = .ok (.iconst 2, 1) := by decide +kernel
theorem dX7_print_94 : decode cX7_print 94 = .ok (.invokevirtual 49, 3) := by decide +kernel
theorem dX7_print_97 : decode cX7_print 97 = .ok (.iconst 1, 1) := by decide +kernel
theorem dX7_print_98 : decode cX7_print 98 = .ok (.if_icmp .ne 32, 3) := by decide +kernel
theorem dX7_print_101 : decode cX7_print 101 = .ok (.aload_n 0, 1) := by decide +kernel
theorem dX7_print_102 : decode cX7_print 102 = .ok (.getfield 7, 3) := by decide +kernel
theorem dX7_print_105 : decode cX7_print 105 = .ok (.iconst 0, 1) := by decide +kernel
theorem dX7_print_106 : decode cX7_print 106 = .ok (.iaload, 1) := by decide +kernel
theorem dX7_print_107 : decode cX7_print 107 = .ok (.iconst 1, 1) := by decide +kernel
theorem dX7_print_108 : decode cX7_print 108 = .ok (.iadd, 1) := by decide +kernel
theorem dX7_print_109 : decode cX7_print 109 = .ok (.aload_n 0, 1) := by decide +kernel
theorem dX7_print_110 : decode cX7_print 110 = .ok (.iload_n 1, 1) := by decide +kernel
theorem dX7_print_111 : decode cX7_print 111 = .ok (.iconst 4, 1) := by decide +kernel
theorem dX7_print_112 : decode cX7_print 112 = .ok (.invokevirtual 49, 3) := by decide +kernel
theorem dX7_print_115 : decode cX7_print 115 = .ok (.aload_n 0, 1) := by decide +kernel
theorem dX7_print_116 : decode cX7_print 116 = .ok (.getfield 7, 3) := by decide +kernel
theorem dX7_print_119 : decode cX7_print 119 = .ok (.bipush 8, 2) := by decide +kernel
theorem dX7_print_121 : decode cX7_print 121 = .ok (.iaload, 1) := by decide +kernel
theorem dX7_print_122 : decode cX7_print 122 = .ok (.iadd, 1) := by decide +kernel
theorem dX7_print_123 : decode cX7_print 123 = .ok (.if_icmp .lt 7, 3) := by decide +kernel
theorem dX7_print_126 : decode cX7_print 126 = .ok (.iconst 1, 1) := by decide +kernel
theorem dX7_print_127 : decode cX7_print 127 = .ok (.goto 4, 3) := by decide +kernel
theorem dX7_print_130 : decode cX7_print 130 = .ok (.iconst 0, 1) := by decide +kernel
theorem dX7_print_131 : decode cX7_print 131 = .ok (.istore_n 2, 1) := by decide +kernel
theorem dX7_print_132 : decode cX7_print 132 = .ok (.aload_n 0, 1) := by decide +kernel
theorem dX7_print_133 : decode cX7_print 133 = .ok (.getfield 7, 3) := by decide +kernel
theorem dX7_print_136 : decode cX7_print 136 = .ok (.iload_n 1, 1) := by decide +kernel
theorem dX7_print_137 : decode cX7_print 137 = .ok (.invokestatic 37, 3) := by decide +kernel
theorem dX7_print_140 : decode cX7_print 140 = .ok (.iconst 2, 1) := by decide +kernel
theorem dX7_print_141 : decode cX7_print 141 = .ok (.iadd, 1) := by decide +kernel
theorem dX7_print_142 : decode cX7_print 142 = .ok (.iload_n 2, 1) := by decide +kernel
theorem dX7_print_143 : decode cX7_print 143 = .ok (.ifCond .eq 7, 3) := by decide +kernel
theorem dX7_print_146 : decode cX7_print 146 = .ok (.iconst 0, 1) := by decide +kernel
theorem dX7_print_147 : decode cX7_print 147 = .ok (.goto 9, 3) := by decide +kernel
theorem dX7_print_150 : decode cX7_print 150 = .ok (.aload_n 0, 1) := by decide +kernel
theorem dX7_print_151 : decode cX7_print 151 = .ok (.iload_n 1, 1) := by decide +kernel
theorem dX7_print_152 : decode cX7_print 152 = .ok (.iconst 2, 1) := by decide +kernel
theorem dX7_print_153 : decode cX7_print 153 = .ok (.invokevirtual 49, 3) := by decide +kernel
theorem dX7_print_156 : decode cX7_print 156 = .ok (.iastore, 1) := by decide +kernel
theorem dX7_print_157 : decode cX7_print 157 = .ok (.iinc 1 1, 3) := by decide +kernel
theorem dX7_print_160 : decode cX7_print 160 = .ok (.goto (-79), 3) := by decide +kernel
theorem dX7_print_163 : decode cX7_print 163 = .ok (.aload_n 0, 1) := by decide +kernel
theorem dX7_print_164 : decode cX7_print 164 = .ok (.getfield 7, 3) := by decide +kernel
theorem dX7_print_167 : decode cX7_print 167 = .ok (.iconst 0, 1) := by decide +kernel
theorem dX7_print_168 : decode cX7_print 168 = .ok (.dup2, 1) := by decide +kernel
theorem dX7_print_169 : decode cX7_print 169 = .ok (.iaload, 1) := by decide +kernel
theorem dX7_print_170 : decode cX7_print 170 = .ok (.iconst 1, 1) := by decide +kernel
theorem dX7_print_171 : decode cX7_print 171 = .ok (.iadd, 1) := by decide +kernel
theorem dX7_print_172 : decode cX7_print 172 = .ok (.iastore, 1) := by decide +kernel
theorem dX7_print_173 : decode cX7_print 173 = .ok (.aload_n 0, 1) := by decide +kernel
theorem dX7_print_174 : decode cX7_print 174 = .ok (.getfield 7, 3) := by decide +kernel
theorem dX7_print_177 : decode cX7_print 177 = .ok (.iconst 2, 1) := by decide +kernel
theorem dX7_print_178 : decode cX7_print 178 = .ok (.aload_n 0, 1) := by decide +kernel
theorem dX7_print_179 : decode cX7_print 179 = .ok (.getfield 7, 3) := by decide +kernel
theorem dX7_print_182 : decode cX7_print 182 = .ok (.iconst 4, 1) := by decide +kernel
theorem dX7_print_183 : decode cX7_print 183 = .ok (.iaload, 1) := by decide +kernel
theorem dX7_print_184 : decode cX7_print 184 = .ok (.iastore, 1) := by decide +kernel
theorem dX7_print_185 : decode cX7_print 185 = .ok (.aload_n 0, 1) := by decide +kernel
theorem dX7_print_186 : decode cX7_print 186 = .ok (.getfield 135, 3) := by decide +kernel
theorem dX7_print_189 : decode cX7_print 189 = .ok (.ireturn, 1) := by decide +kernel
theorem dX7_correct_0 : decode cX7_correct 0 = .ok (.aload_n 0, 1) := by decide +kernel
theorem dX7_correct_1 : decode cX7_correct 1 = .ok (.iload_n 1, 1) := by decide +kernel
theorem dX7_correct_2 : decode cX7_correct 2 = .ok (.iload_n 2, 1) := by decide +kernel
theorem dX7_correct_3 : decode cX7_correct 3 = .ok (.invokevirtual 116, 3) := by decide +kernel
theorem dX7_correct_6 : decode cX7_correct 6 = .ok (.ifCond .eq 12, 3) := by decide +kernel
theorem dX7_correct_9 : decode cX7_correct 9 = .ok (.iload_n 3, 1) := by decide +kernel
theorem dX7_correct_10 : decode cX7_correct 10 = .ok (.iconst 0, 1) := by decide +kernel
theorem dX7_correct_11 : decode cX7_correct 11 = .ok (.iconst 5, 1) := by decide +kernel
theorem dX7_correct_12 : decode cX7_correct 12 = .ok (.invokestatic 41, 3) := by decide +kernel
theorem dX7_correct_15 : decode cX7_correct 15 = .ok (.ifCond .ne 5, 3) := by decide +kernel
theorem dX7_correct_18 : decode cX7_correct 18 = .ok (.iconst (-1), 1) := by decide +kernel
theorem dX7_correct_19 : decode cX7_correct 19 = .ok (.ireturn, 1) := by decide +kernel
theorem dX7_correct_20 : decode cX7_correct 20 = .ok (.aload_n 0, 1) := by decide +kernel
theorem dX7_correct_21 : decode cX7_correct 21 = .ok (.iload_n 1, 1) := by decide +kernel
theorem dX7_correct_22 : decode cX7_correct 22 = .ok (.iconst 2, 1) := by decide +kernel
theorem dX7_correct_23 : decode cX7_correct 23 = .ok (.invokevirtual 49, 3) := by decide +kernel
theorem dX7_correct_26 : decode cX7_correct 26 = .ok (.iconst 3, 1) := by decide +kernel
theorem dX7_correct_27 : decode cX7_correct 27 = .ok (.if_icmp .eq 6, 3) := by decide +kernel
theorem dX7_correct_30 : decode cX7_correct 30 = .ok (.bipush (-4), 2) := by decide +kernel
theorem dX7_correct_32 : decode cX7_correct 32 = .ok (.ireturn, 1) := by decide +kernel
theorem dX7_correct_33 : decode cX7_correct 33 = .ok (.aload_n 0, 1) := by decide +kernel
theorem dX7_correct_34 : decode cX7_correct 34 = .ok (.getfield 7, 3) := by decide +kernel
theorem dX7_correct_37 : decode cX7_correct 37 = .ok (.iload_n 1, 1) := by decide +kernel
theorem dX7_correct_38 : decode cX7_correct 38 = .ok (.iload_n 2, 1) := by decide +kernel
theorem dX7_correct_39 : decode cX7_correct 39 = .ok (.invokestatic 53, 3) := by decide +kernel
theorem dX7_correct_42 : decode cX7_correct 42 = .ok (.iaload, 1) := by decide +kernel
theorem dX7_correct_43 : decode cX7_correct 43 = .ok (.iload_n 3, 1) := by decide +kernel
theorem dX7_correct_44 : decode cX7_correct 44 = .ok (.if_icmp .ne 6, 3) := by decide +kernel
theorem dX7_correct_47 : decode cX7_correct 47 = .ok (.bipush (-5), 2) := by decide +kernel
theorem dX7_correct_49 : decode cX7_correct 49 = .ok (.ireturn, 1) := by decide +kernel
theorem dX7_correct_50 : decode cX7_correct 50 = .ok (.aload_n 0, 1) := by decide +kernel
theorem dX7_correct_51 : decode cX7_correct 51 = .ok (.invokevirtual 71, 3) := by decide +kernel
theorem dX7_correct_54 : decode cX7_correct 54 = .ok (.aload_n 0, 1) := by decide +kernel
theorem dX7_correct_55 : decode cX7_correct 55 = .ok (.getfield 7, 3) := by decide +kernel
theorem dX7_correct_58 : decode cX7_correct 58 = .ok (.iload_n 1, 1) := by decide +kernel
theorem dX7_correct_59 : decode cX7_correct 59 = .ok (.iload_n 2, 1) := by decide +kernel
theorem dX7_correct_60 : decode cX7_correct 60 = .ok (.invokestatic 53, 3) := by decide +kernel
theorem dX7_correct_63 : decode cX7_correct 63 = .ok (.iload_n 3, 1) := by decide +kernel
theorem dX7_correct_64 : decode cX7_correct 64 = .ok (.iastore, 1) := by decide +kernel
theorem dX7_correct_65 : decode cX7_correct 65 = .ok (.aload_n 0, 1) := by decide +kernel
theorem dX7_correct_66 : decode cX7_correct 66 = .ok (.getfield 7, 3) := by decide +kernel
theorem dX7_correct_69 : decode cX7_correct 69 = .ok (.iconst 3, 1) := by decide +kernel
theorem dX7_correct_70 : decode cX7_correct 70 = .ok (.dup2, 1) := by decide +kernel
theorem dX7_correct_71 : decode cX7_correct 71 = .ok (.iaload, 1) := by decide +kernel
theorem dX7_correct_72 : decode cX7_correct 72 = .ok (.iconst 1, 1) := by decide +kernel
theorem dX7_correct_73 : decode cX7_correct 73 = .ok (.iadd, 1) := by decide +kernel
theorem dX7_correct_74 : decode cX7_correct 74 = .ok (.iastore, 1) := by decide +kernel
theorem dX7_correct_75 : decode cX7_correct 75 = .ok (.aload_n 0, 1) := by decide +kernel
theorem dX7_correct_76 : decode cX7_correct 76 = .ok (.getfield 7, 3) := by decide +kernel
theorem dX7_correct_79 : decode cX7_correct 79 = .ok (.iconst 3, 1) := by decide +kernel
theorem dX7_correct_80 : decode cX7_correct 80 = .ok (.iaload, 1) := by decide +kernel
theorem dX7_correct_81 : decode cX7_correct 81 = .ok (.ireturn, 1) := by decide +kernel
theorem dX7_type_0 : decode cX7_type 0 = .ok (.aload_n 0, 1) := by decide +kernel
theorem dX7_type_1 : decode cX7_type 1 = .ok (.getfield 77, 3) := by decide +kernel
theorem dX7_type_4 : decode cX7_type 4 = .ok (.bipush 60, 2) := by decide +kernel
theorem dX7_type_6 : decode cX7_type 6 = .ok (.if_icmp .ne 6, 3) := by decide +kernel
theorem dX7_type_9 : decode cX7_type 9 = .ok (.bipush (-3), 2) := by decide +kernel
theorem dX7_type_11 : decode cX7_type 11 = .ok (.ireturn, 1) := by decide +kernel
theorem dX7_type_12 : decode cX7_type 12 = .ok (.aload_n 0, 1) := by decide +kernel
theorem dX7_type_13 : decode cX7_type 13 = .ok (.getfield 26, 3) := by decide +kernel
theorem dX7_type_16 : decode cX7_type 16 = .ok (.aload_n 0, 1) := by decide +kernel
theorem dX7_type_17 : decode cX7_type 17 = .ok (.getfield 77, 3) := by decide +kernel
theorem dX7_type_20 : decode cX7_type 20 = .ok (.iload_n 1, 1) := by decide +kernel
theorem dX7_type_21 : decode cX7_type 21 = .ok (.castore, 1) := by decide +kernel
theorem dX7_type_22 : decode cX7_type 22 = .ok (.aload_n 0, 1) := by decide +kernel
theorem dX7_type_23 : decode cX7_type 23 = .ok (.dup, 1) := by decide +kernel
theorem dX7_type_24 : decode cX7_type 24 = .ok (.getfield 77, 3) := by decide +kernel
theorem dX7_type_27 : decode cX7_type 27 = .ok (.iconst 1, 1) := by decide +kernel
theorem dX7_type_28 : decode cX7_type 28 = .ok (.iadd, 1) := by decide +kernel
theorem dX7_type_29 : decode cX7_type 29 = .ok (.putfield 77, 3) := by decide +kernel
theorem dX7_type_32 : decode cX7_type 32 = .ok (.aload_n 0, 1) := by decide +kernel
theorem dX7_type_33 : decode cX7_type 33 = .ok (.getfield 77, 3) := by decide +kernel
theorem dX7_type_36 : decode cX7_type 36 = .ok (.ireturn, 1) := by decide +kernel
theorem dX7_clearText_0 : decode cX7_clearText 0 = .ok (.aload_n 0, 1) := by decide +kernel
theorem dX7_clearText_1 : decode cX7_clearText 1 = .ok (.getfield 77, 3) := by decide +kernel
theorem dX7_clearText_4 : decode cX7_clearText 4 = .ok (.istore_n 1, 1) := by decide +kernel
theorem dX7_clearText_5 : decode cX7_clearText 5 = .ok (.aload_n 0, 1) := by decide +kernel
theorem dX7_clearText_6 : decode cX7_clearText 6 = .ok (.iconst 0, 1) := by decide +kernel
theorem dX7_clearText_7 : decode cX7_clearText 7 = .ok (.putfield 77, 3) := by decide +kernel
theorem dX7_clearText_10 : decode cX7_clearText 10 = .ok (.iload_n 1, 1) := by decide +kernel
theorem dX7_clearText_11 : decode cX7_clearText 11 = .ok (.ireturn, 1) := by decide +kernel
theorem dX7_undo_0 : decode cX7_undo 0 = .ok (.aload_n 0, 1) := by decide +kernel
theorem dX7_undo_1 : decode cX7_undo 1 = .ok (.getfield 33, 3) := by decide +kernel
theorem dX7_undo_4 : decode cX7_undo 4 = .ok (.ifCond .ne 6, 3) := by decide +kernel
theorem dX7_undo_7 : decode cX7_undo 7 = .ok (.bipush (-5), 2) := by decide +kernel
theorem dX7_undo_9 : decode cX7_undo 9 = .ok (.ireturn, 1) := by decide +kernel
theorem dX7_undo_10 : decode cX7_undo 10 = .ok (.aload_n 0, 1) := by decide +kernel
theorem dX7_undo_11 : decode cX7_undo 11 = .ok (.dup, 1) := by decide +kernel
theorem dX7_undo_12 : decode cX7_undo 12 = .ok (.getfield 33, 3) := by decide +kernel
theorem dX7_undo_15 : decode cX7_undo 15 = .ok (.iconst 1, 1) := by decide +kernel
theorem dX7_undo_16 : decode cX7_undo 16 = .ok (.isub, 1) := by decide +kernel
theorem dX7_undo_17 : decode cX7_undo 17 = .ok (.putfield 33, 3) := by decide +kernel
theorem dX7_undo_20 : decode cX7_undo 20 = .ok (.iconst 0, 1) := by decide +kernel
theorem dX7_undo_21 : decode cX7_undo 21 = .ok (.istore_n 1, 1) := by decide +kernel
theorem dX7_undo_22 : decode cX7_undo 22 = .ok (.iload_n 1, 1) := by decide +kernel
theorem dX7_undo_23 : decode cX7_undo 23 = .ok (.sipush 656, 3) := by decide +kernel
theorem dX7_undo_26 : decode cX7_undo 26 = .ok (.if_icmp .ge 30, 3) := by decide +kernel
theorem dX7_undo_29 : decode cX7_undo 29 = .ok (.aload_n 0, 1) := by decide +kernel
theorem dX7_undo_30 : decode cX7_undo 30 = .ok (.getfield 7, 3) := by decide +kernel
theorem dX7_undo_33 : decode cX7_undo 33 = .ok (.iload_n 1, 1) := by decide +kernel
theorem dX7_undo_34 : decode cX7_undo 34 = .ok (.aload_n 0, 1) := by decide +kernel
theorem dX7_undo_35 : decode cX7_undo 35 = .ok (.getfield 13, 3) := by decide +kernel
theorem dX7_undo_38 : decode cX7_undo 38 = .ok (.sipush 656, 3) := by decide +kernel
theorem dX7_undo_41 : decode cX7_undo 41 = .ok (.aload_n 0, 1) := by decide +kernel
theorem dX7_undo_42 : decode cX7_undo 42 = .ok (.getfield 33, 3) := by decide +kernel
theorem dX7_undo_45 : decode cX7_undo 45 = .ok (.imul, 1) := by decide +kernel
theorem dX7_undo_46 : decode cX7_undo 46 = .ok (.iload_n 1, 1) := by decide +kernel
theorem dX7_undo_47 : decode cX7_undo 47 = .ok (.iadd, 1) := by decide +kernel
theorem dX7_undo_48 : decode cX7_undo 48 = .ok (.iaload, 1) := by decide +kernel
theorem dX7_undo_49 : decode cX7_undo 49 = .ok (.iastore, 1) := by decide +kernel
theorem dX7_undo_50 : decode cX7_undo 50 = .ok (.iinc 1 1, 3) := by decide +kernel
theorem dX7_undo_53 : decode cX7_undo 53 = .ok (.goto (-31), 3) := by decide +kernel
theorem dX7_undo_56 : decode cX7_undo 56 = .ok (.aload_n 0, 1) := by decide +kernel
theorem dX7_undo_57 : decode cX7_undo 57 = .ok (.getfield 33, 3) := by decide +kernel
theorem dX7_undo_60 : decode cX7_undo 60 = .ok (.ireturn, 1) := by decide +kernel
theorem dX7_keep_0 : decode cX7_keep 0 = .ok (.iconst 0, 1) := by decide +kernel
theorem dX7_keep_1 : decode cX7_keep 1 = .ok (.istore_n 1, 1) := by decide +kernel
theorem dX7_keep_2 : decode cX7_keep 2 = .ok (.iload_n 1, 1) := by decide +kernel
theorem dX7_keep_3 : decode cX7_keep 3 = .ok (.sipush 656, 3) := by decide +kernel
theorem dX7_keep_6 : decode cX7_keep 6 = .ok (.if_icmp .ge 21, 3) := by decide +kernel
theorem dX7_keep_9 : decode cX7_keep 9 = .ok (.aload_n 0, 1) := by decide +kernel
theorem dX7_keep_10 : decode cX7_keep 10 = .ok (.getfield 16, 3) := by decide +kernel
theorem dX7_keep_13 : decode cX7_keep 13 = .ok (.iload_n 1, 1) := by decide +kernel
theorem dX7_keep_14 : decode cX7_keep 14 = .ok (.aload_n 0, 1) := by decide +kernel
theorem dX7_keep_15 : decode cX7_keep 15 = .ok (.getfield 7, 3) := by decide +kernel
theorem dX7_keep_18 : decode cX7_keep 18 = .ok (.iload_n 1, 1) := by decide +kernel
theorem dX7_keep_19 : decode cX7_keep 19 = .ok (.iaload, 1) := by decide +kernel
theorem dX7_keep_20 : decode cX7_keep 20 = .ok (.iastore, 1) := by decide +kernel
theorem dX7_keep_21 : decode cX7_keep 21 = .ok (.iinc 1 1, 3) := by decide +kernel
theorem dX7_keep_24 : decode cX7_keep 24 = .ok (.goto (-22), 3) := by decide +kernel
theorem dX7_keep_27 : decode cX7_keep 27 = .ok (.aload_n 0, 1) := by decide +kernel
theorem dX7_keep_28 : decode cX7_keep 28 = .ok (.iconst 1, 1) := by decide +kernel
theorem dX7_keep_29 : decode cX7_keep 29 = .ok (.putfield 153, 3) := by decide +kernel
theorem dX7_keep_32 : decode cX7_keep 32 = .ok (.aload_n 0, 1) := by decide +kernel
theorem dX7_keep_33 : decode cX7_keep 33 = .ok (.getfield 7, 3) := by decide +kernel
theorem dX7_keep_36 : decode cX7_keep 36 = .ok (.iconst 0, 1) := by decide +kernel
theorem dX7_keep_37 : decode cX7_keep 37 = .ok (.iaload, 1) := by decide +kernel
theorem dX7_keep_38 : decode cX7_keep 38 = .ok (.ireturn, 1) := by decide +kernel
theorem dX7_restore_0 : decode cX7_restore 0 = .ok (.aload_n 0, 1) := by decide +kernel
theorem dX7_restore_1 : decode cX7_restore 1 = .ok (.getfield 153, 3) := by decide +kernel
theorem dX7_restore_4 : decode cX7_restore 4 = .ok (.ifCond .ne 6, 3) := by decide +kernel
theorem dX7_restore_7 : decode cX7_restore 7 = .ok (.bipush (-5), 2) := by decide +kernel
theorem dX7_restore_9 : decode cX7_restore 9 = .ok (.ireturn, 1) := by decide +kernel
theorem dX7_restore_10 : decode cX7_restore 10 = .ok (.aload_n 0, 1) := by decide +kernel
theorem dX7_restore_11 : decode cX7_restore 11 = .ok (.invokevirtual 71, 3) := by decide +kernel
theorem dX7_restore_14 : decode cX7_restore 14 = .ok (.iconst 0, 1) := by decide +kernel
theorem dX7_restore_15 : decode cX7_restore 15 = .ok (.istore_n 1, 1) := by decide +kernel
theorem dX7_restore_16 : decode cX7_restore 16 = .ok (.iload_n 1, 1) := by decide +kernel
theorem dX7_restore_17 : decode cX7_restore 17 = .ok (.sipush 656, 3) := by decide +kernel
theorem dX7_restore_20 : decode cX7_restore 20 = .ok (.if_icmp .ge 21, 3) := by decide +kernel
theorem dX7_restore_23 : decode cX7_restore 23 = .ok (.aload_n 0, 1) := by decide +kernel
theorem dX7_restore_24 : decode cX7_restore 24 = .ok (.getfield 7, 3) := by decide +kernel
theorem dX7_restore_27 : decode cX7_restore 27 = .ok (.iload_n 1, 1) := by decide +kernel
theorem dX7_restore_28 : decode cX7_restore 28 = .ok (.aload_n 0, 1) := by decide +kernel
theorem dX7_restore_29 : decode cX7_restore 29 = .ok (.getfield 16, 3) := by decide +kernel
theorem dX7_restore_32 : decode cX7_restore 32 = .ok (.iload_n 1, 1) := by decide +kernel
theorem dX7_restore_33 : decode cX7_restore 33 = .ok (.iaload, 1) := by decide +kernel
theorem dX7_restore_34 : decode cX7_restore 34 = .ok (.iastore, 1) := by decide +kernel
theorem dX7_restore_35 : decode cX7_restore 35 = .ok (.iinc 1 1, 3) := by decide +kernel
theorem dX7_restore_38 : decode cX7_restore 38 = .ok (.goto (-22), 3) := by decide +kernel
theorem dX7_restore_41 : decode cX7_restore 41 = .ok (.aload_n 0, 1) := by decide +kernel
theorem dX7_restore_42 : decode cX7_restore 42 = .ok (.getfield 7, 3) := by decide +kernel
theorem dX7_restore_45 : decode cX7_restore 45 = .ok (.iconst 0, 1) := by decide +kernel
theorem dX7_restore_46 : decode cX7_restore 46 = .ok (.iaload, 1) := by decide +kernel
theorem dX7_restore_47 : decode cX7_restore 47 = .ok (.ireturn, 1) := by decide +kernel
theorem dX7_person_0 : decode cX7_person 0 = .ok (.aload_n 0, 1) := by decide +kernel
theorem dX7_person_1 : decode cX7_person 1 = .ok (.iload_n 1, 1) := by decide +kernel
theorem dX7_person_2 : decode cX7_person 2 = .ok (.invokevirtual 45, 3) := by decide +kernel
theorem dX7_person_5 : decode cX7_person 5 = .ok (.ifCond .ne 5, 3) := by decide +kernel
theorem dX7_person_8 : decode cX7_person 8 = .ok (.iconst (-1), 1) := by decide +kernel
theorem dX7_person_9 : decode cX7_person 9 = .ok (.ireturn, 1) := by decide +kernel
theorem dX7_person_10 : decode cX7_person 10 = .ok (.iload_n 2, 1) := by decide +kernel
theorem dX7_person_11 : decode cX7_person 11 = .ok (.tableswitch 172 0 10 #[57, 64, 71, 78, 85, 91, 103, 109, 129, 150, 158], 57) := by decide +kernel
theorem dX7_person_68 : decode cX7_person 68 = .ok (.aload_n 0, 1) := by decide +kernel
theorem dX7_person_69 : decode cX7_person 69 = .ok (.iload_n 1, 1) := by decide +kernel
theorem dX7_person_70 : decode cX7_person 70 = .ok (.iconst 0, 1) := by decide +kernel
theorem dX7_person_71 : decode cX7_person 71 = .ok (.invokevirtual 49, 3) := by decide +kernel
theorem dX7_person_74 : decode cX7_person 74 = .ok (.ireturn, 1) := by decide +kernel
theorem dX7_person_75 : decode cX7_person 75 = .ok (.aload_n 0, 1) := by decide +kernel
theorem dX7_person_76 : decode cX7_person 76 = .ok (.iload_n 1, 1) := by decide +kernel
theorem dX7_person_77 : decode cX7_person 77 = .ok (.iconst 1, 1) := by decide +kernel
theorem dX7_person_78 : decode cX7_person 78 = .ok (.invokevirtual 49, 3) := by decide +kernel
theorem dX7_person_81 : decode cX7_person 81 = .ok (.ireturn, 1) := by decide +kernel
theorem dX7_person_82 : decode cX7_person 82 = .ok (.aload_n 0, 1) := by decide +kernel
theorem dX7_person_83 : decode cX7_person 83 = .ok (.iload_n 1, 1) := by decide +kernel
theorem dX7_person_84 : decode cX7_person 84 = .ok (.iconst 2, 1) := by decide +kernel
theorem dX7_person_85 : decode cX7_person 85 = .ok (.invokevirtual 49, 3) := by decide +kernel
theorem dX7_person_88 : decode cX7_person 88 = .ok (.ireturn, 1) := by decide +kernel
theorem dX7_person_89 : decode cX7_person 89 = .ok (.aload_n 0, 1) := by decide +kernel
theorem dX7_person_90 : decode cX7_person 90 = .ok (.iload_n 1, 1) := by decide +kernel
theorem dX7_person_91 : decode cX7_person 91 = .ok (.iconst 3, 1) := by decide +kernel
theorem dX7_person_92 : decode cX7_person 92 = .ok (.invokevirtual 49, 3) := by decide +kernel
theorem dX7_person_95 : decode cX7_person 95 = .ok (.ireturn, 1) := by decide +kernel
theorem dX7_person_96 : decode cX7_person 96 = .ok (.aload_n 0, 1) := by decide +kernel
theorem dX7_person_97 : decode cX7_person 97 = .ok (.iload_n 1, 1) := by decide +kernel
theorem dX7_person_98 : decode cX7_person 98 = .ok (.invokevirtual 147, 3) := by decide +kernel
theorem dX7_person_101 : decode cX7_person 101 = .ok (.ireturn, 1) := by decide +kernel
theorem dX7_person_102 : decode cX7_person 102 = .ok (.aload_n 0, 1) := by decide +kernel
theorem dX7_person_103 : decode cX7_person 103 = .ok (.iload_n 1, 1) := by decide +kernel
theorem dX7_person_104 : decode cX7_person 104 = .ok (.aload_n 0, 1) := by decide +kernel
theorem dX7_person_105 : decode cX7_person 105 = .ok (.getfield 7, 3) := by decide +kernel
theorem dX7_person_108 : decode cX7_person 108 = .ok (.iconst 0, 1) := by decide +kernel
theorem dX7_person_109 : decode cX7_person 109 = .ok (.iaload, 1) := by decide +kernel
theorem dX7_person_110 : decode cX7_person 110 = .ok (.invokevirtual 68, 3) := by decide +kernel
theorem dX7_person_113 : decode cX7_person 113 = .ok (.ireturn, 1) := by decide +kernel
theorem dX7_person_114 : decode cX7_person 114 = .ok (.aload_n 0, 1) := by decide +kernel
theorem dX7_person_115 : decode cX7_person 115 = .ok (.iload_n 1, 1) := by decide +kernel
theorem dX7_person_116 : decode cX7_person 116 = .ok (.invokevirtual 65, 3) := by decide +kernel
theorem dX7_person_119 : decode cX7_person 119 = .ok (.ireturn, 1) := by decide +kernel
theorem dX7_person_120 : decode cX7_person 120 = .ok (.aload_n 0, 1) := by decide +kernel
theorem dX7_person_121 : decode cX7_person 121 = .ok (.iload_n 1, 1) := by decide +kernel
theorem dX7_person_122 : decode cX7_person 122 = .ok (.iconst 2, 1) := by decide +kernel
theorem dX7_person_123 : decode cX7_person 123 = .ok (.invokevirtual 49, 3) := by decide +kernel
theorem dX7_person_126 : decode cX7_person 126 = .ok (.ifCond .ne 11, 3) := by decide +kernel
theorem dX7_person_129 : decode cX7_person 129 = .ok (.aload_n 0, 1) := by decide +kernel
theorem dX7_person_130 : decode cX7_person 130 = .ok (.iload_n 1, 1) := by decide +kernel
theorem dX7_person_131 : decode cX7_person 131 = .ok (.invokevirtual 123, 3) := by decide +kernel
theorem dX7_person_134 : decode cX7_person 134 = .ok (.goto 5, 3) := by decide +kernel
theorem dX7_person_137 : decode cX7_person 137 = .ok (.bipush (-5), 2) := by decide +kernel
theorem dX7_person_139 : decode cX7_person 139 = .ok (.ireturn, 1) := by decide +kernel
theorem dX7_person_140 : decode cX7_person 140 = .ok (.aload_n 0, 1) := by decide +kernel
theorem dX7_person_141 : decode cX7_person 141 = .ok (.iload_n 1, 1) := by decide +kernel
theorem dX7_person_142 : decode cX7_person 142 = .ok (.iconst 2, 1) := by decide +kernel
theorem dX7_person_143 : decode cX7_person 143 = .ok (.invokevirtual 49, 3) := by decide +kernel
theorem dX7_person_146 : decode cX7_person 146 = .ok (.ifCond .ne 8, 3) := by decide +kernel
theorem dX7_person_149 : decode cX7_person 149 = .ok (.bipush (-5), 2) := by decide +kernel
theorem dX7_person_151 : decode cX7_person 151 = .ok (.goto 9, 3) := by decide +kernel
theorem dX7_person_154 : decode cX7_person 154 = .ok (.aload_n 0, 1) := by decide +kernel
theorem dX7_person_155 : decode cX7_person 155 = .ok (.iload_n 1, 1) := by decide +kernel
theorem dX7_person_156 : decode cX7_person 156 = .ok (.iconst 4, 1) := by decide +kernel
theorem dX7_person_157 : decode cX7_person 157 = .ok (.invokevirtual 49, 3) := by decide +kernel
theorem dX7_person_160 : decode cX7_person 160 = .ok (.ireturn, 1) := by decide +kernel
theorem dX7_person_161 : decode cX7_person 161 = .ok (.aload_n 0, 1) := by decide +kernel
theorem dX7_person_162 : decode cX7_person 162 = .ok (.iload_n 1, 1) := by decide +kernel
theorem dX7_person_163 : decode cX7_person 163 = .ok (.bipush 6, 2) := by decide +kernel
theorem dX7_person_165 : decode cX7_person 165 = .ok (.invokevirtual 49, 3) := by decide +kernel
theorem dX7_person_168 : decode cX7_person 168 = .ok (.ireturn, 1) := by decide +kernel
theorem dX7_person_169 : decode cX7_person 169 = .ok (.aload_n 0, 1) := by decide +kernel
theorem dX7_person_170 : decode cX7_person 170 = .ok (.iload_n 1, 1) := by decide +kernel
theorem dX7_person_171 : decode cX7_person 171 = .ok (.invokevirtual 141, 3) := by decide +kernel
theorem dX7_person_174 : decode cX7_person 174 = .ok (.ifCond .eq 7, 3) := by decide +kernel
theorem dX7_person_177 : decode cX7_person 177 = .ok (.iconst 1, 1) := by decide +kernel
theorem dX7_person_178 : decode cX7_person 178 = .ok (.goto 4, 3) := by decide +kernel
theorem dX7_person_181 : decode cX7_person 181 = .ok (.iconst 0, 1) := by decide +kernel
theorem dX7_person_182 : decode cX7_person 182 = .ok (.ireturn, 1) := by decide +kernel
theorem dX7_person_183 : decode cX7_person 183 = .ok (.bipush (-2), 2) := by decide +kernel
theorem dX7_person_185 : decode cX7_person 185 = .ok (.ireturn, 1) := by decide +kernel
theorem dX7_fact_0 : decode cX7_fact 0 = .ok (.aload_n 0, 1) := by decide +kernel
theorem dX7_fact_1 : decode cX7_fact 1 = .ok (.iload_n 1, 1) := by decide +kernel
theorem dX7_fact_2 : decode cX7_fact 2 = .ok (.iload_n 2, 1) := by decide +kernel
theorem dX7_fact_3 : decode cX7_fact 3 = .ok (.invokevirtual 116, 3) := by decide +kernel
theorem dX7_fact_6 : decode cX7_fact 6 = .ok (.ifCond .ne 5, 3) := by decide +kernel
theorem dX7_fact_9 : decode cX7_fact 9 = .ok (.iconst (-1), 1) := by decide +kernel
theorem dX7_fact_10 : decode cX7_fact 10 = .ok (.ireturn, 1) := by decide +kernel
theorem dX7_fact_11 : decode cX7_fact 11 = .ok (.iload_n 3, 1) := by decide +kernel
theorem dX7_fact_12 : decode cX7_fact 12 = .ok (.tableswitch 86 0 4 #[36, 36, 36, 49, 70], 36) := by decide +kernel
theorem dX7_fact_48 : decode cX7_fact 48 = .ok (.aload_n 0, 1) := by decide +kernel
theorem dX7_fact_49 : decode cX7_fact 49 = .ok (.getfield 7, 3) := by decide +kernel
theorem dX7_fact_52 : decode cX7_fact 52 = .ok (.iload_n 1, 1) := by decide +kernel
theorem dX7_fact_53 : decode cX7_fact 53 = .ok (.iload_n 2, 1) := by decide +kernel
theorem dX7_fact_54 : decode cX7_fact 54 = .ok (.invokestatic 53, 3) := by decide +kernel
theorem dX7_fact_57 : decode cX7_fact 57 = .ok (.iload_n 3, 1) := by decide +kernel
theorem dX7_fact_58 : decode cX7_fact 58 = .ok (.iadd, 1) := by decide +kernel
theorem dX7_fact_59 : decode cX7_fact 59 = .ok (.iaload, 1) := by decide +kernel
theorem dX7_fact_60 : decode cX7_fact 60 = .ok (.ireturn, 1) := by decide +kernel
theorem dX7_fact_61 : decode cX7_fact 61 = .ok (.aload_n 0, 1) := by decide +kernel
theorem dX7_fact_62 : decode cX7_fact 62 = .ok (.iload_n 1, 1) := by decide +kernel
theorem dX7_fact_63 : decode cX7_fact 63 = .ok (.iload_n 2, 1) := by decide +kernel
theorem dX7_fact_64 : decode cX7_fact 64 = .ok (.aload_n 0, 1) := by decide +kernel
theorem dX7_fact_65 : decode cX7_fact 65 = .ok (.getfield 7, 3) := by decide +kernel
theorem dX7_fact_68 : decode cX7_fact 68 = .ok (.iconst 0, 1) := by decide +kernel
theorem dX7_fact_69 : decode cX7_fact 69 = .ok (.iaload, 1) := by decide +kernel
theorem dX7_fact_70 : decode cX7_fact 70 = .ok (.invokevirtual 62, 3) := by decide +kernel
theorem dX7_fact_73 : decode cX7_fact 73 = .ok (.ifCond .eq 7, 3) := by decide +kernel
theorem dX7_fact_76 : decode cX7_fact 76 = .ok (.iconst 1, 1) := by decide +kernel
theorem dX7_fact_77 : decode cX7_fact 77 = .ok (.goto 4, 3) := by decide +kernel
theorem dX7_fact_80 : decode cX7_fact 80 = .ok (.iconst 0, 1) := by decide +kernel
theorem dX7_fact_81 : decode cX7_fact 81 = .ok (.ireturn, 1) := by decide +kernel
theorem dX7_fact_82 : decode cX7_fact 82 = .ok (.aload_n 0, 1) := by decide +kernel
theorem dX7_fact_83 : decode cX7_fact 83 = .ok (.iload_n 1, 1) := by decide +kernel
theorem dX7_fact_84 : decode cX7_fact 84 = .ok (.iload_n 2, 1) := by decide +kernel
theorem dX7_fact_85 : decode cX7_fact 85 = .ok (.aload_n 0, 1) := by decide +kernel
theorem dX7_fact_86 : decode cX7_fact 86 = .ok (.getfield 7, 3) := by decide +kernel
theorem dX7_fact_89 : decode cX7_fact 89 = .ok (.iconst 0, 1) := by decide +kernel
theorem dX7_fact_90 : decode cX7_fact 90 = .ok (.iaload, 1) := by decide +kernel
theorem dX7_fact_91 : decode cX7_fact 91 = .ok (.invokevirtual 58, 3) := by decide +kernel
theorem dX7_fact_94 : decode cX7_fact 94 = .ok (.invokestatic 157, 3) := by decide +kernel
theorem dX7_fact_97 : decode cX7_fact 97 = .ok (.ireturn, 1) := by decide +kernel
theorem dX7_fact_98 : decode cX7_fact 98 = .ok (.bipush (-2), 2) := by decide +kernel
theorem dX7_fact_100 : decode cX7_fact 100 = .ok (.ireturn, 1) := by decide +kernel
theorem dX7_worth_0 : decode cX7_worth 0 = .ok (.aload_n 0, 1) := by decide +kernel
theorem dX7_worth_1 : decode cX7_worth 1 = .ok (.iload_n 1, 1) := by decide +kernel
theorem dX7_worth_2 : decode cX7_worth 2 = .ok (.invokevirtual 45, 3) := by decide +kernel
theorem dX7_worth_5 : decode cX7_worth 5 = .ok (.ifCond .ne 6, 3) := by decide +kernel
theorem dX7_worth_8 : decode cX7_worth 8 = .ok (.ldc 163, 2) := by decide +kernel
theorem dX7_worth_10 : decode cX7_worth 10 = .ok (.freturn, 1) := by decide +kernel
theorem dX7_worth_11 : decode cX7_worth 11 = .ok (.fconst 0, 1) := by decide +kernel
theorem dX7_worth_12 : decode cX7_worth 12 = .ok (.fstore_n 2, 1) := by decide +kernel
theorem dX7_worth_13 : decode cX7_worth 13 = .ok (.iconst 0, 1) := by decide +kernel
theorem dX7_worth_14 : decode cX7_worth 14 = .ok (.istore_n 3, 1) := by decide +kernel
theorem dX7_worth_15 : decode cX7_worth 15 = .ok (.iload_n 3, 1) := by decide +kernel
theorem dX7_worth_16 : decode cX7_worth 16 = .ok (.aload_n 0, 1) := by decide +kernel
theorem dX7_worth_17 : decode cX7_worth 17 = .ok (.iload_n 1, 1) := by decide +kernel
theorem dX7_worth_18 : decode cX7_worth 18 = .ok (.iconst 3, 1) := by decide +kernel
theorem dX7_worth_19 : decode cX7_worth 19 = .ok (.invokevirtual 49, 3) := by decide +kernel
theorem dX7_worth_22 : decode cX7_worth 22 = .ok (.if_icmp .ge 38, 3) := by decide +kernel
theorem dX7_worth_25 : decode cX7_worth 25 = .ok (.fload_n 2, 1) := by decide +kernel
theorem dX7_worth_26 : decode cX7_worth 26 = .ok (.aload_n 0, 1) := by decide +kernel
theorem dX7_worth_27 : decode cX7_worth 27 = .ok (.iload_n 1, 1) := by decide +kernel
theorem dX7_worth_28 : decode cX7_worth 28 = .ok (.iload_n 3, 1) := by decide +kernel
theorem dX7_worth_29 : decode cX7_worth 29 = .ok (.aload_n 0, 1) := by decide +kernel
theorem dX7_worth_30 : decode cX7_worth 30 = .ok (.getfield 7, 3) := by decide +kernel
theorem dX7_worth_33 : decode cX7_worth 33 = .ok (.iconst 0, 1) := by decide +kernel
theorem dX7_worth_34 : decode cX7_worth 34 = .ok (.iaload, 1) := by decide +kernel
theorem dX7_worth_35 : decode cX7_worth 35 = .ok (.invokevirtual 58, 3) := by decide +kernel
theorem dX7_worth_38 : decode cX7_worth 38 = .ok (.aload_n 0, 1) := by decide +kernel
theorem dX7_worth_39 : decode cX7_worth 39 = .ok (.getfield 7, 3) := by decide +kernel
theorem dX7_worth_42 : decode cX7_worth 42 = .ok (.iload_n 1, 1) := by decide +kernel
theorem dX7_worth_43 : decode cX7_worth 43 = .ok (.iload_n 3, 1) := by decide +kernel
theorem dX7_worth_44 : decode cX7_worth 44 = .ok (.invokestatic 53, 3) := by decide +kernel
theorem dX7_worth_47 : decode cX7_worth 47 = .ok (.iconst 1, 1) := by decide +kernel
theorem dX7_worth_48 : decode cX7_worth 48 = .ok (.iadd, 1) := by decide +kernel
theorem dX7_worth_49 : decode cX7_worth 49 = .ok (.iaload, 1) := by decide +kernel
theorem dX7_worth_50 : decode cX7_worth 50 = .ok (.i2f, 1) := by decide +kernel
theorem dX7_worth_51 : decode cX7_worth 51 = .ok (.fmul, 1) := by decide +kernel
theorem dX7_worth_52 : decode cX7_worth 52 = .ok (.fadd, 1) := by decide +kernel
theorem dX7_worth_53 : decode cX7_worth 53 = .ok (.fstore_n 2, 1) := by decide +kernel
theorem dX7_worth_54 : decode cX7_worth 54 = .ok (.iinc 3 1, 3) := by decide +kernel
theorem dX7_worth_57 : decode cX7_worth 57 = .ok (.goto (-42), 3) := by decide +kernel
theorem dX7_worth_60 : decode cX7_worth 60 = .ok (.fload_n 2, 1) := by decide +kernel
theorem dX7_worth_61 : decode cX7_worth 61 = .ok (.freturn, 1) := by decide +kernel
theorem dX7_urgent_0 : decode cX7_urgent 0 = .ok (.iload_n 1, 1) := by decide +kernel
theorem dX7_urgent_1 : decode cX7_urgent 1 = .ok (.ifCond .ge 6, 3) := by decide +kernel
theorem dX7_urgent_4 : decode cX7_urgent 4 = .ok (.bipush (-2), 2) := by decide +kernel
theorem dX7_urgent_6 : decode cX7_urgent 6 = .ok (.ireturn, 1) := by decide +kernel
theorem dX7_urgent_7 : decode cX7_urgent 7 = .ok (.bipush (-5), 2) := by decide +kernel
theorem dX7_urgent_9 : decode cX7_urgent 9 = .ok (.istore_n 2, 1) := by decide +kernel
theorem dX7_urgent_10 : decode cX7_urgent 10 = .ok (.iconst 0, 1) := by decide +kernel
theorem dX7_urgent_11 : decode cX7_urgent 11 = .ok (.istore_n 3, 1) := by decide +kernel
theorem dX7_urgent_12 : decode cX7_urgent 12 = .ok (.iload_n 3, 1) := by decide +kernel
theorem dX7_urgent_13 : decode cX7_urgent 13 = .ok (.aload_n 0, 1) := by decide +kernel
theorem dX7_urgent_14 : decode cX7_urgent 14 = .ok (.getfield 7, 3) := by decide +kernel
theorem dX7_urgent_17 : decode cX7_urgent 17 = .ok (.iconst 1, 1) := by decide +kernel
theorem dX7_urgent_18 : decode cX7_urgent 18 = .ok (.iaload, 1) := by decide +kernel
theorem dX7_urgent_19 : decode cX7_urgent 19 = .ok (.if_icmp .ge 112, 3) := by decide +kernel
theorem dX7_urgent_22 : decode cX7_urgent 22 = .ok (.iconst 0, 1) := by decide +kernel
theorem dX7_urgent_23 : decode cX7_urgent 23 = .ok (.istore 4, 2) := by decide +kernel
theorem dX7_urgent_25 : decode cX7_urgent 25 = .ok (.iconst 0, 1) := by decide +kernel
theorem dX7_urgent_26 : decode cX7_urgent 26 = .ok (.istore 5, 2) := by decide +kernel
theorem dX7_urgent_28 : decode cX7_urgent 28 = .ok (.iload 5, 2) := by decide +kernel
theorem dX7_urgent_30 : decode cX7_urgent 30 = .ok (.aload_n 0, 1) := by decide +kernel
theorem dX7_urgent_31 : decode cX7_urgent 31 = .ok (.getfield 7, 3) := by decide +kernel
theorem dX7_urgent_34 : decode cX7_urgent 34 = .ok (.iconst 1, 1) := by decide +kernel
theorem dX7_urgent_35 : decode cX7_urgent 35 = .ok (.iaload, 1) := by decide +kernel
theorem dX7_urgent_36 : decode cX7_urgent 36 = .ok (.if_icmp .ge 68, 3) := by decide +kernel
theorem dX7_urgent_39 : decode cX7_urgent 39 = .ok (.aload_n 0, 1) := by decide +kernel
theorem dX7_urgent_40 : decode cX7_urgent 40 = .ok (.iload_n 3, 1) := by decide +kernel
theorem dX7_urgent_41 : decode cX7_urgent 41 = .ok (.iconst 2, 1) := by decide +kernel
theorem dX7_urgent_42 : decode cX7_urgent 42 = .ok (.invokevirtual 49, 3) := by decide +kernel
theorem dX7_urgent_45 : decode cX7_urgent 45 = .ok (.ifCond .ne 59, 3) := by decide +kernel
theorem dX7_urgent_48 : decode cX7_urgent 48 = .ok (.aload_n 0, 1) := by decide +kernel
theorem dX7_urgent_49 : decode cX7_urgent 49 = .ok (.iload 5, 2) := by decide +kernel
theorem dX7_urgent_51 : decode cX7_urgent 51 = .ok (.invokevirtual 123, 3) := by decide +kernel
theorem dX7_urgent_54 : decode cX7_urgent 54 = .ok (.aload_n 0, 1) := by decide +kernel
theorem dX7_urgent_55 : decode cX7_urgent 55 = .ok (.iload_n 3, 1) := by decide +kernel
theorem dX7_urgent_56 : decode cX7_urgent 56 = .ok (.invokevirtual 123, 3) := by decide +kernel
theorem dX7_urgent_59 : decode cX7_urgent 59 = .ok (.isub, 1) := by decide +kernel
theorem dX7_urgent_60 : decode cX7_urgent 60 = .ok (.istore 6, 2) := by decide +kernel
theorem dX7_urgent_62 : decode cX7_urgent 62 = .ok (.iload 4, 2) := by decide +kernel
theorem dX7_urgent_64 : decode cX7_urgent 64 = .ok (.aload_n 0, 1) := by decide +kernel
theorem dX7_urgent_65 : decode cX7_urgent 65 = .ok (.iload 5, 2) := by decide +kernel
theorem dX7_urgent_67 : decode cX7_urgent 67 = .ok (.iconst 2, 1) := by decide +kernel
theorem dX7_urgent_68 : decode cX7_urgent 68 = .ok (.invokevirtual 49, 3) := by decide +kernel
theorem dX7_urgent_71 : decode cX7_urgent 71 = .ok (.ifCond .ne 23, 3) := by decide +kernel
theorem dX7_urgent_74 : decode cX7_urgent 74 = .ok (.iload 6, 2) := by decide +kernel
theorem dX7_urgent_76 : decode cX7_urgent 76 = .ok (.ifCond .gt 14, 3) := by decide +kernel
theorem dX7_urgent_79 : decode cX7_urgent 79 = .ok (.iload 6, 2) := by decide +kernel
theorem dX7_urgent_81 : decode cX7_urgent 81 = .ok (.ifCond .ne 13, 3) := by decide +kernel
theorem dX7_urgent_84 : decode cX7_urgent 84 = .ok (.iload 5, 2) := by decide +kernel
theorem dX7_urgent_86 : decode cX7_urgent 86 = .ok (.iload_n 3, 1) := by decide +kernel
theorem dX7_urgent_87 : decode cX7_urgent 87 = .ok (.if_icmp .ge 7, 3) := by decide +kernel
theorem dX7_urgent_90 : decode cX7_urgent 90 = .ok (.iconst 1, 1) := by decide +kernel
theorem dX7_urgent_91 : decode cX7_urgent 91 = .ok (.goto 4, 3) := by decide +kernel
theorem dX7_urgent_94 : decode cX7_urgent 94 = .ok (.iconst 0, 1) := by decide +kernel
theorem dX7_urgent_95 : decode cX7_urgent 95 = .ok (.iadd, 1) := by decide +kernel
theorem dX7_urgent_96 : decode cX7_urgent 96 = .ok (.istore 4, 2) := by decide +kernel
theorem dX7_urgent_98 : decode cX7_urgent 98 = .ok (.iinc 5 1, 3) := by decide +kernel
theorem dX7_urgent_101 : decode cX7_urgent 101 = .ok (.goto (-73), 3) := by decide +kernel
theorem dX7_urgent_104 : decode cX7_urgent 104 = .ok (.aload_n 0, 1) := by decide +kernel
theorem dX7_urgent_105 : decode cX7_urgent 105 = .ok (.iload_n 3, 1) := by decide +kernel
theorem dX7_urgent_106 : decode cX7_urgent 106 = .ok (.iconst 2, 1) := by decide +kernel
theorem dX7_urgent_107 : decode cX7_urgent 107 = .ok (.invokevirtual 49, 3) := by decide +kernel
theorem dX7_urgent_110 : decode cX7_urgent 110 = .ok (.ifCond .ne 13, 3) := by decide +kernel
theorem dX7_urgent_113 : decode cX7_urgent 113 = .ok (.iload 4, 2) := by decide +kernel
theorem dX7_urgent_115 : decode cX7_urgent 115 = .ok (.iload_n 1, 1) := by decide +kernel
theorem dX7_urgent_116 : decode cX7_urgent 116 = .ok (.if_icmp .ne 7, 3) := by decide +kernel
theorem dX7_urgent_119 : decode cX7_urgent 119 = .ok (.iload_n 3, 1) := by decide +kernel
theorem dX7_urgent_120 : decode cX7_urgent 120 = .ok (.goto 4, 3) := by decide +kernel
theorem dX7_urgent_123 : decode cX7_urgent 123 = .ok (.iload_n 2, 1) := by decide +kernel
theorem dX7_urgent_124 : decode cX7_urgent 124 = .ok (.istore_n 2, 1) := by decide +kernel
theorem dX7_urgent_125 : decode cX7_urgent 125 = .ok (.iinc 3 1, 3) := by decide +kernel
theorem dX7_urgent_128 : decode cX7_urgent 128 = .ok (.goto (-116), 3) := by decide +kernel
theorem dX7_urgent_131 : decode cX7_urgent 131 = .ok (.iload_n 2, 1) := by decide +kernel
theorem dX7_urgent_132 : decode cX7_urgent 132 = .ok (.ireturn, 1) := by decide +kernel
theorem dX7_page_0 : decode cX7_page 0 = .ok (.iload_n 1, 1) := by decide +kernel
theorem dX7_page_1 : decode cX7_page 1 = .ok (.ifCond .ge 6, 3) := by decide +kernel
theorem dX7_page_4 : decode cX7_page 4 = .ok (.bipush (-2), 2) := by decide +kernel
theorem dX7_page_6 : decode cX7_page 6 = .ok (.ireturn, 1) := by decide +kernel
theorem dX7_page_7 : decode cX7_page 7 = .ok (.aload_n 0, 1) := by decide +kernel
theorem dX7_page_8 : decode cX7_page 8 = .ok (.invokevirtual 150, 3) := by decide +kernel
theorem dX7_page_11 : decode cX7_page 11 = .ok (.iload_n 1, 1) := by decide +kernel
theorem dX7_page_12 : decode cX7_page 12 = .ok (.aload_n 0, 1) := by decide +kernel
theorem dX7_page_13 : decode cX7_page 13 = .ok (.getfield 135, 3) := by decide +kernel
theorem dX7_page_16 : decode cX7_page 16 = .ok (.if_icmp .ge 12, 3) := by decide +kernel
theorem dX7_page_19 : decode cX7_page 19 = .ok (.aload_n 0, 1) := by decide +kernel
theorem dX7_page_20 : decode cX7_page 20 = .ok (.getfield 19, 3) := by decide +kernel
theorem dX7_page_23 : decode cX7_page 23 = .ok (.iload_n 1, 1) := by decide +kernel
theorem dX7_page_24 : decode cX7_page 24 = .ok (.iaload, 1) := by decide +kernel
theorem dX7_page_25 : decode cX7_page 25 = .ok (.goto 5, 3) := by decide +kernel
theorem dX7_page_28 : decode cX7_page 28 = .ok (.bipush (-5), 2) := by decide +kernel
theorem dX7_page_30 : decode cX7_page 30 = .ok (.ireturn, 1) := by decide +kernel
theorem dX7_source_0 : decode cX7_source 0 = .ok (.iload_n 1, 1) := by decide +kernel
theorem dX7_source_1 : decode cX7_source 1 = .ok (.iconst 0, 1) := by decide +kernel
theorem dX7_source_2 : decode cX7_source 2 = .ok (.iconst 5, 1) := by decide +kernel
theorem dX7_source_3 : decode cX7_source 3 = .ok (.invokestatic 41, 3) := by decide +kernel
theorem dX7_source_6 : decode cX7_source 6 = .ok (.ifCond .ne 5, 3) := by decide +kernel
theorem dX7_source_9 : decode cX7_source 9 = .ok (.iconst (-1), 1) := by decide +kernel
theorem dX7_source_10 : decode cX7_source 10 = .ok (.ireturn, 1) := by decide +kernel
theorem dX7_source_11 : decode cX7_source 11 = .ok (.iload_n 2, 1) := by decide +kernel
theorem dX7_source_12 : decode cX7_source 12 = .ok (.iconst 0, 1) := by decide +kernel
theorem dX7_source_13 : decode cX7_source 13 = .ok (.iconst 3, 1) := by decide +kernel
theorem dX7_source_14 : decode cX7_source 14 = .ok (.invokestatic 41, 3) := by decide +kernel
theorem dX7_source_17 : decode cX7_source 17 = .ok (.ifCond .ne 6, 3) := by decide +kernel
theorem dX7_source_20 : decode cX7_source 20 = .ok (.bipush (-2), 2) := by decide +kernel
theorem dX7_source_22 : decode cX7_source 22 = .ok (.ireturn, 1) := by decide +kernel
theorem dX7_source_23 : decode cX7_source 23 = .ok (.iload_n 2, 1) := by decide +kernel
theorem dX7_source_24 : decode cX7_source 24 = .ok (.ifCond .ne 13, 3) := by decide +kernel
theorem dX7_source_27 : decode cX7_source 27 = .ok (.aload_n 0, 1) := by decide +kernel
theorem dX7_source_28 : decode cX7_source 28 = .ok (.getfield 7, 3) := by decide +kernel
theorem dX7_source_31 : decode cX7_source 31 = .ok (.bipush 9, 2) := by decide +kernel
theorem dX7_source_33 : decode cX7_source 33 = .ok (.iload_n 1, 1) := by decide +kernel
theorem dX7_source_34 : decode cX7_source 34 = .ok (.iadd, 1) := by decide +kernel
theorem dX7_source_35 : decode cX7_source 35 = .ok (.iaload, 1) := by decide +kernel
theorem dX7_source_36 : decode cX7_source 36 = .ok (.ireturn, 1) := by decide +kernel
theorem dX7_source_37 : decode cX7_source 37 = .ok (.iconst 0, 1) := by decide +kernel
theorem dX7_source_38 : decode cX7_source 38 = .ok (.istore_n 3, 1) := by decide +kernel
theorem dX7_source_39 : decode cX7_source 39 = .ok (.iconst 0, 1) := by decide +kernel
theorem dX7_source_40 : decode cX7_source 40 = .ok (.istore 4, 2) := by decide +kernel
theorem dX7_source_42 : decode cX7_source 42 = .ok (.iload 4, 2) := by decide +kernel
theorem dX7_source_44 : decode cX7_source 44 = .ok (.aload_n 0, 1) := by decide +kernel
theorem dX7_source_45 : decode cX7_source 45 = .ok (.getfield 7, 3) := by decide +kernel
theorem dX7_source_48 : decode cX7_source 48 = .ok (.iconst 1, 1) := by decide +kernel
theorem dX7_source_49 : decode cX7_source 49 = .ok (.iaload, 1) := by decide +kernel
theorem dX7_source_50 : decode cX7_source 50 = .ok (.if_icmp .ge 118, 3) := by decide +kernel
theorem dX7_source_53 : decode cX7_source 53 = .ok (.iconst 0, 1) := by decide +kernel
theorem dX7_source_54 : decode cX7_source 54 = .ok (.istore 5, 2) := by decide +kernel
theorem dX7_source_56 : decode cX7_source 56 = .ok (.iload 5, 2) := by decide +kernel
theorem dX7_source_58 : decode cX7_source 58 = .ok (.aload_n 0, 1) := by decide +kernel
theorem dX7_source_59 : decode cX7_source 59 = .ok (.iload 4, 2) := by decide +kernel
theorem dX7_source_61 : decode cX7_source 61 = .ok (.iconst 3, 1) := by decide +kernel
theorem dX7_source_62 : decode cX7_source 62 = .ok (.invokevirtual 49, 3) := by decide +kernel
theorem dX7_source_65 : decode cX7_source 65 = .ok (.if_icmp .ge 97, 3) := by decide +kernel
theorem dX7_source_68 : decode cX7_source 68 = .ok (.aload_n 0, 1) := by decide +kernel
theorem dX7_source_69 : decode cX7_source 69 = .ok (.getfield 7, 3) := by decide +kernel
theorem dX7_source_72 : decode cX7_source 72 = .ok (.iload 4, 2) := by decide +kernel
theorem dX7_source_74 : decode cX7_source 74 = .ok (.iload 5, 2) := by decide +kernel
theorem dX7_source_76 : decode cX7_source 76 = .ok (.invokestatic 53, 3) := by decide +kernel
theorem dX7_source_79 : decode cX7_source 79 = .ok (.iaload, 1) := by decide +kernel
theorem dX7_source_80 : decode cX7_source 80 = .ok (.iload_n 1, 1) := by decide +kernel
theorem dX7_source_81 : decode cX7_source 81 = .ok (.if_icmp .ne 7, 3) := by decide +kernel
theorem dX7_source_84 : decode cX7_source 84 = .ok (.iconst 1, 1) := by decide +kernel
theorem dX7_source_85 : decode cX7_source 85 = .ok (.goto 4, 3) := by decide +kernel
theorem dX7_source_88 : decode cX7_source 88 = .ok (.iconst 0, 1) := by decide +kernel
theorem dX7_source_89 : decode cX7_source 89 = .ok (.istore 6, 2) := by decide +kernel
theorem dX7_source_91 : decode cX7_source 91 = .ok (.iload_n 3, 1) := by decide +kernel
theorem dX7_source_92 : decode cX7_source 92 = .ok (.iload 6, 2) := by decide +kernel
theorem dX7_source_94 : decode cX7_source 94 = .ok (.ifCond .ne 7, 3) := by decide +kernel
theorem dX7_source_97 : decode cX7_source 97 = .ok (.iconst 0, 1) := by decide +kernel
theorem dX7_source_98 : decode cX7_source 98 = .ok (.goto 56, 3) := by decide +kernel
theorem dX7_source_101 : decode cX7_source 101 = .ok (.iload_n 2, 1) := by decide +kernel
theorem dX7_source_102 : decode cX7_source 102 = .ok (.iconst 1, 1) := by decide +kernel
theorem dX7_source_103 : decode cX7_source 103 = .ok (.if_icmp .ne 7, 3) := by decide +kernel
theorem dX7_source_106 : decode cX7_source 106 = .ok (.iconst 1, 1) := by decide +kernel
theorem dX7_source_107 : decode cX7_source 107 = .ok (.goto 47, 3) := by decide +kernel
theorem dX7_source_110 : decode cX7_source 110 = .ok (.iload_n 2, 1) := by decide +kernel
theorem dX7_source_111 : decode cX7_source 111 = .ok (.iconst 3, 1) := by decide +kernel
theorem dX7_source_112 : decode cX7_source 112 = .ok (.if_icmp .ne 20, 3) := by decide +kernel
theorem dX7_source_115 : decode cX7_source 115 = .ok (.aload_n 0, 1) := by decide +kernel
theorem dX7_source_116 : decode cX7_source 116 = .ok (.getfield 7, 3) := by decide +kernel
theorem dX7_source_119 : decode cX7_source 119 = .ok (.iload 4, 2) := by decide +kernel
theorem dX7_source_121 : decode cX7_source 121 = .ok (.iload 5, 2) := by decide +kernel
theorem dX7_source_123 : decode cX7_source 123 = .ok (.invokestatic 53, 3) := by decide +kernel
theorem dX7_source_126 : decode cX7_source 126 = .ok (.iconst 1, 1) := by decide +kernel
theorem dX7_source_127 : decode cX7_source 127 = .ok (.iadd, 1) := by decide +kernel
theorem dX7_source_128 : decode cX7_source 128 = .ok (.iaload, 1) := by decide +kernel
theorem dX7_source_129 : decode cX7_source 129 = .ok (.goto 25, 3) := by decide +kernel
theorem dX7_source_132 : decode cX7_source 132 = .ok (.aload_n 0, 1) := by decide +kernel
theorem dX7_source_133 : decode cX7_source 133 = .ok (.iload 4, 2) := by decide +kernel
theorem dX7_source_135 : decode cX7_source 135 = .ok (.iload 5, 2) := by decide +kernel
theorem dX7_source_137 : decode cX7_source 137 = .ok (.aload_n 0, 1) := by decide +kernel
theorem dX7_source_138 : decode cX7_source 138 = .ok (.getfield 7, 3) := by decide +kernel
theorem dX7_source_141 : decode cX7_source 141 = .ok (.iconst 0, 1) := by decide +kernel
theorem dX7_source_142 : decode cX7_source 142 = .ok (.iaload, 1) := by decide +kernel
theorem dX7_source_143 : decode cX7_source 143 = .ok (.invokevirtual 62, 3) := by decide +kernel
theorem dX7_source_146 : decode cX7_source 146 = .ok (.ifCond .eq 7, 3) := by decide +kernel
theorem dX7_source_149 : decode cX7_source 149 = .ok (.iconst 1, 1) := by decide +kernel
theorem dX7_source_150 : decode cX7_source 150 = .ok (.goto 4, 3) := by decide +kernel
theorem dX7_source_153 : decode cX7_source 153 = .ok (.iconst 0, 1) := by decide +kernel
theorem dX7_source_154 : decode cX7_source 154 = .ok (.iadd, 1) := by decide +kernel
theorem dX7_source_155 : decode cX7_source 155 = .ok (.istore_n 3, 1) := by decide +kernel
theorem dX7_source_156 : decode cX7_source 156 = .ok (.iinc 5 1, 3) := by decide +kernel
theorem dX7_source_159 : decode cX7_source 159 = .ok (.goto (-103), 3) := by decide +kernel
theorem dX7_source_162 : decode cX7_source 162 = .ok (.iinc 4 1, 3) := by decide +kernel
theorem dX7_source_165 : decode cX7_source 165 = .ok (.goto (-123), 3) := by decide +kernel
theorem dX7_source_168 : decode cX7_source 168 = .ok (.iload_n 3, 1) := by decide +kernel
theorem dX7_source_169 : decode cX7_source 169 = .ok (.ireturn, 1) := by decide +kernel
theorem dX7_staleOn_0 : decode cX7_staleOn 0 = .ok (.iconst 0, 1) := by decide +kernel
theorem dX7_staleOn_1 : decode cX7_staleOn 1 = .ok (.istore_n 2, 1) := by decide +kernel
theorem dX7_staleOn_2 : decode cX7_staleOn 2 = .ok (.iconst 0, 1) := by decide +kernel
theorem dX7_staleOn_3 : decode cX7_staleOn 3 = .ok (.istore_n 3, 1) := by decide +kernel
theorem dX7_staleOn_4 : decode cX7_staleOn 4 = .ok (.iload_n 3, 1) := by decide +kernel
theorem dX7_staleOn_5 : decode cX7_staleOn 5 = .ok (.aload_n 0, 1) := by decide +kernel
theorem dX7_staleOn_6 : decode cX7_staleOn 6 = .ok (.getfield 7, 3) := by decide +kernel
theorem dX7_staleOn_9 : decode cX7_staleOn 9 = .ok (.iconst 1, 1) := by decide +kernel
theorem dX7_staleOn_10 : decode cX7_staleOn 10 = .ok (.iaload, 1) := by decide +kernel
theorem dX7_staleOn_11 : decode cX7_staleOn 11 = .ok (.if_icmp .ge 32, 3) := by decide +kernel
theorem dX7_staleOn_14 : decode cX7_staleOn 14 = .ok (.iload_n 2, 1) := by decide +kernel
theorem dX7_staleOn_15 : decode cX7_staleOn 15 = .ok (.aload_n 0, 1) := by decide +kernel
theorem dX7_staleOn_16 : decode cX7_staleOn 16 = .ok (.iload_n 3, 1) := by decide +kernel
theorem dX7_staleOn_17 : decode cX7_staleOn 17 = .ok (.iconst 2, 1) := by decide +kernel
theorem dX7_staleOn_18 : decode cX7_staleOn 18 = .ok (.invokevirtual 49, 3) := by decide +kernel
theorem dX7_staleOn_21 : decode cX7_staleOn 21 = .ok (.iconst 3, 1) := by decide +kernel
theorem dX7_staleOn_22 : decode cX7_staleOn 22 = .ok (.if_icmp .ne 7, 3) := by decide +kernel
theorem dX7_staleOn_25 : decode cX7_staleOn 25 = .ok (.iconst 0, 1) := by decide +kernel
theorem dX7_staleOn_26 : decode cX7_staleOn 26 = .ok (.goto 9, 3) := by decide +kernel
theorem dX7_staleOn_29 : decode cX7_staleOn 29 = .ok (.aload_n 0, 1) := by decide +kernel
theorem dX7_staleOn_30 : decode cX7_staleOn 30 = .ok (.iload_n 3, 1) := by decide +kernel
theorem dX7_staleOn_31 : decode cX7_staleOn 31 = .ok (.iload_n 1, 1) := by decide +kernel
theorem dX7_staleOn_32 : decode cX7_staleOn 32 = .ok (.invokevirtual 68, 3) := by decide +kernel
theorem dX7_staleOn_35 : decode cX7_staleOn 35 = .ok (.iadd, 1) := by decide +kernel
theorem dX7_staleOn_36 : decode cX7_staleOn 36 = .ok (.istore_n 2, 1) := by decide +kernel
theorem dX7_staleOn_37 : decode cX7_staleOn 37 = .ok (.iinc 3 1, 3) := by decide +kernel
theorem dX7_staleOn_40 : decode cX7_staleOn 40 = .ok (.goto (-36), 3) := by decide +kernel
theorem dX7_staleOn_43 : decode cX7_staleOn 43 = .ok (.iload_n 2, 1) := by decide +kernel
theorem dX7_staleOn_44 : decode cX7_staleOn 44 = .ok (.ireturn, 1) := by decide +kernel
theorem dX7_staleIn_0 : decode cX7_staleIn 0 = .ok (.iload_n 1, 1) := by decide +kernel
theorem dX7_staleIn_1 : decode cX7_staleIn 1 = .ok (.iconst 0, 1) := by decide +kernel
theorem dX7_staleIn_2 : decode cX7_staleIn 2 = .ok (.sipush 999, 3) := by decide +kernel
theorem dX7_staleIn_5 : decode cX7_staleIn 5 = .ok (.invokestatic 41, 3) := by decide +kernel
theorem dX7_staleIn_8 : decode cX7_staleIn 8 = .ok (.ifCond .eq 18, 3) := by decide +kernel
theorem dX7_staleIn_11 : decode cX7_staleIn 11 = .ok (.aload_n 0, 1) := by decide +kernel
theorem dX7_staleIn_12 : decode cX7_staleIn 12 = .ok (.aload_n 0, 1) := by decide +kernel
theorem dX7_staleIn_13 : decode cX7_staleIn 13 = .ok (.getfield 7, 3) := by decide +kernel
theorem dX7_staleIn_16 : decode cX7_staleIn 16 = .ok (.iconst 0, 1) := by decide +kernel
theorem dX7_staleIn_17 : decode cX7_staleIn 17 = .ok (.iaload, 1) := by decide +kernel
theorem dX7_staleIn_18 : decode cX7_staleIn 18 = .ok (.iload_n 1, 1) := by decide +kernel
theorem dX7_staleIn_19 : decode cX7_staleIn 19 = .ok (.iadd, 1) := by decide +kernel
theorem dX7_staleIn_20 : decode cX7_staleIn 20 = .ok (.invokevirtual 164, 3) := by decide +kernel
theorem dX7_staleIn_23 : decode cX7_staleIn 23 = .ok (.goto 5, 3) := by decide +kernel
theorem dX7_staleIn_26 : decode cX7_staleIn 26 = .ok (.bipush (-2), 2) := by decide +kernel
theorem dX7_staleIn_28 : decode cX7_staleIn 28 = .ok (.ireturn, 1) := by decide +kernel
theorem dX7_facts_0 : decode cX7_facts 0 = .ok (.iconst 0, 1) := by decide +kernel
theorem dX7_facts_1 : decode cX7_facts 1 = .ok (.istore_n 1, 1) := by decide +kernel
theorem dX7_facts_2 : decode cX7_facts 2 = .ok (.iconst 0, 1) := by decide +kernel
theorem dX7_facts_3 : decode cX7_facts 3 = .ok (.istore_n 2, 1) := by decide +kernel
theorem dX7_facts_4 : decode cX7_facts 4 = .ok (.iload_n 2, 1) := by decide +kernel
theorem dX7_facts_5 : decode cX7_facts 5 = .ok (.aload_n 0, 1) := by decide +kernel
theorem dX7_facts_6 : decode cX7_facts 6 = .ok (.getfield 7, 3) := by decide +kernel
theorem dX7_facts_9 : decode cX7_facts 9 = .ok (.iconst 1, 1) := by decide +kernel
theorem dX7_facts_10 : decode cX7_facts 10 = .ok (.iaload, 1) := by decide +kernel
theorem dX7_facts_11 : decode cX7_facts 11 = .ok (.if_icmp .ge 18, 3) := by decide +kernel
theorem dX7_facts_14 : decode cX7_facts 14 = .ok (.iload_n 1, 1) := by decide +kernel
theorem dX7_facts_15 : decode cX7_facts 15 = .ok (.aload_n 0, 1) := by decide +kernel
theorem dX7_facts_16 : decode cX7_facts 16 = .ok (.iload_n 2, 1) := by decide +kernel
theorem dX7_facts_17 : decode cX7_facts 17 = .ok (.iconst 3, 1) := by decide +kernel
theorem dX7_facts_18 : decode cX7_facts 18 = .ok (.invokevirtual 49, 3) := by decide +kernel
theorem dX7_facts_21 : decode cX7_facts 21 = .ok (.iadd, 1) := by decide +kernel
theorem dX7_facts_22 : decode cX7_facts 22 = .ok (.istore_n 1, 1) := by decide +kernel
theorem dX7_facts_23 : decode cX7_facts 23 = .ok (.iinc 2 1, 3) := by decide +kernel
theorem dX7_facts_26 : decode cX7_facts 26 = .ok (.goto (-22), 3) := by decide +kernel
theorem dX7_facts_29 : decode cX7_facts 29 = .ok (.iload_n 1, 1) := by decide +kernel
theorem dX7_facts_30 : decode cX7_facts 30 = .ok (.ireturn, 1) := by decide +kernel
theorem dX7_freeLines_0 : decode cX7_freeLines 0 = .ok (.aload_n 0, 1) := by decide +kernel
theorem dX7_freeLines_1 : decode cX7_freeLines 1 = .ok (.invokevirtual 150, 3) := by decide +kernel
theorem dX7_freeLines_4 : decode cX7_freeLines 4 = .ok (.aload_n 0, 1) := by decide +kernel
theorem dX7_freeLines_5 : decode cX7_freeLines 5 = .ok (.getfield 138, 3) := by decide +kernel
theorem dX7_freeLines_8 : decode cX7_freeLines 8 = .ok (.ireturn, 1) := by decide +kernel
theorem dX7_count_0 : decode cX7_count 0 = .ok (.iload_n 1, 1) := by decide +kernel
theorem dX7_count_1 : decode cX7_count 1 = .ok (.tableswitch 166 0 17 #[87, 94, 101, 108, 108, 108, 108, 116, 121, 132, 137, 144, 144, 144, 144, 144, 156, 161], 87) := by decide +kernel
theorem dX7_count_88 : decode cX7_count 88 = .ok (.aload_n 0, 1) := by decide +kernel
theorem dX7_count_89 : decode cX7_count 89 = .ok (.getfield 7, 3) := by decide +kernel
theorem dX7_count_92 : decode cX7_count 92 = .ok (.iconst 0, 1) := by decide +kernel
theorem dX7_count_93 : decode cX7_count 93 = .ok (.iaload, 1) := by decide +kernel
theorem dX7_count_94 : decode cX7_count 94 = .ok (.ireturn, 1) := by decide +kernel
theorem dX7_count_95 : decode cX7_count 95 = .ok (.aload_n 0, 1) := by decide +kernel
theorem dX7_count_96 : decode cX7_count 96 = .ok (.getfield 7, 3) := by decide +kernel
theorem dX7_count_99 : decode cX7_count 99 = .ok (.iconst 1, 1) := by decide +kernel
theorem dX7_count_100 : decode cX7_count 100 = .ok (.iaload, 1) := by decide +kernel
theorem dX7_count_101 : decode cX7_count 101 = .ok (.ireturn, 1) := by decide +kernel
theorem dX7_count_102 : decode cX7_count 102 = .ok (.aload_n 0, 1) := by decide +kernel
theorem dX7_count_103 : decode cX7_count 103 = .ok (.getfield 7, 3) := by decide +kernel
theorem dX7_count_106 : decode cX7_count 106 = .ok (.iconst 2, 1) := by decide +kernel
theorem dX7_count_107 : decode cX7_count 107 = .ok (.iaload, 1) := by decide +kernel
theorem dX7_count_108 : decode cX7_count 108 = .ok (.ireturn, 1) := by decide +kernel
theorem dX7_count_109 : decode cX7_count 109 = .ok (.aload_n 0, 1) := by decide +kernel
theorem dX7_count_110 : decode cX7_count 110 = .ok (.iload_n 1, 1) := by decide +kernel
theorem dX7_count_111 : decode cX7_count 111 = .ok (.iconst 3, 1) := by decide +kernel
theorem dX7_count_112 : decode cX7_count 112 = .ok (.isub, 1) := by decide +kernel
theorem dX7_count_113 : decode cX7_count 113 = .ok (.invokevirtual 132, 3) := by decide +kernel
theorem dX7_count_116 : decode cX7_count 116 = .ok (.ireturn, 1) := by decide +kernel
theorem dX7_count_117 : decode cX7_count 117 = .ok (.aload_n 0, 1) := by decide +kernel
theorem dX7_count_118 : decode cX7_count 118 = .ok (.invokevirtual 167, 3) := by decide +kernel
theorem dX7_count_121 : decode cX7_count 121 = .ok (.ireturn, 1) := by decide +kernel
theorem dX7_count_122 : decode cX7_count 122 = .ok (.aload_n 0, 1) := by decide +kernel
theorem dX7_count_123 : decode cX7_count 123 = .ok (.aload_n 0, 1) := by decide +kernel
theorem dX7_count_124 : decode cX7_count 124 = .ok (.getfield 7, 3) := by decide +kernel
theorem dX7_count_127 : decode cX7_count 127 = .ok (.iconst 0, 1) := by decide +kernel
theorem dX7_count_128 : decode cX7_count 128 = .ok (.iaload, 1) := by decide +kernel
theorem dX7_count_129 : decode cX7_count 129 = .ok (.invokevirtual 164, 3) := by decide +kernel
theorem dX7_count_132 : decode cX7_count 132 = .ok (.ireturn, 1) := by decide +kernel
theorem dX7_count_133 : decode cX7_count 133 = .ok (.aload_n 0, 1) := by decide +kernel
theorem dX7_count_134 : decode cX7_count 134 = .ok (.invokevirtual 170, 3) := by decide +kernel
theorem dX7_count_137 : decode cX7_count 137 = .ok (.ireturn, 1) := by decide +kernel
theorem dX7_count_138 : decode cX7_count 138 = .ok (.aload_n 0, 1) := by decide +kernel
theorem dX7_count_139 : decode cX7_count 139 = .ok (.getfield 7, 3) := by decide +kernel
theorem dX7_count_142 : decode cX7_count 142 = .ok (.iconst 3, 1) := by decide +kernel
theorem dX7_count_143 : decode cX7_count 143 = .ok (.iaload, 1) := by decide +kernel
theorem dX7_count_144 : decode cX7_count 144 = .ok (.ireturn, 1) := by decide +kernel
theorem dX7_count_145 : decode cX7_count 145 = .ok (.aload_n 0, 1) := by decide +kernel
theorem dX7_count_146 : decode cX7_count 146 = .ok (.getfield 7, 3) := by decide +kernel
theorem dX7_count_149 : decode cX7_count 149 = .ok (.iconst 4, 1) := by decide +kernel
theorem dX7_count_150 : decode cX7_count 150 = .ok (.iload_n 1, 1) := by decide +kernel
theorem dX7_count_151 : decode cX7_count 151 = .ok (.iadd, 1) := by decide +kernel
theorem dX7_count_152 : decode cX7_count 152 = .ok (.bipush 11, 2) := by decide +kernel
theorem dX7_count_154 : decode cX7_count 154 = .ok (.isub, 1) := by decide +kernel
theorem dX7_count_155 : decode cX7_count 155 = .ok (.iaload, 1) := by decide +kernel
theorem dX7_count_156 : decode cX7_count 156 = .ok (.ireturn, 1) := by decide +kernel
theorem dX7_count_157 : decode cX7_count 157 = .ok (.aload_n 0, 1) := by decide +kernel
theorem dX7_count_158 : decode cX7_count 158 = .ok (.getfield 33, 3) := by decide +kernel
theorem dX7_count_161 : decode cX7_count 161 = .ok (.ireturn, 1) := by decide +kernel
theorem dX7_count_162 : decode cX7_count 162 = .ok (.aload_n 0, 1) := by decide +kernel
theorem dX7_count_163 : decode cX7_count 163 = .ok (.getfield 77, 3) := by decide +kernel
theorem dX7_count_166 : decode cX7_count 166 = .ok (.ireturn, 1) := by decide +kernel
theorem dX7_count_167 : decode cX7_count 167 = .ok (.bipush (-2), 2) := by decide +kernel
theorem dX7_count_169 : decode cX7_count 169 = .ok (.ireturn, 1) := by decide +kernel
theorem dJxf58ca_isNaN_12338_0 : decode cJxf58ca_isNaN_12338 0 = .ok (.fload_n 0, 1) := by decide +kernel
theorem dJxf58ca_isNaN_12338_1 : decode cJxf58ca_isNaN_12338 1 = .ok (.fload_n 0, 1) := by decide +kernel
theorem dJxf58ca_isNaN_12338_2 : decode cJxf58ca_isNaN_12338 2 = .ok (.fcmp .l, 1) := by decide +kernel
theorem dJxf58ca_isNaN_12338_3 : decode cJxf58ca_isNaN_12338 3 = .ok (.ifCond .eq 7, 3) := by decide +kernel
theorem dJxf58ca_isNaN_12338_6 : decode cJxf58ca_isNaN_12338 6 = .ok (.iconst 1, 1) := by decide +kernel
theorem dJxf58ca_isNaN_12338_7 : decode cJxf58ca_isNaN_12338 7 = .ok (.goto 4, 3) := by decide +kernel
theorem dJxf58ca_isNaN_12338_10 : decode cJxf58ca_isNaN_12338 10 = .ok (.iconst 0, 1) := by decide +kernel
theorem dJxf58ca_isNaN_12338_11 : decode cJxf58ca_isNaN_12338 11 = .ok (.ireturn, 1) := by decide +kernel
theorem dJxf58ca_floatToIntBits_5c35a_0 : decode cJxf58ca_floatToIntBits_5c35a 0 = .ok (.fload_n 0, 1) := by decide +kernel
theorem dJxf58ca_floatToIntBits_5c35a_1 : decode cJxf58ca_floatToIntBits_5c35a 1 = .ok (.invokestatic 59, 3) := by decide +kernel
theorem dJxf58ca_floatToIntBits_5c35a_4 : decode cJxf58ca_floatToIntBits_5c35a 4 = .ok (.ifCond .ne 8, 3) := by decide +kernel
theorem dJxf58ca_floatToIntBits_5c35a_7 : decode cJxf58ca_floatToIntBits_5c35a 7 = .ok (.fload_n 0, 1) := by decide +kernel
theorem dJxf58ca_floatToIntBits_5c35a_8 : decode cJxf58ca_floatToIntBits_5c35a 8 = .ok (.invokestatic 74, 3) := by decide +kernel
theorem dJxf58ca_floatToIntBits_5c35a_11 : decode cJxf58ca_floatToIntBits_5c35a 11 = .ok (.ireturn, 1) := by decide +kernel
theorem dJxf58ca_floatToIntBits_5c35a_12 : decode cJxf58ca_floatToIntBits_5c35a 12 = .ok (.ldc 77, 2) := by decide +kernel
theorem dJxf58ca_floatToIntBits_5c35a_14 : decode cJxf58ca_floatToIntBits_5c35a 14 = .ok (.ireturn, 1) := by decide +kernel
theorem dJ6_bitCount_0f7a4_0 : decode cJ6_bitCount_0f7a4 0 = .ok (.iload_n 0, 1) := by decide +kernel
theorem dJ6_bitCount_0f7a4_1 : decode cJ6_bitCount_0f7a4 1 = .ok (.iload_n 0, 1) := by decide +kernel
theorem dJ6_bitCount_0f7a4_2 : decode cJ6_bitCount_0f7a4 2 = .ok (.iconst 1, 1) := by decide +kernel
theorem dJ6_bitCount_0f7a4_3 : decode cJ6_bitCount_0f7a4 3 = .ok (.iushr, 1) := by decide +kernel
theorem dJ6_bitCount_0f7a4_4 : decode cJ6_bitCount_0f7a4 4 = .ok (.ldc_w 265, 3) := by decide +kernel
theorem dJ6_bitCount_0f7a4_7 : decode cJ6_bitCount_0f7a4 7 = .ok (.iand, 1) := by decide +kernel
theorem dJ6_bitCount_0f7a4_8 : decode cJ6_bitCount_0f7a4 8 = .ok (.isub, 1) := by decide +kernel
theorem dJ6_bitCount_0f7a4_9 : decode cJ6_bitCount_0f7a4 9 = .ok (.istore_n 0, 1) := by decide +kernel
theorem dJ6_bitCount_0f7a4_10 : decode cJ6_bitCount_0f7a4 10 = .ok (.iload_n 0, 1) := by decide +kernel
theorem dJ6_bitCount_0f7a4_11 : decode cJ6_bitCount_0f7a4 11 = .ok (.ldc_w 266, 3) := by decide +kernel
theorem dJ6_bitCount_0f7a4_14 : decode cJ6_bitCount_0f7a4 14 = .ok (.iand, 1) := by decide +kernel
theorem dJ6_bitCount_0f7a4_15 : decode cJ6_bitCount_0f7a4 15 = .ok (.iload_n 0, 1) := by decide +kernel
theorem dJ6_bitCount_0f7a4_16 : decode cJ6_bitCount_0f7a4 16 = .ok (.iconst 2, 1) := by decide +kernel
theorem dJ6_bitCount_0f7a4_17 : decode cJ6_bitCount_0f7a4 17 = .ok (.iushr, 1) := by decide +kernel
theorem dJ6_bitCount_0f7a4_18 : decode cJ6_bitCount_0f7a4 18 = .ok (.ldc_w 266, 3) := by decide +kernel
theorem dJ6_bitCount_0f7a4_21 : decode cJ6_bitCount_0f7a4 21 = .ok (.iand, 1) := by decide +kernel
theorem dJ6_bitCount_0f7a4_22 : decode cJ6_bitCount_0f7a4 22 = .ok (.iadd, 1) := by decide +kernel
theorem dJ6_bitCount_0f7a4_23 : decode cJ6_bitCount_0f7a4 23 = .ok (.istore_n 0, 1) := by decide +kernel
theorem dJ6_bitCount_0f7a4_24 : decode cJ6_bitCount_0f7a4 24 = .ok (.iload_n 0, 1) := by decide +kernel
theorem dJ6_bitCount_0f7a4_25 : decode cJ6_bitCount_0f7a4 25 = .ok (.iload_n 0, 1) := by decide +kernel
theorem dJ6_bitCount_0f7a4_26 : decode cJ6_bitCount_0f7a4 26 = .ok (.iconst 4, 1) := by decide +kernel
theorem dJ6_bitCount_0f7a4_27 : decode cJ6_bitCount_0f7a4 27 = .ok (.iushr, 1) := by decide +kernel
theorem dJ6_bitCount_0f7a4_28 : decode cJ6_bitCount_0f7a4 28 = .ok (.iadd, 1) := by decide +kernel
theorem dJ6_bitCount_0f7a4_29 : decode cJ6_bitCount_0f7a4 29 = .ok (.ldc_w 267, 3) := by decide +kernel
theorem dJ6_bitCount_0f7a4_32 : decode cJ6_bitCount_0f7a4 32 = .ok (.iand, 1) := by decide +kernel
theorem dJ6_bitCount_0f7a4_33 : decode cJ6_bitCount_0f7a4 33 = .ok (.istore_n 0, 1) := by decide +kernel
theorem dJ6_bitCount_0f7a4_34 : decode cJ6_bitCount_0f7a4 34 = .ok (.iload_n 0, 1) := by decide +kernel
theorem dJ6_bitCount_0f7a4_35 : decode cJ6_bitCount_0f7a4 35 = .ok (.iload_n 0, 1) := by decide +kernel
theorem dJ6_bitCount_0f7a4_36 : decode cJ6_bitCount_0f7a4 36 = .ok (.bipush 8, 2) := by decide +kernel
theorem dJ6_bitCount_0f7a4_38 : decode cJ6_bitCount_0f7a4 38 = .ok (.iushr, 1) := by decide +kernel
theorem dJ6_bitCount_0f7a4_39 : decode cJ6_bitCount_0f7a4 39 = .ok (.iadd, 1) := by decide +kernel
theorem dJ6_bitCount_0f7a4_40 : decode cJ6_bitCount_0f7a4 40 = .ok (.istore_n 0, 1) := by decide +kernel
theorem dJ6_bitCount_0f7a4_41 : decode cJ6_bitCount_0f7a4 41 = .ok (.iload_n 0, 1) := by decide +kernel
theorem dJ6_bitCount_0f7a4_42 : decode cJ6_bitCount_0f7a4 42 = .ok (.iload_n 0, 1) := by decide +kernel
theorem dJ6_bitCount_0f7a4_43 : decode cJ6_bitCount_0f7a4 43 = .ok (.bipush 16, 2) := by decide +kernel
theorem dJ6_bitCount_0f7a4_45 : decode cJ6_bitCount_0f7a4 45 = .ok (.iushr, 1) := by decide +kernel
theorem dJ6_bitCount_0f7a4_46 : decode cJ6_bitCount_0f7a4 46 = .ok (.iadd, 1) := by decide +kernel
theorem dJ6_bitCount_0f7a4_47 : decode cJ6_bitCount_0f7a4 47 = .ok (.istore_n 0, 1) := by decide +kernel
theorem dJ6_bitCount_0f7a4_48 : decode cJ6_bitCount_0f7a4 48 = .ok (.iload_n 0, 1) := by decide +kernel
theorem dJ6_bitCount_0f7a4_49 : decode cJ6_bitCount_0f7a4 49 = .ok (.bipush 63, 2) := by decide +kernel
theorem dJ6_bitCount_0f7a4_51 : decode cJ6_bitCount_0f7a4 51 = .ok (.iand, 1) := by decide +kernel
theorem dJ6_bitCount_0f7a4_52 : decode cJ6_bitCount_0f7a4 52 = .ok (.ireturn, 1) := by decide +kernel
theorem dJ9_min_7cf53_0 : decode cJ9_min_7cf53 0 = .ok (.iload_n 0, 1) := by decide +kernel
theorem dJ9_min_7cf53_1 : decode cJ9_min_7cf53 1 = .ok (.iload_n 1, 1) := by decide +kernel
theorem dJ9_min_7cf53_2 : decode cJ9_min_7cf53 2 = .ok (.if_icmp .gt 7, 3) := by decide +kernel
theorem dJ9_min_7cf53_5 : decode cJ9_min_7cf53 5 = .ok (.iload_n 0, 1) := by decide +kernel
theorem dJ9_min_7cf53_6 : decode cJ9_min_7cf53 6 = .ok (.goto 4, 3) := by decide +kernel
theorem dJ9_min_7cf53_9 : decode cJ9_min_7cf53 9 = .ok (.iload_n 1, 1) := by decide +kernel
theorem dJ9_min_7cf53_10 : decode cJ9_min_7cf53 10 = .ok (.ireturn, 1) := by decide +kernel
end
section
theorem life_at {o q i : Int} (ho : isDesk o) (e : q = 4 * i + o + 4) (hi : 0 ≤ i ∧ i < 20) : isLife q := by
  subst e
  rw [show 4 * i + o + 4 = o + 4 + 4 * i by omega]
  exact ho.2.2.2.2.2 i hi
theorem msX0_init : Mi yX0_init cX0_init 2 0 := ⟨q60, q59, q37, by decide +kernel, by decide +kernel, by decide +kernel, rfl⟩
abbrev rmX0_copyFrom : Room := { frames := 2, cells := 0, slots := 0, locals := 47 }
theorem msX0_copyFrom : Ms yX0_copyFrom cX0_copyFrom 5 none 1 := ⟨q248, q246, q247, q37, by decide +kernel, by decide +kernel, by decide +kernel⟩
abbrev rmX0_today : Room := { frames := 0, cells := 0, slots := 0, locals := 0 }
theorem msX0_today : Ms yX0_today cX0_today 1 (some .int) 0 := ⟨q281, q279, q280, q37, by decide +kernel, by decide +kernel, by decide +kernel⟩
abbrev rmX0_hoursLeft : Room := { frames := 0, cells := 0, slots := 0, locals := 0 }
theorem msX0_hoursLeft : Ms yX0_hoursLeft cX0_hoursLeft 1 (some .int) 0 := ⟨q360, q358, q359, q37, by decide +kernel, by decide +kernel, by decide +kernel⟩
abbrev rmX0_persons : Room := { frames := 0, cells := 0, slots := 0, locals := 0 }
theorem msX0_persons : Ms yX0_persons cX0_persons 1 (some .int) 0 := ⟨q517, q515, q516, q37, by decide +kernel, by decide +kernel, by decide +kernel⟩
abbrev rmX0_corrections : Room := { frames := 0, cells := 0, slots := 0, locals := 0 }
theorem msX0_corrections : Ms yX0_corrections cX0_corrections 1 (some .int) 0 := ⟨q737, q735, q736, q37, by decide +kernel, by decide +kernel, by decide +kernel⟩
abbrev rmX0_roomForPersons : Room := { frames := 0, cells := 0, slots := 0, locals := 0 }
theorem msX0_roomForPersons : Ms yX0_roomForPersons cX0_roomForPersons 1 (some .int) 0 := ⟨q236, q234, q235, q37, by decide +kernel, by decide +kernel, by decide +kernel⟩
abbrev rmX0_lifeOf : Room := { frames := 0, cells := 0, slots := 0, locals := 0 }
theorem msX0_lifeOf : Ms yX0_lifeOf cX0_lifeOf 2 (some (.object "LivesAhead$Life")) 1 := ⟨q255, q253, q254, q37, by decide +kernel, by decide +kernel, by decide +kernel⟩
abbrev rmX0_join : Room := { frames := 2, cells := 0, slots := 0, locals := 42 }
theorem msX0_join : Ms yX0_join cX0_join 4 (some .int) 2 := ⟨q264, q262, q263, q37, by decide +kernel, by decide +kernel, by decide +kernel⟩
abbrev rmX0_joinLike : Room := { frames := 3, cells := 0, slots := 0, locals := 65 }
theorem msX0_joinLike : Ms yX0_joinLike cX0_joinLike 3 none 1 := ⟨q331, q329, q330, q37, by decide +kernel, by decide +kernel, by decide +kernel⟩
abbrev rmX0_spendHours : Room := { frames := 0, cells := 0, slots := 0, locals := 0 }
theorem msX0_spendHours : Ms yX0_spendHours cX0_spendHours 2 none 1 := ⟨q364, q362, q363, q37, by decide +kernel, by decide +kernel, by decide +kernel⟩
abbrev rmX0_setting : Room := { frames := 1, cells := 0, slots := 0, locals := 20 }
theorem msX0_setting : Ms yX0_setting cX0_setting 2 (some .int) 1 := ⟨q437, q435, q436, q37, by decide +kernel, by decide +kernel, by decide +kernel⟩
abbrev rmX0_changeSetting : Room := { frames := 1, cells := 0, slots := 0, locals := 20 }
theorem msX0_changeSetting : Ms yX0_changeSetting cX0_changeSetting 3 none 2 := ⟨q472, q470, q471, q37, by decide +kernel, by decide +kernel, by decide +kernel⟩
abbrev rmX0_trustOf : Room := { frames := 1, cells := 0, slots := 0, locals := 20 }
theorem msX0_trustOf : Ms yX0_trustOf cX0_trustOf 2 (some .int) 1 := ⟨q426, q424, q425, q37, by decide +kernel, by decide +kernel, by decide +kernel⟩
abbrev rmX0_changeTrust : Room := { frames := 1, cells := 0, slots := 0, locals := 20 }
theorem msX0_changeTrust : Ms yX0_changeTrust cX0_changeTrust 3 none 2 := ⟨q458, q456, q457, q37, by decide +kernel, by decide +kernel, by decide +kernel⟩
abbrev rmX0_countCorrection : Room := { frames := 0, cells := 0, slots := 0, locals := 0 }
theorem msX0_countCorrection : Ms yX0_countCorrection cX0_countCorrection 1 (some .int) 0 := ⟨q599, q597, q598, q37, by decide +kernel, by decide +kernel, by decide +kernel⟩
abbrev rmX0_personsIn : Room := { frames := 1, cells := 0, slots := 0, locals := 21 }
theorem msX0_personsIn : Ms yX0_personsIn cX0_personsIn 5 (some .int) 1 := ⟨q497, q495, q496, q37, by decide +kernel, by decide +kernel, by decide +kernel⟩
abbrev rmX0_facts : Room := { frames := 1, cells := 0, slots := 0, locals := 21 }
theorem msX0_facts : Ms yX0_facts cX0_facts 4 (some .int) 0 := ⟨q729, q727, q728, q37, by decide +kernel, by decide +kernel, by decide +kernel⟩
abbrev rmX0_worthOf : Room := { frames := 2, cells := 0, slots := 0, locals := 42 }
theorem msX0_worthOf : Ms yX0_worthOf cX0_worthOf 7 (some .float) 3 := ⟨q418, q416, q417, q37, by decide +kernel, by decide +kernel, by decide +kernel⟩
abbrev rmX0_worthOfLife : Room := { frames := 3, cells := 0, slots := 0, locals := 68 }
theorem msX0_worthOfLife : Ms yX0_worthOfLife cX0_worthOfLife 4 (some .float) 1 := ⟨q680, q678, q679, q37, by decide +kernel, by decide +kernel, by decide +kernel⟩
abbrev rmX0_bound : Room := { frames := 2, cells := 0, slots := 0, locals := 41 }
theorem msX0_bound : Ms yX0_bound cX0_bound 1 (some .float) 0 := ⟨q433, q431, q432, q37, by decide +kernel, by decide +kernel, by decide +kernel⟩
abbrev rmX0_isStale : Room := { frames := 3, cells := 0, slots := 0, locals := 68 }
theorem msX0_isStale : Ms yX0_isStale cX0_isStale 3 (some .boolean) 2 := ⟨q414, q412, q413, q37, by decide +kernel, by decide +kernel, by decide +kernel⟩
abbrev rmX0_staleFactsOf : Room := { frames := 3, cells := 0, slots := 0, locals := 68 }
theorem msX0_staleFactsOf : Ms yX0_staleFactsOf cX0_staleFactsOf 6 (some .int) 2 := ⟨q448, q446, q447, q37, by decide +kernel, by decide +kernel, by decide +kernel⟩
abbrev rmX0_staleFactsOn : Room := { frames := 4, cells := 0, slots := 0, locals := 93 }
theorem msX0_staleFactsOn : Ms yX0_staleFactsOn cX0_staleFactsOn 5 (some .int) 1 := ⟨q720, q718, q719, q37, by decide +kernel, by decide +kernel, by decide +kernel⟩
abbrev rmX0_factsFrom : Room := { frames := 2, cells := 0, slots := 0, locals := 42 }
theorem msX0_factsFrom : Ms yX0_factsFrom cX0_factsFrom 6 (some .int) 1 := ⟨q704, q702, q703, q37, by decide +kernel, by decide +kernel, by decide +kernel⟩
abbrev rmX0_staleFactsFrom : Room := { frames := 4, cells := 0, slots := 0, locals := 90 }
theorem msX0_staleFactsFrom : Ms yX0_staleFactsFrom cX0_staleFactsFrom 6 (some .int) 1 := ⟨q708, q706, q707, q37, by decide +kernel, by decide +kernel, by decide +kernel⟩
abbrev rmX0_linesFrom : Room := { frames := 2, cells := 0, slots := 0, locals := 42 }
theorem msX0_linesFrom : Ms yX0_linesFrom cX0_linesFrom 6 (some .int) 1 := ⟨q712, q710, q711, q37, by decide +kernel, by decide +kernel, by decide +kernel⟩
abbrev rmX0_urgencyOf : Room := { frames := 4, cells := 0, slots := 0, locals := 93 }
theorem msX0_urgencyOf : Ms yX0_urgencyOf cX0_urgencyOf 3 (some .int) 1 := ⟨q444, q442, q443, q37, by decide +kernel, by decide +kernel, by decide +kernel⟩
abbrev rmX0_rankUrgencies : Room := { frames := 5, cells := 0, slots := 0, locals := 115 }
theorem msX0_rankUrgencies : Ms yX0_rankUrgencies cX0_rankUrgencies 4 none 1 := ⟨q689, q687, q688, q37, by decide +kernel, by decide +kernel, by decide +kernel⟩
abbrev rmX0_firstToCheck : Room := { frames := 4, cells := 0, slots := 0, locals := 90 }
theorem msX0_firstToCheck : Ms yX0_firstToCheck cX0_firstToCheck 3 (some .int) 1 := ⟨q408, q406, q407, q37, by decide +kernel, by decide +kernel, by decide +kernel⟩
abbrev rmX0_mostUrgentToCheck : Room := { frames := 5, cells := 0, slots := 0, locals := 115 }
theorem msX0_mostUrgentToCheck : Ms yX0_mostUrgentToCheck cX0_mostUrgentToCheck 6 (some (.object "LivesAhead$Life")) 0 := ⟨q403, q401, q402, q37, by decide +kernel, by decide +kernel, by decide +kernel⟩
abbrev rmX0_checkToday : Room := { frames := 2, cells := 0, slots := 0, locals := 43 }
theorem msX0_checkToday : Ms yX0_checkToday cX0_checkToday 3 none 2 := ⟨q382, q380, q381, q37, by decide +kernel, by decide +kernel, by decide +kernel⟩
abbrev rmX0_couldPrint : Room := { frames := 4, cells := 0, slots := 0, locals := 93 }
theorem msX0_couldPrint : Ms yX0_couldPrint cX0_couldPrint 2 (some .boolean) 1 := ⟨q541, q539, q540, q37, by decide +kernel, by decide +kernel, by decide +kernel⟩
abbrev rmX0_markPrinted : Room := { frames := 1, cells := 0, slots := 0, locals := 21 }
theorem msX0_markPrinted : Ms yX0_markPrinted cX0_markPrinted 3 none 1 := ⟨q572, q570, q571, q37, by decide +kernel, by decide +kernel, by decide +kernel⟩
abbrev rmX0_takeBackOldDeaths : Room := { frames := 2, cells := 0, slots := 0, locals := 41 }
theorem msX0_takeBackOldDeaths : Ms yX0_takeBackOldDeaths cX0_takeBackOldDeaths 3 none 0 := ⟨q580, q578, q579, q37, by decide +kernel, by decide +kernel, by decide +kernel⟩
abbrev rmX0_beginNextDay : Room := { frames := 2, cells := 0, slots := 0, locals := 41 }
theorem msX0_beginNextDay : Ms yX0_beginNextDay cX0_beginNextDay 1 none 0 := ⟨q586, q584, q585, q37, by decide +kernel, by decide +kernel, by decide +kernel⟩
theorem msX1_init : Mi yX1_init cX1_init 2 0 := ⟨q127, q126, q39, by decide +kernel, by decide +kernel, by decide +kernel, rfl⟩
abbrev rmX1_size : Room := { frames := 0, cells := 0, slots := 0, locals := 0 }
theorem msX1_size : Ms yX1_size cX1_size 1 (some .int) 0 := ⟨q627, q625, q626, q39, by decide +kernel, by decide +kernel, by decide +kernel⟩
abbrev rmX1_remember : Room := { frames := 3, cells := 0, slots := 0, locals := 71 }
theorem msX1_remember : Ms yX1_remember cX1_remember 3 none 1 := ⟨q240, q238, q239, q39, by decide +kernel, by decide +kernel, by decide +kernel⟩
abbrev rmX1_takeLatest : Room := { frames := 3, cells := 0, slots := 0, locals := 71 }
theorem msX1_takeLatest : Ms yX1_takeLatest cX1_takeLatest 3 none 1 := ⟨q631, q629, q630, q39, by decide +kernel, by decide +kernel, by decide +kernel⟩
abbrev rmX1_stateAt : Room := { frames := 0, cells := 0, slots := 0, locals := 0 }
theorem msX1_stateAt : Ms yX1_stateAt cX1_stateAt 3 (some (.object "LivesAhead$Desk")) 1 := ⟨q244, q243, q0, q39, by decide +kernel, by decide +kernel, by decide +kernel⟩
theorem msX2_init : Mi yX2_init cX2_init 1 0 := ⟨q67, q66, q38, by decide +kernel, by decide +kernel, by decide +kernel, rfl⟩
abbrev rmX2_begin : Room := { frames := 1, cells := 0, slots := 0, locals := 20 }
theorem msX2_begin : Ms yX2_begin cX2_begin 3 none 2 := ⟨q269, q267, q268, q38, by decide +kernel, by decide +kernel, by decide +kernel⟩
abbrev rmX2_copyLife : Room := { frames := 1, cells := 0, slots := 0, locals := 26 }
theorem msX2_copyLife : Ms yX2_copyLife cX2_copyLife 2 none 1 := ⟨q259, q257, q258, q38, by decide +kernel, by decide +kernel, by decide +kernel⟩
abbrev rmX2_age : Room := { frames := 0, cells := 0, slots := 0, locals := 0 }
theorem msX2_age : Ms yX2_age cX2_age 1 (some .int) 0 := ⟨q335, q333, q334, q38, by decide +kernel, by decide +kernel, by decide +kernel⟩
abbrev rmX2_rank : Room := { frames := 0, cells := 0, slots := 0, locals := 0 }
theorem msX2_rank : Ms yX2_rank cX2_rank 1 (some .int) 0 := ⟨q339, q337, q338, q38, by decide +kernel, by decide +kernel, by decide +kernel⟩
abbrev rmX2_state : Room := { frames := 0, cells := 0, slots := 0, locals := 0 }
theorem msX2_state : Ms yX2_state cX2_state 1 (some .int) 0 := ⟨q650, q648, q649, q38, by decide +kernel, by decide +kernel, by decide +kernel⟩
abbrev rmX2_isIn : Room := { frames := 0, cells := 0, slots := 0, locals := 0 }
theorem msX2_isIn : Ms yX2_isIn cX2_isIn 2 (some .boolean) 1 := ⟨q352, q350, q351, q38, by decide +kernel, by decide +kernel, by decide +kernel⟩
abbrev rmX2_teller : Room := { frames := 0, cells := 0, slots := 0, locals := 0 }
theorem msX2_teller : Ms yX2_teller cX2_teller 1 (some .int) 0 := ⟨q480, q478, q479, q38, by decide +kernel, by decide +kernel, by decide +kernel⟩
abbrev rmX2_deathDay : Room := { frames := 0, cells := 0, slots := 0, locals := 0 }
theorem msX2_deathDay : Ms yX2_deathDay cX2_deathDay 1 (some .int) 0 := ⟨q523, q521, q522, q38, by decide +kernel, by decide +kernel, by decide +kernel⟩
abbrev rmX2_printDay : Room := { frames := 0, cells := 0, slots := 0, locals := 0 }
theorem msX2_printDay : Ms yX2_printDay cX2_printDay 1 (some .int) 0 := ⟨q659, q657, q658, q38, by decide +kernel, by decide +kernel, by decide +kernel⟩
abbrev rmX2_size : Room := { frames := 0, cells := 0, slots := 0, locals := 0 }
theorem msX2_size : Ms yX2_size cX2_size 1 (some .int) 0 := ⟨q356, q354, q355, q38, by decide +kernel, by decide +kernel, by decide +kernel⟩
abbrev rmX2_tellDead : Room := { frames := 0, cells := 0, slots := 0, locals := 0 }
theorem msX2_tellDead : Ms yX2_tellDead cX2_tellDead 3 none 2 := ⟨q488, q486, q487, q38, by decide +kernel, by decide +kernel, by decide +kernel⟩
abbrev rmX2_confirmDeath : Room := { frames := 0, cells := 0, slots := 0, locals := 0 }
theorem msX2_confirmDeath : Ms yX2_confirmDeath cX2_confirmDeath 2 none 1 := ⟨q484, q482, q483, q38, by decide +kernel, by decide +kernel, by decide +kernel⟩
abbrev rmX2_takeBackDeath : Room := { frames := 0, cells := 0, slots := 0, locals := 0 }
theorem msX2_takeBackDeath : Ms yX2_takeBackDeath cX2_takeBackDeath 1 none 0 := ⟨q273, q271, q272, q38, by decide +kernel, by decide +kernel, by decide +kernel⟩
abbrev rmX2_becomePrinted : Room := { frames := 0, cells := 0, slots := 0, locals := 0 }
theorem msX2_becomePrinted : Ms yX2_becomePrinted cX2_becomePrinted 2 none 1 := ⟨q576, q574, q575, q38, by decide +kernel, by decide +kernel, by decide +kernel⟩
abbrev rmX2_hasFact : Room := { frames := 0, cells := 0, slots := 0, locals := 0 }
theorem msX2_hasFact : Ms yX2_hasFact cX2_hasFact 2 (some .boolean) 1 := ⟨q373, q371, q372, q38, by decide +kernel, by decide +kernel, by decide +kernel⟩
abbrev rmX2_sourceOf : Room := { frames := 1, cells := 0, slots := 0, locals := 21 }
theorem msX2_sourceOf : Ms yX2_sourceOf cX2_sourceOf 2 (some .int) 1 := ⟨q422, q420, q421, q38, by decide +kernel, by decide +kernel, by decide +kernel⟩
abbrev rmX2_linesOf : Room := { frames := 1, cells := 0, slots := 0, locals := 21 }
theorem msX2_linesOf : Ms yX2_linesOf cX2_linesOf 2 (some .int) 1 := ⟨q560, q558, q559, q38, by decide +kernel, by decide +kernel, by decide +kernel⟩
abbrev rmX2_dayOf : Room := { frames := 1, cells := 0, slots := 0, locals := 21 }
theorem msX2_dayOf : Ms yX2_dayOf cX2_dayOf 2 (some .int) 1 := ⟨q377, q375, q376, q38, by decide +kernel, by decide +kernel, by decide +kernel⟩
abbrev rmX2_addFact : Room := { frames := 0, cells := 0, slots := 0, locals := 0 }
theorem msX2_addFact : Ms yX2_addFact cX2_addFact 4 (some .int) 3 := ⟨q318, q316, q317, q38, by decide +kernel, by decide +kernel, by decide +kernel⟩
abbrev rmX2_removeFact : Room := { frames := 1, cells := 0, slots := 0, locals := 21 }
theorem msX2_removeFact : Ms yX2_removeFact cX2_removeFact 3 none 1 := ⟨q395, q393, q394, q38, by decide +kernel, by decide +kernel, by decide +kernel⟩
abbrev rmX2_changeSource : Room := { frames := 1, cells := 0, slots := 0, locals := 21 }
theorem msX2_changeSource : Ms yX2_changeSource cX2_changeSource 3 none 2 := ⟨q595, q593, q594, q38, by decide +kernel, by decide +kernel, by decide +kernel⟩
abbrev rmX2_changeDay : Room := { frames := 1, cells := 0, slots := 0, locals := 21 }
theorem msX2_changeDay : Ms yX2_changeDay cX2_changeDay 3 none 2 := ⟨q386, q384, q385, q38, by decide +kernel, by decide +kernel, by decide +kernel⟩
abbrev rmX2_length : Room := { frames := 2, cells := 0, slots := 0, locals := 42 }
theorem msX2_length : Ms yX2_length cX2_length 3 (some .int) 0 := ⟨q556, q554, q555, q38, by decide +kernel, by decide +kernel, by decide +kernel⟩
abbrev rmX2_differentSources : Room := { frames := 2, cells := 0, slots := 0, locals := 42 }
theorem msX2_differentSources : Ms yX2_differentSources cX2_differentSources 3 (some .int) 0 := ⟨q545, q543, q544, q38, by decide +kernel, by decide +kernel, by decide +kernel⟩
theorem msX3_init : Mi yX3_init cX3_init 1 0 := ⟨q187, q186, q42, by decide +kernel, by decide +kernel, by decide +kernel, rfl⟩
abbrev rmX3_lay : Room := { frames := 5, cells := 0, slots := 0, locals := 114 }
theorem msX3_lay : Ms yX3_lay cX3_lay 5 none 1 := ⟨q505, q503, q504, q42, by decide +kernel, by decide +kernel, by decide +kernel⟩
abbrev rmX3_size : Room := { frames := 0, cells := 0, slots := 0, locals := 0 }
theorem msX3_size : Ms yX3_size cX3_size 1 (some .int) 0 := ⟨q564, q562, q563, q42, by decide +kernel, by decide +kernel, by decide +kernel⟩
abbrev rmX3_linesFree : Room := { frames := 0, cells := 0, slots := 0, locals := 0 }
theorem msX3_linesFree : Ms yX3_linesFree cX3_linesFree 1 (some .int) 0 := ⟨q733, q731, q732, q42, by decide +kernel, by decide +kernel, by decide +kernel⟩
abbrev rmX3_queueDead : Room := { frames := 1, cells := 0, slots := 0, locals := 23 }
theorem msX3_queueDead : Ms yX3_queueDead cX3_queueDead 5 none 1 := ⟨q509, q508, q6, q42, by decide +kernel, by decide +kernel, by decide +kernel⟩
abbrev rmX3_personAt : Room := { frames := 0, cells := 0, slots := 0, locals := 0 }
theorem msX3_personAt : Ms yX3_personAt cX3_personAt 2 (some .int) 1 := ⟨q568, q566, q567, q42, by decide +kernel, by decide +kernel, by decide +kernel⟩
theorem msX4_init : Mi yX4_init cX4_init 2 0 := ⟨q146, q145, q40, by decide +kernel, by decide +kernel, by decide +kernel, rfl⟩
abbrev rmX4_length : Room := { frames := 0, cells := 0, slots := 0, locals := 0 }
theorem msX4_length : Ms yX4_length cX4_length 1 (some .int) 0 := ⟨q611, q609, q610, q40, by decide +kernel, by decide +kernel, by decide +kernel⟩
abbrev rmX4_append : Room := { frames := 0, cells := 0, slots := 0, locals := 0 }
theorem msX4_append : Ms yX4_append cX4_append 2 (some .boolean) 1 := ⟨q607, q605, q606, q40, by decide +kernel, by decide +kernel, by decide +kernel⟩
abbrev rmX4_clear : Room := { frames := 0, cells := 0, slots := 0, locals := 0 }
theorem msX4_clear : Ms yX4_clear cX4_clear 1 none 0 := ⟨q619, q617, q618, q40, by decide +kernel, by decide +kernel, by decide +kernel⟩
abbrev rmX4_fault : Room := { frames := 0, cells := 0, slots := 0, locals := 0 }
theorem msX4_fault : Ms yX4_fault cX4_fault 1 (some .int) 0 := ⟨q322, q320, q321, q40, by decide +kernel, by decide +kernel, by decide +kernel⟩
abbrev rmX4_personsRead : Room := { frames := 0, cells := 0, slots := 0, locals := 0 }
theorem msX4_personsRead : Ms yX4_personsRead cX4_personsRead 1 (some .int) 0 := ⟨q326, q324, q325, q40, by decide +kernel, by decide +kernel, by decide +kernel⟩
abbrev rmX4_readLife : Room := { frames := 0, cells := 0, slots := 0, locals := 0 }
theorem msX4_readLife : Ms yX4_readLife cX4_readLife 2 (some (.object "LivesAhead$Life")) 1 := ⟨q289, q287, q288, q40, by decide +kernel, by decide +kernel, by decide +kernel⟩
abbrev rmX4_readPersons : Room := { frames := 4, cells := 0, slots := 0, locals := 94 }
theorem msX4_readPersons : Ms yX4_readPersons cX4_readPersons 3 (some .boolean) 1 := ⟨q285, q283, q284, q40, by decide +kernel, by decide +kernel, by decide +kernel⟩
abbrev rmX4_readPerson : Room := { frames := 3, cells := 0, slots := 0, locals := 69 }
theorem msX4_readPerson : Ms yX4_readPerson cX4_readPerson 6 (some .boolean) 2 := ⟨q293, q292, q1, q40, by decide +kernel, by decide +kernel, by decide +kernel⟩
abbrev rmX4_readFact : Room := { frames := 2, cells := 0, slots := 0, locals := 45 }
theorem msX4_readFact : Ms yX4_readFact cX4_readFact 5 (some .boolean) 2 := ⟨q314, q313, q5, q40, by decide +kernel, by decide +kernel, by decide +kernel⟩
abbrev rmX4_takeAge : Room := { frames := 2, cells := 0, slots := 0, locals := 45 }
theorem msX4_takeAge : Ms yX4_takeAge cX4_takeAge 5 (some .int) 0 := ⟨q297, q296, q2, q40, by decide +kernel, by decide +kernel, by decide +kernel⟩
abbrev rmX4_takeDigit : Room := { frames := 1, cells := 0, slots := 0, locals := 22 }
theorem msX4_takeDigit : Ms yX4_takeDigit cX4_takeDigit 4 (some .int) 2 := ⟨q301, q300, q3, q40, by decide +kernel, by decide +kernel, by decide +kernel⟩
abbrev rmX4_takes : Room := { frames := 0, cells := 0, slots := 0, locals := 0 }
theorem msX4_takes : Ms yX4_takes cX4_takes 2 (some .boolean) 1 := ⟨q309, q308, q4, q40, by decide +kernel, by decide +kernel, by decide +kernel⟩
theorem msX5_init : Mi yX5_init cX5_init 1 0 := ⟨q171, q170, q41, by decide +kernel, by decide +kernel, by decide +kernel, rfl⟩
abbrev rmX5_clear : Room := { frames := 0, cells := 0, slots := 0, locals := 0 }
theorem msX5_clear : Ms yX5_clear cX5_clear 1 none 0 := ⟨q513, q511, q512, q41, by decide +kernel, by decide +kernel, by decide +kernel⟩
abbrev rmX5_size : Room := { frames := 0, cells := 0, slots := 0, locals := 0 }
theorem msX5_size : Ms yX5_size cX5_size 1 (some .int) 0 := ⟨q533, q531, q532, q41, by decide +kernel, by decide +kernel, by decide +kernel⟩
abbrev rmX5_enter : Room := { frames := 0, cells := 0, slots := 0, locals := 0 }
theorem msX5_enter : Ms yX5_enter cX5_enter 4 none 2 := ⟨q528, q526, q527, q41, by decide +kernel, by decide +kernel, by decide +kernel⟩
abbrev rmX5_personAt : Room := { frames := 0, cells := 0, slots := 0, locals := 0 }
theorem msX5_personAt : Ms yX5_personAt cX5_personAt 2 (some .int) 1 := ⟨q537, q535, q536, q41, by decide +kernel, by decide +kernel, by decide +kernel⟩
theorem msX6_init : Mi yX6_init cX6_init 1 0 := ⟨q52, q51, q36, by decide +kernel, by decide +kernel, by decide +kernel, rfl⟩
abbrev rmX6_addPerson : Room := { frames := 4, cells := 0, slots := 0, locals := 93 }
theorem msX6_addPerson : Ms yX6_addPerson cX6_addPerson 3 (some .int) 2 := ⟨q229, q227, q228, q36, by decide +kernel, by decide +kernel, by decide +kernel⟩
abbrev rmX6_addPersons : Room := { frames := 5, cells := 0, slots := 0, locals := 116 }
theorem msX6_addPersons : Ms yX6_addPersons cX6_addPersons 3 (some .int) 0 := ⟨q277, q275, q276, q36, by decide +kernel, by decide +kernel, by decide +kernel⟩
abbrev rmX6_write : Room := { frames := 4, cells := 0, slots := 0, locals := 93 }
theorem msX6_write : Ms yX6_write cX6_write 5 (some .int) 3 := ⟨q344, q342, q343, q36, by decide +kernel, by decide +kernel, by decide +kernel⟩
abbrev rmX6_check : Room := { frames := 4, cells := 0, slots := 0, locals := 93 }
theorem msX6_check : Ms yX6_check cX6_check 4 (some .int) 2 := ⟨q369, q367, q368, q36, by decide +kernel, by decide +kernel, by decide +kernel⟩
abbrev rmX6_strike : Room := { frames := 4, cells := 0, slots := 0, locals := 93 }
theorem msX6_strike : Ms yX6_strike cX6_strike 4 (some .int) 2 := ⟨q391, q389, q390, q36, by decide +kernel, by decide +kernel, by decide +kernel⟩
abbrev rmX6_checkUrgent : Room := { frames := 6, cells := 0, slots := 0, locals := 140 }
theorem msX6_checkUrgent : Ms yX6_checkUrgent cX6_checkUrgent 3 (some .int) 0 := ⟨q399, q397, q398, q36, by decide +kernel, by decide +kernel, by decide +kernel⟩
abbrev rmX6_trust : Room := { frames := 4, cells := 0, slots := 0, locals := 93 }
theorem msX6_trust : Ms yX6_trust cX6_trust 4 (some .int) 2 := ⟨q453, q451, q452, q36, by decide +kernel, by decide +kernel, by decide +kernel⟩
abbrev rmX6_set : Room := { frames := 4, cells := 0, slots := 0, locals := 93 }
theorem msX6_set : Ms yX6_set cX6_set 4 (some .int) 2 := ⟨q462, q460, q461, q36, by decide +kernel, by decide +kernel, by decide +kernel⟩
abbrev rmX6_tellDeath : Room := { frames := 4, cells := 0, slots := 0, locals := 93 }
theorem msX6_tellDeath : Ms yX6_tellDeath cX6_tellDeath 5 (some .int) 2 := ⟨q476, q474, q475, q36, by decide +kernel, by decide +kernel, by decide +kernel⟩
abbrev rmX6_decide : Room := { frames := 4, cells := 0, slots := 0, locals := 93 }
theorem msX6_decide : Ms yX6_decide cX6_decide 4 (some .int) 2 := ⟨q492, q490, q491, q36, by decide +kernel, by decide +kernel, by decide +kernel⟩
abbrev rmX6_print : Room := { frames := 6, cells := 0, slots := 0, locals := 138 }
theorem msX6_print : Ms yX6_print cX6_print 3 (some .int) 0 := ⟨q501, q499, q500, q36, by decide +kernel, by decide +kernel, by decide +kernel⟩
abbrev rmX6_correct : Room := { frames := 4, cells := 0, slots := 0, locals := 93 }
theorem msX6_correct : Ms yX6_correct cX6_correct 5 (some .int) 3 := ⟨q590, q588, q589, q36, by decide +kernel, by decide +kernel, by decide +kernel⟩
abbrev rmX6_type : Room := { frames := 1, cells := 0, slots := 0, locals := 21 }
theorem msX6_type : Ms yX6_type cX6_type 2 (some .int) 1 := ⟨q603, q601, q602, q36, by decide +kernel, by decide +kernel, by decide +kernel⟩
abbrev rmX6_clearText : Room := { frames := 1, cells := 0, slots := 0, locals := 20 }
theorem msX6_clearText : Ms yX6_clearText cX6_clearText 2 (some .int) 0 := ⟨q615, q613, q614, q36, by decide +kernel, by decide +kernel, by decide +kernel⟩
abbrev rmX6_undo : Room := { frames := 4, cells := 0, slots := 0, locals := 93 }
theorem msX6_undo : Ms yX6_undo cX6_undo 1 (some .int) 0 := ⟨q623, q621, q622, q36, by decide +kernel, by decide +kernel, by decide +kernel⟩
abbrev rmX6_keep : Room := { frames := 3, cells := 0, slots := 0, locals := 71 }
theorem msX6_keep : Ms yX6_keep cX6_keep 1 (some .int) 0 := ⟨q635, q633, q634, q36, by decide +kernel, by decide +kernel, by decide +kernel⟩
abbrev rmX6_restore : Room := { frames := 4, cells := 0, slots := 0, locals := 93 }
theorem msX6_restore : Ms yX6_restore cX6_restore 1 (some .int) 0 := ⟨q640, q638, q639, q36, by decide +kernel, by decide +kernel, by decide +kernel⟩
abbrev rmX6_person : Room := { frames := 5, cells := 0, slots := 0, locals := 115 }
theorem msX6_person : Ms yX6_person cX6_person 4 (some .int) 2 := ⟨q644, q642, q643, q36, by decide +kernel, by decide +kernel, by decide +kernel⟩
abbrev rmX6_fact : Room := { frames := 4, cells := 0, slots := 0, locals := 90 }
theorem msX6_fact : Ms yX6_fact cX6_fact 5 (some .int) 3 := ⟨q664, q662, q663, q36, by decide +kernel, by decide +kernel, by decide +kernel⟩
abbrev rmX6_worth : Room := { frames := 4, cells := 0, slots := 0, locals := 91 }
theorem msX6_worth : Ms yX6_worth cX6_worth 3 (some .float) 1 := ⟨q675, q673, q674, q36, by decide +kernel, by decide +kernel, by decide +kernel⟩
abbrev rmX6_urgent : Room := { frames := 6, cells := 0, slots := 0, locals := 138 }
theorem msX6_urgent : Ms yX6_urgent cX6_urgent 2 (some .int) 1 := ⟨q685, q683, q684, q36, by decide +kernel, by decide +kernel, by decide +kernel⟩
abbrev rmX6_page : Room := { frames := 6, cells := 0, slots := 0, locals := 138 }
theorem msX6_page : Ms yX6_page cX6_page 2 (some .int) 1 := ⟨q696, q694, q695, q36, by decide +kernel, by decide +kernel, by decide +kernel⟩
abbrev rmX6_source : Room := { frames := 5, cells := 0, slots := 0, locals := 115 }
theorem msX6_source : Ms yX6_source cX6_source 3 (some .int) 2 := ⟨q700, q698, q699, q36, by decide +kernel, by decide +kernel, by decide +kernel⟩
abbrev rmX6_staleIn : Room := { frames := 5, cells := 0, slots := 0, locals := 117 }
theorem msX6_staleIn : Ms yX6_staleIn cX6_staleIn 2 (some .int) 1 := ⟨q716, q714, q715, q36, by decide +kernel, by decide +kernel, by decide +kernel⟩
abbrev rmX6_count : Room := { frames := 6, cells := 0, slots := 0, locals := 138 }
theorem msX6_count : Ms yX6_count cX6_count 2 (some .int) 1 := ⟨q724, q722, q723, q36, by decide +kernel, by decide +kernel, by decide +kernel⟩
abbrev rmX6_isWithin : Room := { frames := 0, cells := 0, slots := 0, locals := 0 }
theorem msX6_isWithin : Mt yX6_isWithin cX6_isWithin 3 (some .boolean) 3 := ⟨q232, q231, q36, by decide +kernel, by decide +kernel, by decide +kernel⟩
abbrev rmX6_isSource : Room := { frames := 0, cells := 0, slots := 0, locals := 0 }
theorem msX6_isSource : Mt yX6_isSource cX6_isSource 1 (some .boolean) 1 := ⟨q348, q347, q36, by decide +kernel, by decide +kernel, by decide +kernel⟩
abbrev rmX6_isSetting : Room := { frames := 0, cells := 0, slots := 0, locals := 0 }
theorem msX6_isSetting : Mt yX6_isSetting cX6_isSetting 1 (some .boolean) 1 := ⟨q440, q439, q36, by decide +kernel, by decide +kernel, by decide +kernel⟩
abbrev rmX6_bitsOf : Room := { frames := 0, cells := 0, slots := 0, locals := 0 }
theorem msX6_bitsOf : Mt yX6_bitsOf cX6_bitsOf 3 (some .int) 1 := ⟨q670, q669, q36, by decide +kernel, by decide +kernel, by decide +kernel⟩
theorem msX7_init : Mi yX7_init cX7_init 2 0 := ⟨q742, q741, q43, by decide +kernel, by decide +kernel, by decide +kernel, rfl⟩
abbrev rmX7_in : Room := { frames := 0, cells := 0, slots := 0, locals := 0 }
theorem msX7_in : Mt yX7_in cX7_in 3 (some .boolean) 3 := ⟨q794, q793, q43, by decide +kernel, by decide +kernel, by decide +kernel⟩
abbrev rmX7_record : Room := { frames := 0, cells := 0, slots := 0, locals := 0 }
theorem msX7_record : Ms yX7_record cX7_record 2 none 0 := ⟨q798, q797, q7, q43, by decide +kernel, by decide +kernel, by decide +kernel⟩
abbrev rmX7_p : Room := { frames := 0, cells := 0, slots := 0, locals := 0 }
theorem msX7_p : Mt yX7_p cX7_p 1 (some .int) 1 := ⟨q805, q804, q43, by decide +kernel, by decide +kernel, by decide +kernel⟩
abbrev rmX7_f : Room := { frames := 0, cells := 0, slots := 0, locals := 0 }
theorem msX7_f : Mt yX7_f cX7_f 2 (some .int) 2 := ⟨q848, q847, q43, by decide +kernel, by decide +kernel, by decide +kernel⟩
abbrev rmX7_of : Room := { frames := 1, cells := 0, slots := 0, locals := 20 }
theorem msX7_of : Ms yX7_of cX7_of 3 (some .int) 2 := ⟨q845, q844, q17, q43, by decide +kernel, by decide +kernel, by decide +kernel⟩
abbrev rmX7_isPerson : Room := { frames := 1, cells := 0, slots := 0, locals := 22 }
theorem msX7_isPerson : Ms yX7_isPerson cX7_isPerson 2 (some .boolean) 1 := ⟨q856, q855, q18, q43, by decide +kernel, by decide +kernel, by decide +kernel⟩
abbrev rmX7_isFact : Room := { frames := 2, cells := 0, slots := 0, locals := 43 }
theorem msX7_isFact : Ms yX7_isFact cX7_isFact 3 (some .boolean) 2 := ⟨q864, q863, q19, q43, by decide +kernel, by decide +kernel, by decide +kernel⟩
abbrev rmX7_worthOn : Room := { frames := 1, cells := 0, slots := 0, locals := 21 }
theorem msX7_worthOn : Ms yX7_worthOn cX7_worthOn 7 (some .float) 3 := ⟨q888, q887, q23, q43, by decide +kernel, by decide +kernel, by decide +kernel⟩
abbrev rmX7_isStaleOn : Room := { frames := 2, cells := 0, slots := 0, locals := 47 }
theorem msX7_isStaleOn : Ms yX7_isStaleOn cX7_isStaleOn 4 (some .boolean) 3 := ⟨q884, q883, q22, q43, by decide +kernel, by decide +kernel, by decide +kernel⟩
abbrev rmX7_stale : Room := { frames := 3, cells := 0, slots := 0, locals := 70 }
theorem msX7_stale : Ms yX7_stale cX7_stale 5 (some .int) 2 := ⟨q898, q897, q25, q43, by decide +kernel, by decide +kernel, by decide +kernel⟩
abbrev rmX7_lines : Room := { frames := 2, cells := 0, slots := 0, locals := 42 }
theorem msX7_lines : Ms yX7_lines cX7_lines 4 (some .int) 1 := ⟨q945, q944, q31, q43, by decide +kernel, by decide +kernel, by decide +kernel⟩
abbrev rmX7_sources : Room := { frames := 2, cells := 0, slots := 0, locals := 42 }
theorem msX7_sources : Ms yX7_sources cX7_sources 5 (some .int) 1 := ⟨q937, q936, q29, q43, by decide +kernel, by decide +kernel, by decide +kernel⟩
abbrev rmX7_isReady : Room := { frames := 4, cells := 0, slots := 0, locals := 94 }
theorem msX7_isReady : Ms yX7_isReady cX7_isReady 2 (some .boolean) 1 := ⟨q933, q932, q28, q43, by decide +kernel, by decide +kernel, by decide +kernel⟩
abbrev rmX7_urgency : Room := { frames := 4, cells := 0, slots := 0, locals := 94 }
theorem msX7_urgency : Ms yX7_urgency cX7_urgency 2 (some .int) 1 := ⟨q894, q893, q24, q43, by decide +kernel, by decide +kernel, by decide +kernel⟩
abbrev rmX7_come : Room := { frames := 1, cells := 0, slots := 0, locals := 20 }
theorem msX7_come : Ms yX7_come cX7_come 4 (some .int) 2 := ⟨q802, q801, q8, q43, by decide +kernel, by decide +kernel, by decide +kernel⟩
abbrev rmX7_add : Room := { frames := 2, cells := 0, slots := 0, locals := 42 }
theorem msX7_add : Ms yX7_add cX7_add 5 none 3 := ⟨q841, q840, q16, q43, by decide +kernel, by decide +kernel, by decide +kernel⟩
abbrev rmX7_addPerson : Room := { frames := 2, cells := 0, slots := 0, locals := 43 }
theorem msX7_addPerson : Ms yX7_addPerson cX7_addPerson 3 (some .int) 2 := ⟨q791, q789, q790, q43, by decide +kernel, by decide +kernel, by decide +kernel⟩
abbrev rmX7_isSign : Room := { frames := 0, cells := 0, slots := 0, locals := 0 }
theorem msX7_isSign : Ms yX7_isSign cX7_isSign 4 (some .boolean) 3 := ⟨q829, q828, q13, q43, by decide +kernel, by decide +kernel, by decide +kernel⟩
abbrev rmX7_accepts : Room := { frames := 1, cells := 0, slots := 0, locals := 23 }
theorem msX7_accepts : Ms yX7_accepts cX7_accepts 3 (some .boolean) 1 := ⟨q833, q832, q14, q43, by decide +kernel, by decide +kernel, by decide +kernel⟩
abbrev rmX7_digit : Room := { frames := 1, cells := 0, slots := 0, locals := 23 }
theorem msX7_digit : Ms yX7_digit cX7_digit 3 (some .int) 2 := ⟨q825, q824, q12, q43, by decide +kernel, by decide +kernel, by decide +kernel⟩
abbrev rmX7_age : Room := { frames := 2, cells := 0, slots := 0, locals := 45 }
theorem msX7_age : Ms yX7_age cX7_age 2 (some .int) 0 := ⟨q821, q820, q11, q43, by decide +kernel, by decide +kernel, by decide +kernel⟩
abbrev rmX7_readsFact : Room := { frames := 2, cells := 0, slots := 0, locals := 45 }
theorem msX7_readsFact : Ms yX7_readsFact cX7_readsFact 3 (some .boolean) 1 := ⟨q837, q836, q15, q43, by decide +kernel, by decide +kernel, by decide +kernel⟩
abbrev rmX7_readsPerson : Room := { frames := 3, cells := 0, slots := 0, locals := 67 }
theorem msX7_readsPerson : Ms yX7_readsPerson cX7_readsPerson 3 (some .boolean) 0 := ⟨q817, q816, q10, q43, by decide +kernel, by decide +kernel, by decide +kernel⟩
abbrev rmX7_faultOf : Room := { frames := 4, cells := 0, slots := 0, locals := 89 }
theorem msX7_faultOf : Ms yX7_faultOf cX7_faultOf 2 (some .int) 0 := ⟨q813, q812, q9, q43, by decide +kernel, by decide +kernel, by decide +kernel⟩
abbrev rmX7_addPersons : Room := { frames := 5, cells := 0, slots := 0, locals := 110 }
theorem msX7_addPersons : Ms yX7_addPersons cX7_addPersons 5 (some .int) 0 := ⟨q809, q807, q808, q43, by decide +kernel, by decide +kernel, by decide +kernel⟩
abbrev rmX7_write : Room := { frames := 3, cells := 0, slots := 0, locals := 66 }
theorem msX7_write : Ms yX7_write cX7_write 4 (some .int) 3 := ⟨q852, q850, q851, q43, by decide +kernel, by decide +kernel, by decide +kernel⟩
abbrev rmX7_check : Room := { frames := 3, cells := 0, slots := 0, locals := 65 }
theorem msX7_check : Ms yX7_check cX7_check 3 (some .int) 2 := ⟨q860, q858, q859, q43, by decide +kernel, by decide +kernel, by decide +kernel⟩
abbrev rmX7_strike : Room := { frames := 3, cells := 0, slots := 0, locals := 65 }
theorem msX7_strike : Ms yX7_strike cX7_strike 4 (some .int) 2 := ⟨q868, q866, q867, q43, by decide +kernel, by decide +kernel, by decide +kernel⟩
abbrev rmX7_due : Room := { frames := 3, cells := 0, slots := 0, locals := 70 }
theorem msX7_due : Ms yX7_due cX7_due 4 (some .int) 1 := ⟨q880, q879, q21, q43, by decide +kernel, by decide +kernel, by decide +kernel⟩
abbrev rmX7_mostUrgent : Room := { frames := 5, cells := 0, slots := 0, locals := 115 }
theorem msX7_mostUrgent : Ms yX7_mostUrgent cX7_mostUrgent 4 (some .int) 0 := ⟨q876, q875, q20, q43, by decide +kernel, by decide +kernel, by decide +kernel⟩
abbrev rmX7_checkUrgent : Room := { frames := 6, cells := 0, slots := 0, locals := 138 }
theorem msX7_checkUrgent : Ms yX7_checkUrgent cX7_checkUrgent 3 (some .int) 0 := ⟨q872, q870, q871, q43, by decide +kernel, by decide +kernel, by decide +kernel⟩
abbrev rmX7_trust : Room := { frames := 1, cells := 0, slots := 0, locals := 22 }
theorem msX7_trust : Ms yX7_trust cX7_trust 4 (some .int) 2 := ⟨q902, q900, q901, q43, by decide +kernel, by decide +kernel, by decide +kernel⟩
abbrev rmX7_isSetting : Room := { frames := 1, cells := 0, slots := 0, locals := 22 }
theorem msX7_isSetting : Mt yX7_isSetting cX7_isSetting 2 (some .boolean) 2 := ⟨q909, q908, q43, by decide +kernel, by decide +kernel, by decide +kernel⟩
abbrev rmX7_set : Room := { frames := 2, cells := 0, slots := 0, locals := 43 }
theorem msX7_set : Ms yX7_set cX7_set 4 (some .int) 2 := ⟨q906, q904, q905, q43, by decide +kernel, by decide +kernel, by decide +kernel⟩
abbrev rmX7_inState : Room := { frames := 2, cells := 0, slots := 0, locals := 42 }
theorem msX7_inState : Ms yX7_inState cX7_inState 4 (some .int) 1 := ⟨q921, q920, q26, q43, by decide +kernel, by decide +kernel, by decide +kernel⟩
abbrev rmX7_tellDeath : Room := { frames := 2, cells := 0, slots := 0, locals := 43 }
theorem msX7_tellDeath : Ms yX7_tellDeath cX7_tellDeath 4 (some .int) 2 := ⟨q913, q911, q912, q43, by decide +kernel, by decide +kernel, by decide +kernel⟩
abbrev rmX7_decide : Room := { frames := 3, cells := 0, slots := 0, locals := 65 }
theorem msX7_decide : Ms yX7_decide cX7_decide 4 (some .int) 2 := ⟨q917, q915, q916, q43, by decide +kernel, by decide +kernel, by decide +kernel⟩
abbrev rmX7_isAhead : Room := { frames := 2, cells := 0, slots := 0, locals := 42 }
theorem msX7_isAhead : Ms yX7_isAhead cX7_isAhead 4 (some .boolean) 2 := ⟨q941, q940, q30, q43, by decide +kernel, by decide +kernel, by decide +kernel⟩
abbrev rmX7_layPage : Room := { frames := 5, cells := 0, slots := 0, locals := 115 }
theorem msX7_layPage : Ms yX7_layPage cX7_layPage 4 none 0 := ⟨q929, q928, q27, q43, by decide +kernel, by decide +kernel, by decide +kernel⟩
abbrev rmX7_print : Room := { frames := 6, cells := 0, slots := 0, locals := 138 }
theorem msX7_print : Ms yX7_print cX7_print 3 (some .int) 0 := ⟨q925, q923, q924, q43, by decide +kernel, by decide +kernel, by decide +kernel⟩
abbrev rmX7_correct : Room := { frames := 3, cells := 0, slots := 0, locals := 65 }
theorem msX7_correct : Ms yX7_correct cX7_correct 4 (some .int) 3 := ⟨q949, q947, q948, q43, by decide +kernel, by decide +kernel, by decide +kernel⟩
abbrev rmX7_type : Room := { frames := 0, cells := 0, slots := 0, locals := 0 }
theorem msX7_type : Ms yX7_type cX7_type 2 (some .int) 1 := ⟨q953, q951, q952, q43, by decide +kernel, by decide +kernel, by decide +kernel⟩
abbrev rmX7_clearText : Room := { frames := 0, cells := 0, slots := 0, locals := 0 }
theorem msX7_clearText : Ms yX7_clearText cX7_clearText 2 (some .int) 0 := ⟨q957, q955, q956, q43, by decide +kernel, by decide +kernel, by decide +kernel⟩
abbrev rmX7_undo : Room := { frames := 0, cells := 0, slots := 0, locals := 0 }
theorem msX7_undo : Ms yX7_undo cX7_undo 2 (some .int) 0 := ⟨q961, q959, q960, q43, by decide +kernel, by decide +kernel, by decide +kernel⟩
abbrev rmX7_keep : Room := { frames := 0, cells := 0, slots := 0, locals := 0 }
theorem msX7_keep : Ms yX7_keep cX7_keep 2 (some .int) 0 := ⟨q965, q963, q964, q43, by decide +kernel, by decide +kernel, by decide +kernel⟩
abbrev rmX7_restore : Room := { frames := 1, cells := 0, slots := 0, locals := 21 }
theorem msX7_restore : Ms yX7_restore cX7_restore 2 (some .int) 0 := ⟨q969, q967, q968, q43, by decide +kernel, by decide +kernel, by decide +kernel⟩
abbrev rmX7_person : Room := { frames := 5, cells := 0, slots := 0, locals := 115 }
theorem msX7_person : Ms yX7_person cX7_person 3 (some .int) 2 := ⟨q973, q971, q972, q43, by decide +kernel, by decide +kernel, by decide +kernel⟩
abbrev rmX7_fact : Room := { frames := 3, cells := 0, slots := 0, locals := 70 }
theorem msX7_fact : Ms yX7_fact cX7_fact 4 (some .int) 3 := ⟨q977, q975, q976, q43, by decide +kernel, by decide +kernel, by decide +kernel⟩
abbrev rmX7_worth : Room := { frames := 2, cells := 0, slots := 0, locals := 47 }
theorem msX7_worth : Ms yX7_worth cX7_worth 4 (some .float) 1 := ⟨q991, q989, q990, q43, by decide +kernel, by decide +kernel, by decide +kernel⟩
abbrev rmX7_urgent : Room := { frames := 5, cells := 0, slots := 0, locals := 115 }
theorem msX7_urgent : Ms yX7_urgent cX7_urgent 7 (some .int) 1 := ⟨q996, q994, q995, q43, by decide +kernel, by decide +kernel, by decide +kernel⟩
abbrev rmX7_page : Room := { frames := 6, cells := 0, slots := 0, locals := 138 }
theorem msX7_page : Ms yX7_page cX7_page 2 (some .int) 1 := ⟨q1000, q998, q999, q43, by decide +kernel, by decide +kernel, by decide +kernel⟩
abbrev rmX7_source : Room := { frames := 3, cells := 0, slots := 0, locals := 70 }
theorem msX7_source : Ms yX7_source cX7_source 7 (some .int) 2 := ⟨q1004, q1002, q1003, q43, by decide +kernel, by decide +kernel, by decide +kernel⟩
abbrev rmX7_staleOn : Room := { frames := 4, cells := 0, slots := 0, locals := 94 }
theorem msX7_staleOn : Ms yX7_staleOn cX7_staleOn 4 (some .int) 1 := ⟨q1012, q1011, q32, q43, by decide +kernel, by decide +kernel, by decide +kernel⟩
abbrev rmX7_staleIn : Room := { frames := 5, cells := 0, slots := 0, locals := 117 }
theorem msX7_staleIn : Ms yX7_staleIn cX7_staleIn 2 (some .int) 1 := ⟨q1008, q1006, q1007, q43, by decide +kernel, by decide +kernel, by decide +kernel⟩
abbrev rmX7_facts : Room := { frames := 2, cells := 0, slots := 0, locals := 42 }
theorem msX7_facts : Ms yX7_facts cX7_facts 3 (some .int) 0 := ⟨q1020, q1019, q33, q43, by decide +kernel, by decide +kernel, by decide +kernel⟩
abbrev rmX7_freeLines : Room := { frames := 6, cells := 0, slots := 0, locals := 138 }
theorem msX7_freeLines : Ms yX7_freeLines cX7_freeLines 1 (some .int) 0 := ⟨q1024, q1023, q34, q43, by decide +kernel, by decide +kernel, by decide +kernel⟩
abbrev rmX7_count : Room := { frames := 7, cells := 0, slots := 0, locals := 158 }
theorem msX7_count : Ms yX7_count cX7_count 2 (some .int) 1 := ⟨q1016, q1014, q1015, q43, by decide +kernel, by decide +kernel, by decide +kernel⟩
abbrev rmJ6_bitCount_0f7a4 : Room := { frames := 0, cells := 0, slots := 0, locals := 0 }
theorem msJ6_bitCount_0f7a4 : Mt yJ6_bitCount_0f7a4 cJ6_bitCount_0f7a4 1 (some .int) 1 := ⟨q549, q548, q46, by decide +kernel, by decide +kernel, by decide +kernel⟩
abbrev rmJ9_min_7cf53 : Room := { frames := 0, cells := 0, slots := 0, locals := 0 }
theorem msJ9_min_7cf53 : Mt yJ9_min_7cf53 cJ9_min_7cf53 2 (some .int) 2 := ⟨q305, q304, q45, by decide +kernel, by decide +kernel, by decide +kernel⟩
abbrev rmJxf58ca_isNaN_12338 : Room := { frames := 0, cells := 0, slots := 0, locals := 0 }
theorem msJxf58ca_isNaN_12338 : Mt yJxf58ca_isNaN_12338 cJxf58ca_isNaN_12338 1 (some .boolean) 1 := ⟨q983, q982, q47, by decide +kernel, by decide +kernel, by decide +kernel⟩
abbrev rmJxf58ca_floatToIntBits_5c35a : Room := { frames := 1, cells := 0, slots := 0, locals := 30 }
theorem msJxf58ca_floatToIntBits_5c35a : Mt yJxf58ca_floatToIntBits_5c35a cJxf58ca_floatToIntBits_5c35a 1 (some .int) 1 := ⟨q980, q979, q47, by decide +kernel, by decide +kernel, by decide +kernel⟩
end
section
/-! sums, masks, shifts: the pure words of the loops -/
def sm (f : Int → Int) : Nat → Int
  | 0 => 0
  | n + 1 => sm f n + f n
def smI (f : Int → Int) (n : Int) : Int := sm f n.toNat
theorem smI_0 (f : Int → Int) : smI f 0 = 0 := rfl
theorem smI_s (f : Int → Int) {i : Int} (h : 0 ≤ i) : smI f (i + 1) = smI f i + f i := by
  unfold smI
  rw [show (i + 1).toNat = i.toNat + 1 by omega]
  show sm f i.toNat + f (i.toNat : Int) = _
  rw [Int.toNat_of_nonneg h]
theorem smI_congr {f g : Int → Int} {n : Int} (h : ∀ j, 0 ≤ j → j < n → f j = g j) : smI f n = smI g n := by
  unfold smI
  have key : ∀ m : Nat, (m : Int) ≤ n ∨ m = 0 → sm f m = sm g m := by
    intro m
    induction m with
    | zero => intro _; rfl
    | succ m ih =>
      intro hm
      show sm f m + f m = sm g m + g m
      rw [ih (by omega), h m (by omega) (by omega)]
  exact key _ (by omega)
theorem smI_le {f : Int → Int} {n a c : Int} (h0 : 0 ≤ n) (h : ∀ j, 0 ≤ j → j < n → a ≤ f j ∧ f j ≤ c) : a * n ≤ smI f n ∧ smI f n ≤ c * n := by
  have key : ∀ m : Nat, (m : Int) ≤ n → a * m ≤ sm f m ∧ sm f m ≤ c * m := by
    intro m
    induction m with
    | zero => intro _; simp [sm]
    | succ m ih =>
      intro hm
      have h1 := ih (by omega)
      have h2 := h m (by omega) (by omega)
      show a * ((m + 1 : Nat) : Int) ≤ sm f m + f m ∧ sm f m + f m ≤ c * ((m + 1 : Nat) : Int)
      rw [show ((m + 1 : Nat) : Int) = (m : Int) + 1 by omega, Int.mul_add, Int.mul_add, Int.mul_one, Int.mul_one]
      omega
  have h9 := key n.toNat (by omega)
  rw [Int.toNat_of_nonneg h0] at h9
  exact h9
def orI (a c : Int) : Int := ((a.toNat ||| c.toNat : Nat) : Int)
theorem orI_lt {a c : Int} (ha : 0 ≤ a ∧ a < 64) (hc : 0 ≤ c ∧ c < 64) : 0 ≤ orI a c ∧ orI a c < 64 := by
  unfold orI
  have := Nat.or_lt_two_pow (x := a.toNat) (y := c.toNat) (n := 6) (by omega) (by omega)
  omega
theorem iI_or {a c : Int} (ha : 0 ≤ a ∧ a < 64) (hc : 0 ≤ c ∧ c < 64) : iI a ||| iI c = iI (orI a c) := by
  have h := co_all (P := fun a => ∀ c : Nat, c < 64 → iI a ||| iI (c : Int) = iI (orI a c)) 64 (by decide +kernel) ha c.toNat (by omega)
  rwa [Int.toNat_of_nonneg hc.1] at h
def p2 (s : Int) : Int := ((2 ^ s.toNat : Nat) : Int)
theorem p2_lt {s : Int} (h : 0 ≤ s ∧ s ≤ 5) : 0 ≤ p2 s ∧ p2 s < 64 := by
  rcases (show s = 0 ∨ s = 1 ∨ s = 2 ∨ s = 3 ∨ s = 4 ∨ s = 5 by omega) with rfl | rfl | rfl | rfl | rfl | rfl <;> decide
theorem iI_shl {s : Int} (h : 0 ≤ s ∧ s ≤ 5) : iI 1 <<< (iI s &&& 31) = iI (p2 s) := by
  rcases (show s = 0 ∨ s = 1 ∨ s = 2 ∨ s = 3 ∨ s = 4 ∨ s = 5 by omega) with rfl | rfl | rfl | rfl | rfl | rfl <;> decide
def mkN (f : Int → Int) : Nat → Int
  | 0 => 0
  | n + 1 => orI (mkN f n) (p2 (f n))
def mkI (f : Int → Int) (n : Int) : Int := mkN f n.toNat
theorem mkI_0 (f : Int → Int) : mkI f 0 = 0 := rfl
theorem mkI_s (f : Int → Int) {i : Int} (h : 0 ≤ i) : mkI f (i + 1) = orI (mkI f i) (p2 (f i)) := by
  unfold mkI
  rw [show (i + 1).toNat = i.toNat + 1 by omega]
  show orI (mkN f i.toNat) (p2 (f (i.toNat : Int))) = _
  rw [Int.toNat_of_nonneg h]
theorem mkI_lt {f : Int → Int} {n : Int} (h : ∀ j, 0 ≤ j → j < n → 0 ≤ f j ∧ f j ≤ 5) : 0 ≤ mkI f n ∧ mkI f n < 64 := by
  unfold mkI
  have key : ∀ m : Nat, (m : Int) ≤ n ∨ m = 0 → 0 ≤ mkN f m ∧ mkN f m < 64 := by
    intro m
    induction m with
    | zero => intro _; simp [mkN]
    | succ m ih =>
      intro hm
      exact orI_lt (ih (by omega)) (p2_lt (h m (by omega) (by omega)))
  exact key _ (by omega)
theorem mkI_congr {f g : Int → Int} {n : Int} (h : ∀ j, 0 ≤ j → j < n → f j = g j) : mkI f n = mkI g n := by
  unfold mkI
  have key : ∀ m : Nat, (m : Int) ≤ n ∨ m = 0 → mkN f m = mkN g m := by
    intro m
    induction m with
    | zero => intro _; rfl
    | succ m ih =>
      intro hm
      show orI (mkN f m) (p2 (f m)) = orI (mkN g m) (p2 (g m))
      rw [ih (by omega), h m (by omega) (by omega)]
  exact key _ (by omega)
/-- how many of the six bits are set -/
def pcI (m : Int) : Int := smI (fun k => m / p2 k % 2) 6
theorem pcI_b {m : Int} (h : 0 ≤ m ∧ m < 64) : 0 ≤ pcI m ∧ pcI m ≤ 6 := co_all (P := fun m => 0 ≤ pcI m ∧ pcI m ≤ 6) 64 (by decide +kernel) h
/-- a row whose places from u on, before n, have come one down -/
def shl1 (c : Int → Int) (u n : Int) : Int → Int := fun j => if u ≤ j ∧ j < n then c (j + 1) else c j
def shl3 (C : gM) (q u n : Int) : gM := fun a => if a = q + 1 ∨ a = q + 2 ∨ a = q + 3 then shl1 (C a) u n else C a
theorem shl3_in (C : gM) {q u n a j : Int} (h : a = q + 1 ∨ a = q + 2 ∨ a = q + 3) : shl3 C q u n a j = if u ≤ j ∧ j < n then C a (j + 1) else C a j := by
  unfold shl3
  rw [if_pos h]
  rfl
theorem shl3_out (C : gM) {q u n a j : Int} (h : ¬ (a = q + 1 ∨ a = q + 2 ∨ a = q + 3)) : shl3 C q u n a j = C a j := by
  unfold shl3
  rw [if_neg h]
theorem shl3_0 (C : gM) (q u : Int) : shl3 C q u u = C := by
  funext a j
  by_cases h : a = q + 1 ∨ a = q + 2 ∨ a = q + 3
  · rw [shl3_in C h, if_neg (by omega)]
  · rw [shl3_out C h]
theorem shl3_at (C : gM) {q u i a j : Int} (h : u ≤ i) (ha : a = q + 1 ∨ a = q + 2 ∨ a = q + 3) : (if j = i then shl3 C q u i a (i + 1) else shl3 C q u i a j) = shl3 C q u (i + 1) a j := by
  rw [shl3_in C ha, shl3_in C ha, shl3_in C ha]
  by_cases hj : j = i
  · subst hj
    rw [if_pos rfl, if_neg (by omega), if_pos (by omega)]
  · rw [if_neg hj]
    by_cases h3 : u ≤ j ∧ j < i
    · rw [if_pos h3, if_pos (by omega)]
    · rw [if_neg h3, if_neg (by omega)]
theorem rd_at {C : gM} {k j x i : Int} : up2 C k j x k i = if i = j then x else C k i := by rw [up2_self]; rfl
theorem shl3_s (C : gM) (q u i : Int) (h : u ≤ i) : up2 (up2 (up2 (shl3 C q u i) (q + 1) i (shl3 C q u i (q + 1) (i + 1))) (q + 2) i (shl3 C q u i (q + 2) (i + 1))) (q + 3) i (shl3 C q u i (q + 3) (i + 1)) = shl3 C q u (i + 1) := by
  funext a j
  by_cases h1 : a = q + 1
  · rw [rd_k (by omega), rd_k (by omega)]
    subst h1
    rw [rd_at]
    exact shl3_at C h (Or.inl rfl)
  · by_cases h2 : a = q + 2
    · rw [rd_k (by omega)]
      subst h2
      rw [rd_at, rd_k (by omega)]
      exact shl3_at C h (Or.inr (Or.inl rfl))
    · by_cases h4 : a = q + 3
      · subst h4
        rw [rd_at, rd_k (by omega), rd_k (by omega)]
        exact shl3_at C h (Or.inr (Or.inr rfl))
      · rw [rd_k h4, rd_k h2, rd_k h1, shl3_out C (by omega), shl3_out C (by omega)]
theorem shl3_q (C : gM) (q u n j : Int) : shl3 C q u n q j = C q j := shl3_out C (by omega)
def upA (C : gM) (k : Int) (f : Int → Int) : gM := fun a => if a = k then f else C a
def cpI (f g : Int → Int) (n : Int) : Int → Int := fun j => if 0 ≤ j ∧ j < n then f j else g j
def cpL (C : gM) (q p : Int) : gM := fun a => if a = q then cpI (C p) (C q) 7 else if a = q + 1 then cpI (C (p + 1)) (C (q + 1)) 8 else if a = q + 2 then cpI (C (p + 2)) (C (q + 2)) 8 else if a = q + 3 then cpI (C (p + 3)) (C (q + 3)) 8 else C a
def cpT (C : gM) (q p : Int) : gM := up2 (up2 (up2 (up2 (up2 (up2 (up2 C q 0 (C p 0)) q 1 (C p 1)) q 2 (C p 2)) q 3 (C p 3)) q 4 (C p 4)) q 5 (C p 5)) q 6 (C p 6)
theorem cpT_ne (C : gM) {q p a : Int} (h : a ≠ q) : cpT C q p a = C a := by
  unfold cpT
  rw [up2_ne _ _ _ h, up2_ne _ _ _ h, up2_ne _ _ _ h, up2_ne _ _ _ h, up2_ne _ _ _ h, up2_ne _ _ _ h, up2_ne _ _ _ h]
theorem cpT_q (C : gM) (q p : Int) : cpT C q p q = cpI (C p) (C q) 7 := by
  funext j
  unfold cpT cpI
  simp only [rd_at]
  by_cases h : 0 ≤ j ∧ j < 7
  · rw [if_pos h]
    rcases (show j = 0 ∨ j = 1 ∨ j = 2 ∨ j = 3 ∨ j = 4 ∨ j = 5 ∨ j = 6 by omega) with rfl | rfl | rfl | rfl | rfl | rfl | rfl <;> simp
  · rw [if_neg h]
    repeat rw [if_neg (by omega)]
def cpU1 (C : gM) (q p : Int) : gM := upA (cpT C q p) (q + 1) (cpI (cpT C q p (p + 1)) (cpT C q p (q + 1)) 8)
def cpU2 (C : gM) (q p : Int) : gM := upA (cpU1 C q p) (q + 2) (cpI (cpU1 C q p (p + 2)) (cpU1 C q p (q + 2)) 8)
def cpU3 (C : gM) (q p : Int) : gM := upA (cpU2 C q p) (q + 3) (cpI (cpU2 C q p (p + 3)) (cpU2 C q p (q + 3)) 8)
theorem upA_self (C : gM) (k : Int) (f : Int → Int) : upA C k f k = f := by simp [upA]
theorem upA_ne (C : gM) {k a : Int} (f : Int → Int) (h : a ≠ k) : upA C k f a = C a := by simp [upA, h]
theorem cpL_eq (C : gM) {q p : Int} (hd : p + 4 ≤ q ∨ q + 4 ≤ p) : cpU3 C q p = cpL C q p := by
  have e1 : ∀ a, a ≠ q → a ≠ q + 1 → cpU1 C q p a = C a := fun a h h1 => by unfold cpU1; rw [upA_ne _ _ h1, cpT_ne _ h]
  have e2 : ∀ a, a ≠ q → a ≠ q + 1 → a ≠ q + 2 → cpU2 C q p a = C a := fun a h h1 h2 => by unfold cpU2; rw [upA_ne _ _ h2, e1 a h h1]
  funext a
  unfold cpL
  by_cases h0 : a = q
  · subst h0
    rw [if_pos rfl]
    unfold cpU3 cpU2 cpU1
    rw [upA_ne _ _ (by omega), upA_ne _ _ (by omega), upA_ne _ _ (by omega), cpT_q]
  · rw [if_neg h0]
    by_cases h1 : a = q + 1
    · subst h1
      rw [if_pos rfl]
      unfold cpU3 cpU2
      rw [upA_ne _ _ (by omega), upA_ne _ _ (by omega)]
      unfold cpU1
      rw [upA_self, cpT_ne _ (by omega), cpT_ne _ (by omega)]
    · rw [if_neg h1]
      by_cases h2 : a = q + 2
      · subst h2
        rw [if_pos rfl]
        unfold cpU3
        rw [upA_ne _ _ (by omega)]
        unfold cpU2
        rw [upA_self, e1 _ (by omega) (by omega), e1 _ (by omega) (by omega)]
      · rw [if_neg h2]
        by_cases h3 : a = q + 3
        · subst h3
          rw [if_pos rfl]
          unfold cpU3
          rw [upA_self, e2 _ (by omega) (by omega) (by omega), e2 _ (by omega) (by omega) (by omega)]
        · rw [if_neg h3]
          unfold cpU3
          rw [upA_ne _ _ h3, e2 a h0 h1 h2]
theorem wM_putA {G : gG} {b : Nat} {C S : gM} {k : Int} {f : Int → Int} {e : va_E} {t : Nat} (h : kd k = t) (he : wS G b t k f (S k) = e) : upW (wM G b C S) k e = wM G b (upA C k f) S := by
  funext i
  by_cases hi : i = k
  · subst hi
    rw [upW_self, wM_at h]
    simp [upA, he]
  · rw [upW_ne _ _ hi]
    unfold wM
    simp [upA, hi]
theorem cp_cpy (f g : Int → Int) (n : Nat) : va_cpy (fun j : Nat => iI (f j)) (fun j : Nat => iI (g j)) 0 0 n = (fun j : Nat => iI (cpI f g n j)) := by
  funext j
  unfold va_cpy cpI
  by_cases h : j < n
  · rw [if_pos (by omega), if_pos (by omega)]
    simp
  · rw [if_neg (by omega), if_neg (by omega)]
section
variable {x : gX} {G : gG} {b cl sl nL : Nat} {nm own : String} {cc : ByteArray} {ret : Option FieldType} {rm : Room} {C S : gM} {pc : Nat} {lv : List (Nat × Value)} {st : List Value} {k0 k1 : Int}
theorem cpy_6 (hB : Bx x G b own cc nL ret rm nm) (h0 : kd k0 = 6) (h1 : kd k1 = 6) {index : Nat} (q1 : (.methodLink own index arraycopyName : Cond) ∈ lw_g) (q2 : (.native arraycopyName : Cond) ∈ lw_g) (q3 : (.static arraycopyName : Cond) ∈ lw_g) (q4 : (.initialized "java/lang/System" : Cond) ∈ lw_g) (hfr : 1 ≤ rm.frames) (hlo : (st.map fun v => v.category).sum + (nativeFrameWords "java/lang/System" "arraycopy" 5 + 11) ≤ rm.locals) (d : decode cc pc = .ok (.invokestatic index, 3)) (kk : YM x G b cl sl (upA C k1 (cpI (C k0) (C k1) 8)) S (pc + 3) lv st) : YM x G b cl sl C S pc lv (.int (iI 8) :: .int (iI 0) :: .ref (ad b k1) :: .int (iI 0) :: .ref (ad b k0) :: st) := y_copyi hB (kd_rng h0 (by decide)) (kd_rng h1 (by decide)) (wM_at h0) (wM_at h1) (by decide) (by decide) (by decide) (by decide) (by decide) q1 q2 q3 q4 hfr hlo d (by rw [wM_putA (f := cpI (C k0) (C k1) 8) h1 (by simp only [wS]; exact congrArg (fun f => (Sum.inl (G.2 0, 8, Sum.inl f) : va_E)) (cp_cpy (C k0) (C k1) 8).symm)]; exact kk)
theorem cpy_2 (hB : Bx x G b own cc nL ret rm nm) (h0 : kd k0 = 2) (h1 : kd k1 = 2) {index : Nat} (q1 : (.methodLink own index arraycopyName : Cond) ∈ lw_g) (q2 : (.native arraycopyName : Cond) ∈ lw_g) (q3 : (.static arraycopyName : Cond) ∈ lw_g) (q4 : (.initialized "java/lang/System" : Cond) ∈ lw_g) (hfr : 1 ≤ rm.frames) (hlo : (st.map fun v => v.category).sum + (nativeFrameWords "java/lang/System" "arraycopy" 5 + 11) ≤ rm.locals) (d : decode cc pc = .ok (.invokestatic index, 3)) (kk : YM x G b cl sl (upA C k1 (cpI (C k0) (C k1) 5)) S (pc + 3) lv st) : YM x G b cl sl C S pc lv (.int (iI 5) :: .int (iI 0) :: .ref (ad b k1) :: .int (iI 0) :: .ref (ad b k0) :: st) := y_copyi hB (kd_rng h0 (by decide)) (kd_rng h1 (by decide)) (wM_at h0) (wM_at h1) (by decide) (by decide) (by decide) (by decide) (by decide) q1 q2 q3 q4 hfr hlo d (by rw [wM_putA (f := cpI (C k0) (C k1) 5) h1 (by simp only [wS]; exact congrArg (fun f => (Sum.inl (G.2 0, 5, Sum.inl f) : va_E)) (cp_cpy (C k0) (C k1) 5).symm)]; exact kk)
theorem cpy_3 (hB : Bx x G b own cc nL ret rm nm) (h0 : kd k0 = 3) (h1 : kd k1 = 3) {index : Nat} (q1 : (.methodLink own index arraycopyName : Cond) ∈ lw_g) (q2 : (.native arraycopyName : Cond) ∈ lw_g) (q3 : (.static arraycopyName : Cond) ∈ lw_g) (q4 : (.initialized "java/lang/System" : Cond) ∈ lw_g) (hfr : 1 ≤ rm.frames) (hlo : (st.map fun v => v.category).sum + (nativeFrameWords "java/lang/System" "arraycopy" 5 + 11) ≤ rm.locals) (d : decode cc pc = .ok (.invokestatic index, 3)) (kk : YM x G b cl sl (upA C k1 (cpI (C k0) (C k1) 6)) S (pc + 3) lv st) : YM x G b cl sl C S pc lv (.int (iI 6) :: .int (iI 0) :: .ref (ad b k1) :: .int (iI 0) :: .ref (ad b k0) :: st) := y_copyi hB (kd_rng h0 (by decide)) (kd_rng h1 (by decide)) (wM_at h0) (wM_at h1) (by decide) (by decide) (by decide) (by decide) (by decide) q1 q2 q3 q4 hfr hlo d (by rw [wM_putA (f := cpI (C k0) (C k1) 6) h1 (by simp only [wS]; exact congrArg (fun f => (Sum.inl (G.2 0, 6, Sum.inl f) : va_E)) (cp_cpy (C k0) (C k1) 6).symm)]; exact kk)
theorem y_ishl1 {n : Int} {w : Int → va_E} (hB : Bx x G b own cc nL ret rm nm) {s : Int} (hs : 0 ≤ s ∧ s ≤ 5) (d : decode cc pc = .ok (.ishl, 1)) (kk : Y x G b cl sl n w (pc + 1) lv (.int (iI (p2 s)) :: st)) : Y x G b cl sl n w pc lv (.int (iI s) :: .int (iI 1) :: st) := by
  obtain ⟨hx, hb, hml, hown, hts, hK, hbs, hlk, hrt, hR, hnm⟩ := hB
  intro H locs ls hRp hS hL
  refine lv_ishl hx hb d ?_
  rw [iI_shl hs]
  exact kk H locs ls hRp hS hL
theorem y_ior {n : Int} {w : Int → va_E} (hB : Bx x G b own cc nL ret rm nm) {u v : Int} (hu : 0 ≤ u ∧ u < 64) (hv : 0 ≤ v ∧ v < 64) (d : decode cc pc = .ok (.ior, 1)) (kk : Y x G b cl sl n w (pc + 1) lv (.int (iI (orI u v)) :: st)) : Y x G b cl sl n w pc lv (.int (iI v) :: .int (iI u) :: st) := by
  obtain ⟨hx, hb, hml, hown, hts, hK, hbs, hlk, hrt, hR, hnm⟩ := hB
  intro H locs ls hRp hS hL
  refine lv_ior hx hb d ?_
  rw [iI_or hu hv]
  exact kk H locs ls hRp hS hL
theorem y_iaddR {n : Int} {w : Int → va_E} (hB : Bx x G b own cc nL ret rm nm) {u v : Int32} (d : decode cc pc = .ok (.iadd, 1)) (kk : Y x G b cl sl n w (pc + 1) lv (.int (u + v) :: st)) : Y x G b cl sl n w pc lv (.int v :: .int u :: st) := by
  obtain ⟨hx, hb, hml, hown, hts, hK, hbs, hlk, hrt, hR, hnm⟩ := hB
  intro H locs ls hRp hS hL
  exact lv_iadd hx hb d (kk H locs ls hRp hS hL)
theorem y_isubR {n : Int} {w : Int → va_E} (hB : Bx x G b own cc nL ret rm nm) {u v : Int32} (d : decode cc pc = .ok (.isub, 1)) (kk : Y x G b cl sl n w (pc + 1) lv (.int (u - v) :: st)) : Y x G b cl sl n w pc lv (.int v :: .int u :: st) := by
  obtain ⟨hx, hb, hml, hown, hts, hK, hbs, hlk, hrt, hR, hnm⟩ := hB
  intro H locs ls hRp hS hL
  exact lv_isub hx hb d (kk H locs ls hRp hS hL)
theorem y_iandR {n : Int} {w : Int → va_E} (hB : Bx x G b own cc nL ret rm nm) {u v : Int32} (d : decode cc pc = .ok (.iand, 1)) (kk : Y x G b cl sl n w (pc + 1) lv (.int (u &&& v) :: st)) : Y x G b cl sl n w pc lv (.int v :: .int u :: st) := by
  obtain ⟨hx, hb, hml, hown, hts, hK, hbs, hlk, hrt, hR, hnm⟩ := hB
  intro H locs ls hRp hS hL
  exact lv_iand hx hb d (kk H locs ls hRp hS hL)
theorem y_iushrR {n : Int} {w : Int → va_E} (hB : Bx x G b own cc nL ret rm nm) {u v : Int32} (d : decode cc pc = .ok (.iushr, 1)) (kk : Y x G b cl sl n w (pc + 1) lv (.int (u.toUInt32 >>> (v.toUInt32 &&& Int32.toUInt32 31)).toInt32 :: st)) : Y x G b cl sl n w pc lv (.int v :: .int u :: st) := by
  obtain ⟨hx, hb, hml, hown, hts, hK, hbs, hlk, hrt, hR, hnm⟩ := hB
  intro H locs ls hRp hS hL
  exact lv_iushr hx hb d rfl (kk H locs ls hRp hS hL)
theorem y_ishrR {n : Int} {w : Int → va_E} (hB : Bx x G b own cc nL ret rm nm) {u v : Int32} (d : decode cc pc = .ok (.ishr, 1)) (kk : Y x G b cl sl n w (pc + 1) lv (.int (u >>> (v &&& 31)) :: st)) : Y x G b cl sl n w pc lv (.int v :: .int u :: st) := by
  obtain ⟨hx, hb, hml, hown, hts, hK, hbs, hlk, hrt, hR, hnm⟩ := hB
  intro H locs ls hRp hS hL
  exact lv_ishr hx hb d (kk H locs ls hRp hS hL)
end
end
section
set_option maxHeartbeats 4000000 in
theorem tX2_age (l : Launch) (G : gG) (b : Nat) (C S : gM) (q : Int) (hq : kd q = 5) : Ct l G b yX2_age cX2_age 1 (some .int) rmX2_age [.ref (ad b (q))] 586 (wM G b C S) (RI G b C S (fun v => v = C q 0)) := by
  refine CtK_of (by decide) (Nat.le_of_ble_eq_true rfl) q335 ?_
  intro x hl hB hE _
  subst hl
  show YM x G b 0 0 C S 0 [(0, .ref (ad b (q)))] []
  refine y_aload_n hB 0 dX2_age_0 rfl rfl ?_
  refine gt_2_0 hB hq (t1 := C q 0) rfl dX2_age_1 ?_
  exact m_ri hB hE dX2_age_4 rfl (rfl)
set_option maxHeartbeats 4000000 in
theorem tX2_rank (l : Launch) (G : gG) (b : Nat) (C S : gM) (q : Int) (hq : kd q = 5) : Ct l G b yX2_rank cX2_rank 1 (some .int) rmX2_rank [.ref (ad b (q))] 586 (wM G b C S) (RI G b C S (fun v => v = C q 1)) := by
  refine CtK_of (by decide) (Nat.le_of_ble_eq_true rfl) q339 ?_
  intro x hl hB hE _
  subst hl
  show YM x G b 0 0 C S 0 [(0, .ref (ad b (q)))] []
  refine y_aload_n hB 0 dX2_rank_0 rfl rfl ?_
  refine gt_2_1 hB hq (t1 := C q 1) rfl dX2_rank_1 ?_
  exact m_ri hB hE dX2_rank_4 rfl (rfl)
set_option maxHeartbeats 4000000 in
theorem tX2_state (l : Launch) (G : gG) (b : Nat) (C S : gM) (q : Int) (hq : kd q = 5) : Ct l G b yX2_state cX2_state 1 (some .int) rmX2_state [.ref (ad b (q))] 586 (wM G b C S) (RI G b C S (fun v => v = C q 2)) := by
  refine CtK_of (by decide) (Nat.le_of_ble_eq_true rfl) q650 ?_
  intro x hl hB hE _
  subst hl
  show YM x G b 0 0 C S 0 [(0, .ref (ad b (q)))] []
  refine y_aload_n hB 0 dX2_state_0 rfl rfl ?_
  refine gt_2_2 hB hq (t1 := C q 2) rfl dX2_state_1 ?_
  exact m_ri hB hE dX2_state_4 rfl (rfl)
set_option maxHeartbeats 4000000 in
theorem tX2_teller (l : Launch) (G : gG) (b : Nat) (C S : gM) (q : Int) (hq : kd q = 5) : Ct l G b yX2_teller cX2_teller 1 (some .int) rmX2_teller [.ref (ad b (q))] 586 (wM G b C S) (RI G b C S (fun v => v = C q 3)) := by
  refine CtK_of (by decide) (Nat.le_of_ble_eq_true rfl) q480 ?_
  intro x hl hB hE _
  subst hl
  show YM x G b 0 0 C S 0 [(0, .ref (ad b (q)))] []
  refine y_aload_n hB 0 dX2_teller_0 rfl rfl ?_
  refine gt_2_3 hB hq (t1 := C q 3) rfl dX2_teller_1 ?_
  exact m_ri hB hE dX2_teller_4 rfl (rfl)
set_option maxHeartbeats 4000000 in
theorem tX2_deathDay (l : Launch) (G : gG) (b : Nat) (C S : gM) (q : Int) (hq : kd q = 5) : Ct l G b yX2_deathDay cX2_deathDay 1 (some .int) rmX2_deathDay [.ref (ad b (q))] 586 (wM G b C S) (RI G b C S (fun v => v = C q 4)) := by
  refine CtK_of (by decide) (Nat.le_of_ble_eq_true rfl) q523 ?_
  intro x hl hB hE _
  subst hl
  show YM x G b 0 0 C S 0 [(0, .ref (ad b (q)))] []
  refine y_aload_n hB 0 dX2_deathDay_0 rfl rfl ?_
  refine gt_2_4 hB hq (t1 := C q 4) rfl dX2_deathDay_1 ?_
  exact m_ri hB hE dX2_deathDay_4 rfl (rfl)
set_option maxHeartbeats 4000000 in
theorem tX2_printDay (l : Launch) (G : gG) (b : Nat) (C S : gM) (q : Int) (hq : kd q = 5) : Ct l G b yX2_printDay cX2_printDay 1 (some .int) rmX2_printDay [.ref (ad b (q))] 586 (wM G b C S) (RI G b C S (fun v => v = C q 5)) := by
  refine CtK_of (by decide) (Nat.le_of_ble_eq_true rfl) q659 ?_
  intro x hl hB hE _
  subst hl
  show YM x G b 0 0 C S 0 [(0, .ref (ad b (q)))] []
  refine y_aload_n hB 0 dX2_printDay_0 rfl rfl ?_
  refine gt_2_5 hB hq (t1 := C q 5) rfl dX2_printDay_1 ?_
  exact m_ri hB hE dX2_printDay_4 rfl (rfl)
set_option maxHeartbeats 4000000 in
theorem tX2_size (l : Launch) (G : gG) (b : Nat) (C S : gM) (q : Int) (hq : kd q = 5) : Ct l G b yX2_size cX2_size 1 (some .int) rmX2_size [.ref (ad b (q))] 586 (wM G b C S) (RI G b C S (fun v => v = C q 6)) := by
  refine CtK_of (by decide) (Nat.le_of_ble_eq_true rfl) q356 ?_
  intro x hl hB hE _
  subst hl
  show YM x G b 0 0 C S 0 [(0, .ref (ad b (q)))] []
  refine y_aload_n hB 0 dX2_size_0 rfl rfl ?_
  refine gt_2_6 hB hq (t1 := C q 6) rfl dX2_size_1 ?_
  exact m_ri hB hE dX2_size_4 rfl (rfl)
set_option maxHeartbeats 4000000 in
theorem tX2_isIn (l : Launch) (G : gG) (b : Nat) (C S : gM) (q u : Int) (hq : kd q = 5) (hu : -2147483648 ≤ u ∧ u ≤ 2147483647) (hs : -2147483648 ≤ C q 2 ∧ C q 2 ≤ 2147483647) : Ct l G b yX2_isIn cX2_isIn 2 (some .boolean) rmX2_isIn [.ref (ad b (q)), .int (iI (u))] 586 (wM G b C S) (RI G b C S (fun v => (v = 1 ∧ C q 2 = u) ∨ (v = 0 ∧ ¬ C q 2 = u))) := by
  refine CtK_of (by decide) (Nat.le_of_ble_eq_true rfl) q352 ?_
  intro x hl hB hE _
  subst hl
  show YM x G b 0 0 C S 0 [(0, .ref (ad b (q))), (1, .int (iI (u)))] []
  refine y_aload_n hB 0 dX2_isIn_0 rfl rfl ?_
  refine gt_2_2 hB hq (t1 := C q 2) rfl dX2_isIn_1 ?_
  refine y_iload_n hB 1 dX2_isIn_4 rfl rfl ?_
  refine y_icmp_ne hB 12 dX2_isIn_5 (by decide) (by omega) (by omega) (fun c_5 => ?_) (fun c_5 => ?_)
  · refine y_iconst (v := 0) hB dX2_isIn_12 rfl ?_
    exact m_ri hB hE dX2_isIn_13 rfl (by omega)
  · refine y_iconst (v := 1) hB dX2_isIn_8 rfl ?_
    refine y_goto hB 13 dX2_isIn_9 (by decide) ?_
    exact m_ri hB hE dX2_isIn_13 rfl (by omega)
set_option maxHeartbeats 4000000 in
theorem tX2_tellDead (l : Launch) (G : gG) (b : Nat) (C S : gM) (q u t : Int) (hq : kd q = 5) : Ct l G b yX2_tellDead cX2_tellDead 3 none rmX2_tellDead [.ref (ad b (q)), .int (iI (u)), .int (iI (t))] 586 (wM G b C S) (WV G b S (fun C' => C' = up2 (up2 (up2 C q 2 1) q 3 u) q 4 t)) := by
  refine CtK_of (by decide) (Nat.le_of_ble_eq_true rfl) q488 ?_
  intro x hl hB hE _
  subst hl
  show YM x G b 0 0 C S 0 [(0, .ref (ad b (q))), (1, .int (iI (u))), (2, .int (iI (t)))] []
  refine y_aload_n hB 0 dX2_tellDead_0 rfl rfl ?_
  refine y_iconst (v := 1) hB dX2_tellDead_1 rfl ?_
  refine pt_2_2 hB hq dX2_tellDead_2 ?_
  refine y_aload_n hB 0 dX2_tellDead_5 rfl rfl ?_
  refine y_iload_n hB 1 dX2_tellDead_6 rfl rfl ?_
  refine pt_2_3 hB hq dX2_tellDead_7 ?_
  refine y_aload_n hB 0 dX2_tellDead_10 rfl rfl ?_
  refine y_iload_n hB 2 dX2_tellDead_11 rfl rfl ?_
  refine pt_2_4 hB hq dX2_tellDead_12 ?_
  exact m_wv hB hE dX2_tellDead_15 (rfl)
set_option maxHeartbeats 4000000 in
theorem tX2_confirmDeath (l : Launch) (G : gG) (b : Nat) (C S : gM) (q t : Int) (hq : kd q = 5) : Ct l G b yX2_confirmDeath cX2_confirmDeath 2 none rmX2_confirmDeath [.ref (ad b (q)), .int (iI (t))] 586 (wM G b C S) (WV G b S (fun C' => C' = up2 (up2 (up2 C q 2 2) q 3 (-5)) q 4 t)) := by
  refine CtK_of (by decide) (Nat.le_of_ble_eq_true rfl) q484 ?_
  intro x hl hB hE _
  subst hl
  show YM x G b 0 0 C S 0 [(0, .ref (ad b (q))), (1, .int (iI (t)))] []
  refine y_aload_n hB 0 dX2_confirmDeath_0 rfl rfl ?_
  refine y_iconst (v := 2) hB dX2_confirmDeath_1 rfl ?_
  refine pt_2_2 hB hq dX2_confirmDeath_2 ?_
  refine y_aload_n hB 0 dX2_confirmDeath_5 rfl rfl ?_
  refine y_bipush (v := -5) hB dX2_confirmDeath_6 (by decide) ?_
  refine pt_2_3 hB hq dX2_confirmDeath_8 ?_
  refine y_aload_n hB 0 dX2_confirmDeath_11 rfl rfl ?_
  refine y_iload_n hB 1 dX2_confirmDeath_12 rfl rfl ?_
  refine pt_2_4 hB hq dX2_confirmDeath_13 ?_
  exact m_wv hB hE dX2_confirmDeath_16 (rfl)
set_option maxHeartbeats 4000000 in
theorem tX2_takeBackDeath (l : Launch) (G : gG) (b : Nat) (C S : gM) (q : Int) (hq : kd q = 5) : Ct l G b yX2_takeBackDeath cX2_takeBackDeath 1 none rmX2_takeBackDeath [.ref (ad b (q))] 586 (wM G b C S) (WV G b S (fun C' => C' = up2 (up2 (up2 C q 2 0) q 3 (-5)) q 4 (-5))) := by
  refine CtK_of (by decide) (Nat.le_of_ble_eq_true rfl) q273 ?_
  intro x hl hB hE _
  subst hl
  show YM x G b 0 0 C S 0 [(0, .ref (ad b (q)))] []
  refine y_aload_n hB 0 dX2_takeBackDeath_0 rfl rfl ?_
  refine y_iconst (v := 0) hB dX2_takeBackDeath_1 rfl ?_
  refine pt_2_2 hB hq dX2_takeBackDeath_2 ?_
  refine y_aload_n hB 0 dX2_takeBackDeath_5 rfl rfl ?_
  refine y_bipush (v := -5) hB dX2_takeBackDeath_6 (by decide) ?_
  refine pt_2_3 hB hq dX2_takeBackDeath_8 ?_
  refine y_aload_n hB 0 dX2_takeBackDeath_11 rfl rfl ?_
  refine y_bipush (v := -5) hB dX2_takeBackDeath_12 (by decide) ?_
  refine pt_2_4 hB hq dX2_takeBackDeath_14 ?_
  exact m_wv hB hE dX2_takeBackDeath_17 (rfl)
set_option maxHeartbeats 4000000 in
theorem tX2_becomePrinted (l : Launch) (G : gG) (b : Nat) (C S : gM) (q t : Int) (hq : kd q = 5) : Ct l G b yX2_becomePrinted cX2_becomePrinted 2 none rmX2_becomePrinted [.ref (ad b (q)), .int (iI (t))] 586 (wM G b C S) (WV G b S (fun C' => C' = up2 (up2 C q 2 3) q 5 t)) := by
  refine CtK_of (by decide) (Nat.le_of_ble_eq_true rfl) q576 ?_
  intro x hl hB hE _
  subst hl
  show YM x G b 0 0 C S 0 [(0, .ref (ad b (q))), (1, .int (iI (t)))] []
  refine y_aload_n hB 0 dX2_becomePrinted_0 rfl rfl ?_
  refine y_iconst (v := 3) hB dX2_becomePrinted_1 rfl ?_
  refine pt_2_2 hB hq dX2_becomePrinted_2 ?_
  refine y_aload_n hB 0 dX2_becomePrinted_5 rfl rfl ?_
  refine y_iload_n hB 1 dX2_becomePrinted_6 rfl rfl ?_
  refine pt_2_5 hB hq dX2_becomePrinted_7 ?_
  exact m_wv hB hE dX2_becomePrinted_10 (rfl)
set_option maxHeartbeats 4000000 in
theorem tX2_begin (l : Launch) (G : gG) (b : Nat) (C S : gM) (q u t : Int) (hq : kd q = 5) : Ct l G b yX2_begin cX2_begin 3 none rmX2_begin [.ref (ad b (q)), .int (iI (u)), .int (iI (t))] 586 (wM G b C S) (WV G b S (fun C' => C' = up2 (up2 (up2 (up2 (up2 (up2 (up2 C q 0 u) q 1 t) q 5 (-5)) q 6 0) q 2 0) q 3 (-5)) q 4 (-5))) := by
  refine CtK_of (by decide) (Nat.le_of_ble_eq_true rfl) q269 ?_
  intro x hl hB hE _
  subst hl
  show YM x G b 0 0 C S 0 [(0, .ref (ad b (q))), (1, .int (iI (u))), (2, .int (iI (t)))] []
  refine y_aload_n hB 0 dX2_begin_0 rfl rfl ?_
  refine y_iload_n hB 1 dX2_begin_1 rfl rfl ?_
  refine pt_2_0 hB hq dX2_begin_2 ?_
  refine y_aload_n hB 0 dX2_begin_5 rfl rfl ?_
  refine y_iload_n hB 2 dX2_begin_6 rfl rfl ?_
  refine pt_2_1 hB hq dX2_begin_7 ?_
  refine y_aload_n hB 0 dX2_begin_10 rfl rfl ?_
  refine y_bipush (v := -5) hB dX2_begin_11 (by decide) ?_
  refine pt_2_5 hB hq dX2_begin_13 ?_
  refine y_aload_n hB 0 dX2_begin_16 rfl rfl ?_
  refine y_iconst (v := 0) hB dX2_begin_17 rfl ?_
  refine pt_2_6 hB hq dX2_begin_18 ?_
  refine y_aload_n hB 0 dX2_begin_21 rfl rfl ?_
  refine m_V hB msX2_takeBackDeath q270 (tX2_takeBackDeath _ G b (up2 (up2 (up2 (up2 C q 0 u) q 1 t) q 5 (-5)) q 6 0) S q hq) hq (by decide) rfl rfl rfl rfl rfl ⟨Nat.le_of_ble_eq_true rfl, Nat.le_of_ble_eq_true rfl⟩ (Nat.le_of_ble_eq_true rfl) ⟨rfl, rfl⟩ ⟨Nat.le_of_ble_eq_true rfl, Nat.le_of_ble_eq_true rfl⟩ dX2_begin_22 (k_WV (fun C_22 h_22 => ?_))
  obtain rfl := h_22
  exact m_wv hB hE dX2_begin_25 (rfl)
set_option maxHeartbeats 4000000 in
theorem tX2_hasFact (l : Launch) (G : gG) (b : Nat) (C S : gM) (q u : Int) (hq : kd q = 5) (hu : -2147483648 ≤ u ∧ u ≤ 2147483647) (hs : -2147483648 ≤ C q 6 ∧ C q 6 ≤ 2147483647) : Ct l G b yX2_hasFact cX2_hasFact 2 (some .boolean) rmX2_hasFact [.ref (ad b (q)), .int (iI (u))] 586 (wM G b C S) (RI G b C S (fun v => (v = 1 ∧ 0 ≤ u ∧ u < C q 6 ∧ u < 8) ∨ (v = 0 ∧ ¬ (0 ≤ u ∧ u < C q 6 ∧ u < 8)))) := by
  refine CtK_of (by decide) (Nat.le_of_ble_eq_true rfl) q373 ?_
  intro x hl hB hE _
  subst hl
  show YM x G b 0 0 C S 0 [(0, .ref (ad b (q))), (1, .int (iI (u)))] []
  refine y_iload_n hB 1 dX2_hasFact_0 rfl rfl ?_
  refine y_if_lt hB 22 dX2_hasFact_1 (by decide) (by omega) (fun c_1 => ?_) (fun c_1 => ?_)
  · refine y_iconst (v := 0) hB dX2_hasFact_22 rfl ?_
    exact m_ri hB hE dX2_hasFact_23 rfl (by omega)
  · refine y_iload_n hB 1 dX2_hasFact_4 rfl rfl ?_
    refine y_aload_n hB 0 dX2_hasFact_5 rfl rfl ?_
    refine gt_2_6 hB hq (t1 := C q 6) rfl dX2_hasFact_6 ?_
    refine y_icmp_ge hB 22 dX2_hasFact_9 (by decide) (by omega) (by omega) (fun c_9 => ?_) (fun c_9 => ?_)
    · refine y_iconst (v := 0) hB dX2_hasFact_22 rfl ?_
      exact m_ri hB hE dX2_hasFact_23 rfl (by omega)
    · refine y_iload_n hB 1 dX2_hasFact_12 rfl rfl ?_
      refine y_bipush (v := 8) hB dX2_hasFact_13 (by decide) ?_
      refine y_icmp_ge hB 22 dX2_hasFact_15 (by decide) (by omega) (by omega) (fun c_15 => ?_) (fun c_15 => ?_)
      · refine y_iconst (v := 0) hB dX2_hasFact_22 rfl ?_
        exact m_ri hB hE dX2_hasFact_23 rfl (by omega)
      · refine y_iconst (v := 1) hB dX2_hasFact_18 rfl ?_
        refine y_goto hB 23 dX2_hasFact_19 (by decide) ?_
        exact m_ri hB hE dX2_hasFact_23 rfl (by omega)
set_option maxHeartbeats 4000000 in
theorem tX2_sourceOf (l : Launch) (G : gG) (b : Nat) (C S : gM) (q u : Int) (hq : isLife q) (hs : 0 ≤ C q 6 ∧ C q 6 ≤ 8) (hu : 0 ≤ u ∧ u < C q 6) : Ct l G b yX2_sourceOf cX2_sourceOf 2 (some .int) rmX2_sourceOf [.ref (ad b (q)), .int (iI (u))] 586 (wM G b C S) (RI G b C S (fun v => v = C (q + 1) u)) := by
  refine CtK_of (by decide) (Nat.le_of_ble_eq_true rfl) q422 ?_
  intro x hl hB hE _
  subst hl
  show YM x G b 0 0 C S 0 [(0, .ref (ad b (q))), (1, .int (iI (u)))] []
  refine y_aload_n hB 0 dX2_sourceOf_0 rfl rfl ?_
  refine y_iload_n hB 1 dX2_sourceOf_1 rfl rfl ?_
  refine m_V hB msX2_hasFact q378 (tX2_hasFact _ G b C S q u (hq).1 (by omega) (by omega)) (hq).1 (by decide) rfl rfl rfl rfl rfl ⟨Nat.le_of_ble_eq_true rfl, Nat.le_of_ble_eq_true rfl⟩ (Nat.le_of_ble_eq_true rfl) ⟨rfl, rfl⟩ ⟨Nat.le_of_ble_eq_true rfl, Nat.le_of_ble_eq_true rfl⟩ dX2_sourceOf_2 (k_RI (fun v_2 h_2 => ?_))
  refine y_if_eq hB 17 dX2_sourceOf_5 (by decide) (by omega) (fun c_5 => ?_) (fun c_5 => ?_)
  · exfalso
    omega
  · refine y_aload_n hB 0 dX2_sourceOf_8 rfl rfl ?_
    refine gt_2_7 hB (hq).1 (t1 := q + 1) (by omega) dX2_sourceOf_9 ?_
    refine y_iload_n hB 1 dX2_sourceOf_12 rfl rfl ?_
    refine ald_6 hB (hq).2.1 (t1 := C (q + 1) u) (by omega) rfl dX2_sourceOf_13 ?_
    refine y_goto hB 19 dX2_sourceOf_14 (by decide) ?_
    exact m_ri hB hE dX2_sourceOf_19 rfl (rfl)
set_option maxHeartbeats 4000000 in
theorem tX2_linesOf (l : Launch) (G : gG) (b : Nat) (C S : gM) (q u : Int) (hq : isLife q) (hs : 0 ≤ C q 6 ∧ C q 6 ≤ 8) (hu : 0 ≤ u ∧ u < C q 6) : Ct l G b yX2_linesOf cX2_linesOf 2 (some .int) rmX2_linesOf [.ref (ad b (q)), .int (iI (u))] 586 (wM G b C S) (RI G b C S (fun v => v = C (q + 2) u)) := by
  refine CtK_of (by decide) (Nat.le_of_ble_eq_true rfl) q560 ?_
  intro x hl hB hE _
  subst hl
  show YM x G b 0 0 C S 0 [(0, .ref (ad b (q))), (1, .int (iI (u)))] []
  refine y_aload_n hB 0 dX2_linesOf_0 rfl rfl ?_
  refine y_iload_n hB 1 dX2_linesOf_1 rfl rfl ?_
  refine m_V hB msX2_hasFact q378 (tX2_hasFact _ G b C S q u (hq).1 (by omega) (by omega)) (hq).1 (by decide) rfl rfl rfl rfl rfl ⟨Nat.le_of_ble_eq_true rfl, Nat.le_of_ble_eq_true rfl⟩ (Nat.le_of_ble_eq_true rfl) ⟨rfl, rfl⟩ ⟨Nat.le_of_ble_eq_true rfl, Nat.le_of_ble_eq_true rfl⟩ dX2_linesOf_2 (k_RI (fun v_2 h_2 => ?_))
  refine y_if_eq hB 17 dX2_linesOf_5 (by decide) (by omega) (fun c_5 => ?_) (fun c_5 => ?_)
  · exfalso
    omega
  · refine y_aload_n hB 0 dX2_linesOf_8 rfl rfl ?_
    refine gt_2_8 hB (hq).1 (t1 := q + 2) (by omega) dX2_linesOf_9 ?_
    refine y_iload_n hB 1 dX2_linesOf_12 rfl rfl ?_
    refine ald_6 hB (hq).2.2.1 (t1 := C (q + 2) u) (by omega) rfl dX2_linesOf_13 ?_
    refine y_goto hB 18 dX2_linesOf_14 (by decide) ?_
    exact m_ri hB hE dX2_linesOf_18 rfl (rfl)
set_option maxHeartbeats 4000000 in
theorem tX2_dayOf (l : Launch) (G : gG) (b : Nat) (C S : gM) (q u : Int) (hq : isLife q) (hs : 0 ≤ C q 6 ∧ C q 6 ≤ 8) (hu : 0 ≤ u ∧ u < C q 6) : Ct l G b yX2_dayOf cX2_dayOf 2 (some .int) rmX2_dayOf [.ref (ad b (q)), .int (iI (u))] 586 (wM G b C S) (RI G b C S (fun v => v = C (q + 3) u)) := by
  refine CtK_of (by decide) (Nat.le_of_ble_eq_true rfl) q377 ?_
  intro x hl hB hE _
  subst hl
  show YM x G b 0 0 C S 0 [(0, .ref (ad b (q))), (1, .int (iI (u)))] []
  refine y_aload_n hB 0 dX2_dayOf_0 rfl rfl ?_
  refine y_iload_n hB 1 dX2_dayOf_1 rfl rfl ?_
  refine m_V hB msX2_hasFact q378 (tX2_hasFact _ G b C S q u (hq).1 (by omega) (by omega)) (hq).1 (by decide) rfl rfl rfl rfl rfl ⟨Nat.le_of_ble_eq_true rfl, Nat.le_of_ble_eq_true rfl⟩ (Nat.le_of_ble_eq_true rfl) ⟨rfl, rfl⟩ ⟨Nat.le_of_ble_eq_true rfl, Nat.le_of_ble_eq_true rfl⟩ dX2_dayOf_2 (k_RI (fun v_2 h_2 => ?_))
  refine y_if_eq hB 17 dX2_dayOf_5 (by decide) (by omega) (fun c_5 => ?_) (fun c_5 => ?_)
  · exfalso
    omega
  · refine y_aload_n hB 0 dX2_dayOf_8 rfl rfl ?_
    refine gt_2_9 hB (hq).1 (t1 := q + 3) (by omega) dX2_dayOf_9 ?_
    refine y_iload_n hB 1 dX2_dayOf_12 rfl rfl ?_
    refine ald_6 hB (hq).2.2.2.1 (t1 := C (q + 3) u) (by omega) rfl dX2_dayOf_13 ?_
    refine y_goto hB 19 dX2_dayOf_14 (by decide) ?_
    exact m_ri hB hE dX2_dayOf_19 rfl (rfl)
set_option maxHeartbeats 4000000 in
theorem tX2_addFact (l : Launch) (G : gG) (b : Nat) (C S : gM) (q u t z : Int) (hq : isLife q) (hs : 0 ≤ C q 6 ∧ C q 6 < 8) : Ct l G b yX2_addFact cX2_addFact 4 (some .int) rmX2_addFact [.ref (ad b (q)), .int (iI (u)), .int (iI (t)), .int (iI (z))] 586 (wM G b C S) (WI G b S (fun v C' => v = C q 6 ∧ C' = up2 (up2 (up2 (up2 C (q + 1) (C q 6) u) (q + 2) (C q 6) t) (q + 3) (C q 6) z) q 6 (C q 6 + 1))) := by
  refine CtK_of (by decide) (Nat.le_of_ble_eq_true rfl) q318 ?_
  intro x hl hB hE _
  subst hl
  show YM x G b 0 0 C S 0 [(0, .ref (ad b (q))), (1, .int (iI (u))), (2, .int (iI (t))), (3, .int (iI (z)))] []
  refine y_aload_n hB 0 dX2_addFact_0 rfl rfl ?_
  refine gt_2_6 hB (hq).1 (t1 := C q 6) rfl dX2_addFact_1 ?_
  refine y_if_lt hB 16 dX2_addFact_4 (by decide) (by omega) (fun c_4 => ?_) (fun c_4 => ?_)
  · exfalso
    omega
  · refine y_aload_n hB 0 dX2_addFact_7 rfl rfl ?_
    refine gt_2_6 hB (hq).1 (t1 := C q 6) rfl dX2_addFact_8 ?_
    refine y_bipush (v := 8) hB dX2_addFact_11 (by decide) ?_
    refine y_icmp_lt hB 19 dX2_addFact_13 (by decide) (by omega) (by omega) (fun c_13 => ?_) (fun c_13 => ?_)
    · refine y_aload_n hB 0 dX2_addFact_19 rfl rfl ?_
      refine gt_2_7 hB (hq).1 (t1 := q + 1) (by omega) dX2_addFact_20 ?_
      refine y_aload_n hB 0 dX2_addFact_23 rfl rfl ?_
      refine gt_2_6 hB (hq).1 (t1 := C q 6) rfl dX2_addFact_24 ?_
      refine y_iload_n hB 1 dX2_addFact_27 rfl rfl ?_
      refine ast_6 hB (hq).2.1 (by omega) dX2_addFact_28 ?_
      refine y_aload_n hB 0 dX2_addFact_29 rfl rfl ?_
      refine gt_2_8 hB (hq).1 (t1 := q + 2) (by omega) dX2_addFact_30 ?_
      refine y_aload_n hB 0 dX2_addFact_33 rfl rfl ?_
      refine gt_2_6 hB (hq).1 (t1 := C q 6) (rd_k (by omega)) dX2_addFact_34 ?_
      refine y_iload_n hB 2 dX2_addFact_37 rfl rfl ?_
      refine ast_6 hB (hq).2.2.1 (by omega) dX2_addFact_38 ?_
      refine y_aload_n hB 0 dX2_addFact_39 rfl rfl ?_
      refine gt_2_9 hB (hq).1 (t1 := q + 3) (by omega) dX2_addFact_40 ?_
      refine y_aload_n hB 0 dX2_addFact_43 rfl rfl ?_
      refine gt_2_6 hB (hq).1 (t1 := C q 6) ((rd_k (by omega)).trans (rd_k (by omega))) dX2_addFact_44 ?_
      refine y_iload_n hB 3 dX2_addFact_47 rfl rfl ?_
      refine ast_6 hB (hq).2.2.2.1 (by omega) dX2_addFact_48 ?_
      refine y_aload_n hB 0 dX2_addFact_49 rfl rfl ?_
      refine y_dup hB dX2_addFact_50 rfl ?_
      refine gt_2_6 hB (hq).1 (t1 := C q 6) ((rd_k (by omega)).trans ((rd_k (by omega)).trans (rd_k (by omega)))) dX2_addFact_51 ?_
      refine y_iconst (v := 1) hB dX2_addFact_54 rfl ?_
      refine y_iadd (t := C q 6 + 1) hB dX2_addFact_55 (by omega) ?_
      refine pt_2_6 hB (hq).1 dX2_addFact_56 ?_
      refine y_aload_n hB 0 dX2_addFact_59 rfl rfl ?_
      refine gt_2_6 hB (hq).1 (t1 := C q 6 + 1) (rd_hit (by omega) (by omega)) dX2_addFact_60 ?_
      refine y_iconst (v := 1) hB dX2_addFact_63 rfl ?_
      refine y_isub (t := C q 6) hB dX2_addFact_64 (by omega) ?_
      exact m_wi hB hE dX2_addFact_65 rfl (⟨by omega, rfl⟩)
    · exfalso
      omega
set_option maxHeartbeats 4000000 in
theorem tX2_changeSource (l : Launch) (G : gG) (b : Nat) (C S : gM) (q u t : Int) (hq : isLife q) (hs : 0 ≤ C q 6 ∧ C q 6 ≤ 8) (hu : 0 ≤ u ∧ u < C q 6) : Ct l G b yX2_changeSource cX2_changeSource 3 none rmX2_changeSource [.ref (ad b (q)), .int (iI (u)), .int (iI (t))] 586 (wM G b C S) (WV G b S (fun C' => C' = up2 C (q + 1) u t)) := by
  refine CtK_of (by decide) (Nat.le_of_ble_eq_true rfl) q595 ?_
  intro x hl hB hE _
  subst hl
  show YM x G b 0 0 C S 0 [(0, .ref (ad b (q))), (1, .int (iI (u))), (2, .int (iI (t)))] []
  refine y_aload_n hB 0 dX2_changeSource_0 rfl rfl ?_
  refine y_iload_n hB 1 dX2_changeSource_1 rfl rfl ?_
  refine m_V hB msX2_hasFact q378 (tX2_hasFact _ G b C S q u (hq).1 (by omega) (by omega)) (hq).1 (by decide) rfl rfl rfl rfl rfl ⟨Nat.le_of_ble_eq_true rfl, Nat.le_of_ble_eq_true rfl⟩ (Nat.le_of_ble_eq_true rfl) ⟨rfl, rfl⟩ ⟨Nat.le_of_ble_eq_true rfl, Nat.le_of_ble_eq_true rfl⟩ dX2_changeSource_2 (k_RI (fun v_2 h_2 => ?_))
  refine y_if_eq hB 15 dX2_changeSource_5 (by decide) (by omega) (fun c_5 => ?_) (fun c_5 => ?_)
  · exfalso
    omega
  · refine y_aload_n hB 0 dX2_changeSource_8 rfl rfl ?_
    refine gt_2_7 hB (hq).1 (t1 := q + 1) (by omega) dX2_changeSource_9 ?_
    refine y_iload_n hB 1 dX2_changeSource_12 rfl rfl ?_
    refine y_iload_n hB 2 dX2_changeSource_13 rfl rfl ?_
    refine ast_6 hB (hq).2.1 (by omega) dX2_changeSource_14 ?_
    exact m_wv hB hE dX2_changeSource_15 (rfl)
set_option maxHeartbeats 4000000 in
theorem tX2_changeDay (l : Launch) (G : gG) (b : Nat) (C S : gM) (q u t : Int) (hq : isLife q) (hs : 0 ≤ C q 6 ∧ C q 6 ≤ 8) (hu : 0 ≤ u ∧ u < C q 6) : Ct l G b yX2_changeDay cX2_changeDay 3 none rmX2_changeDay [.ref (ad b (q)), .int (iI (u)), .int (iI (t))] 586 (wM G b C S) (WV G b S (fun C' => C' = up2 C (q + 3) u t)) := by
  refine CtK_of (by decide) (Nat.le_of_ble_eq_true rfl) q386 ?_
  intro x hl hB hE _
  subst hl
  show YM x G b 0 0 C S 0 [(0, .ref (ad b (q))), (1, .int (iI (u))), (2, .int (iI (t)))] []
  refine y_aload_n hB 0 dX2_changeDay_0 rfl rfl ?_
  refine y_iload_n hB 1 dX2_changeDay_1 rfl rfl ?_
  refine m_V hB msX2_hasFact q378 (tX2_hasFact _ G b C S q u (hq).1 (by omega) (by omega)) (hq).1 (by decide) rfl rfl rfl rfl rfl ⟨Nat.le_of_ble_eq_true rfl, Nat.le_of_ble_eq_true rfl⟩ (Nat.le_of_ble_eq_true rfl) ⟨rfl, rfl⟩ ⟨Nat.le_of_ble_eq_true rfl, Nat.le_of_ble_eq_true rfl⟩ dX2_changeDay_2 (k_RI (fun v_2 h_2 => ?_))
  refine y_if_eq hB 15 dX2_changeDay_5 (by decide) (by omega) (fun c_5 => ?_) (fun c_5 => ?_)
  · exfalso
    omega
  · refine y_aload_n hB 0 dX2_changeDay_8 rfl rfl ?_
    refine gt_2_9 hB (hq).1 (t1 := q + 3) (by omega) dX2_changeDay_9 ?_
    refine y_iload_n hB 1 dX2_changeDay_12 rfl rfl ?_
    refine y_iload_n hB 2 dX2_changeDay_13 rfl rfl ?_
    refine ast_6 hB (hq).2.2.2.1 (by omega) dX2_changeDay_14 ?_
    exact m_wv hB hE dX2_changeDay_15 (rfl)
set_option maxHeartbeats 4000000 in
theorem tX2_length (l : Launch) (G : gG) (b : Nat) (C S : gM) (q : Int) (hq : isLife q) (hs : 0 ≤ C q 6 ∧ C q 6 ≤ 8) : Ct l G b yX2_length cX2_length 3 (some .int) rmX2_length [.ref (ad b (q))] 586 (wM G b C S) (RI G b C S (fun v => v = smI (C (q + 2)) (C q 6))) := by
  refine CtK_of (by decide) (Nat.le_of_ble_eq_true rfl) q556 ?_
  intro x hl hB hE _
  subst hl
  show YM x G b 0 0 C S 0 [(0, .ref (ad b (q)))] []
  refine y_iconst (v := 0) hB dX2_length_0 rfl ?_
  refine y_istore_n (lv' := [(1, .int (iI (0))), (0, .ref (ad b (q)))]) hB dX2_length_1 rfl (by decide) rfl ?_
  refine y_iconst (v := 0) hB dX2_length_2 rfl ?_
  refine y_istore_n (lv' := [(2, .int (iI (0))), (1, .int (iI (0))), (0, .ref (ad b (q)))]) hB dX2_length_3 rfl (by decide) rfl ?_
  have LOOP_4 : ∀ (N : Nat) (i s : Int), (0 ≤ i ∧ i ≤ C q 6) → (s = smI (C (q + 2)) i) → C q 6 - i < (N : Int) → YM x G b 0 0 C S 4 [(0, .ref (ad b (q))), (1, .int (iI (s))), (2, .int (iI (i)))] [] := by
    intro N
    induction N with
    | zero => intro i s hi hv hm_4; exfalso; omega
    | succ N ih_4 =>
      intro i s hi hv hm_4
      refine y_iload_n hB 2 dX2_length_4 rfl rfl ?_
      refine y_aload_n hB 0 dX2_length_5 rfl rfl ?_
      refine gt_2_6 hB (hq).1 (t1 := C q 6) rfl dX2_length_6 ?_
      refine y_icmp_ge hB 26 dX2_length_9 (by decide) (by omega) (by omega) (fun c_9 => ?_) (fun c_9 => ?_)
      · refine y_iload_n hB 1 dX2_length_26 rfl rfl ?_
        exact m_ri hB hE dX2_length_27 rfl (by rw [hv, show i = C q 6 by omega])
      · refine y_iload_n hB 1 dX2_length_12 rfl rfl ?_
        refine y_aload_n hB 0 dX2_length_13 rfl rfl ?_
        refine y_iload_n hB 2 dX2_length_14 rfl rfl ?_
        refine m_V hB msX2_linesOf q557 (tX2_linesOf _ G b C S q i hq (by omega) (by omega)) (hq).1 (by decide) rfl rfl rfl rfl rfl ⟨Nat.le_of_ble_eq_true rfl, Nat.le_of_ble_eq_true rfl⟩ (Nat.le_of_ble_eq_true rfl) ⟨rfl, rfl⟩ ⟨Nat.le_of_ble_eq_true rfl, Nat.le_of_ble_eq_true rfl⟩ dX2_length_15 (k_RI (fun v_15 h_15 => ?_))
        refine y_iadd (t := s + v_15) hB dX2_length_18 (by omega) ?_
        refine y_istore_n (lv' := [(1, .int (iI (s + v_15))), (0, .ref (ad b (q))), (2, .int (iI (i)))]) hB dX2_length_19 rfl (by decide) rfl ?_
        refine y_iinc (v := i + 1) (lv' := [(2, .int (iI (i + 1))), (1, .int (iI (s + v_15))), (0, .ref (ad b (q)))]) hB 2 dX2_length_20 rfl (by omega) (by decide) rfl ?_
        refine y_goto hB 4 dX2_length_23 (by decide) ?_
        refine y_sub (lv' := [(0, .ref (ad b (q))), (1, .int (iI (s + v_15))), (2, .int (iI (i + 1)))]) [2, 1, 0] rfl ?_
        exact ih_4 (i + 1) (s + v_15) (by omega) (by rw [smI_s _ hi.1, hv, h_15]) (by omega)
  refine y_sub (lv' := [(0, .ref (ad b (q))), (1, .int (iI (0))), (2, .int (iI (0)))]) [2, 1, 0] rfl ?_
  exact LOOP_4 ((C q 6).toNat + 1) 0 0 (by omega) (smI_0 _).symm (by omega)
set_option maxHeartbeats 4000000 in
theorem tJ6_bitCount_0f7a4 (l : Launch) (G : gG) (b : Nat) (C S : gM) (u : Int) (hu : 0 ≤ u ∧ u < 64) : Ct l G b yJ6_bitCount_0f7a4 cJ6_bitCount_0f7a4 1 (some .int) rmJ6_bitCount_0f7a4 [.int (iI (u))] 586 (wM G b C S) (RI G b C S (fun v => v = pcI u)) := by
  refine CtK_of (by decide) (Nat.le_of_ble_eq_true rfl) q549 ?_
  intro x hl hB hE _
  subst hl
  show YM x G b 0 0 C S 0 [(0, .int (iI (u)))] []
  refine y_iload_n hB 0 dJ6_bitCount_0f7a4_0 rfl rfl ?_
  refine y_iload_n hB 0 dJ6_bitCount_0f7a4_1 rfl rfl ?_
  refine y_iconst (v := 1) hB dJ6_bitCount_0f7a4_2 rfl ?_
  refine y_iushrR hB dJ6_bitCount_0f7a4_3 ?_
  refine y_ldcwi hB q550 dJ6_bitCount_0f7a4_4 ?_
  refine y_iandR hB dJ6_bitCount_0f7a4_7 ?_
  refine y_isubR hB dJ6_bitCount_0f7a4_8 ?_
  refine y_istore_n (lv' := [(0, .int ((iI (u)) - ((((iI (u)).toUInt32 >>> ((iI (1)).toUInt32 &&& Int32.toUInt32 31)).toInt32) &&& ((1431655765 : Int32)))))]) hB dJ6_bitCount_0f7a4_9 rfl (by decide) rfl ?_
  refine y_iload_n hB 0 dJ6_bitCount_0f7a4_10 rfl rfl ?_
  refine y_ldcwi hB q551 dJ6_bitCount_0f7a4_11 ?_
  refine y_iandR hB dJ6_bitCount_0f7a4_14 ?_
  refine y_iload_n hB 0 dJ6_bitCount_0f7a4_15 rfl rfl ?_
  refine y_iconst (v := 2) hB dJ6_bitCount_0f7a4_16 rfl ?_
  refine y_iushrR hB dJ6_bitCount_0f7a4_17 ?_
  refine y_ldcwi hB q551 dJ6_bitCount_0f7a4_18 ?_
  refine y_iandR hB dJ6_bitCount_0f7a4_21 ?_
  refine y_iaddR hB dJ6_bitCount_0f7a4_22 ?_
  refine y_istore_n (lv' := [(0, .int ((((iI (u)) - ((((iI (u)).toUInt32 >>> ((iI (1)).toUInt32 &&& Int32.toUInt32 31)).toInt32) &&& ((1431655765 : Int32)))) &&& ((858993459 : Int32))) + (((((iI (u)) - ((((iI (u)).toUInt32 >>> ((iI (1)).toUInt32 &&& Int32.toUInt32 31)).toInt32) &&& ((1431655765 : Int32)))).toUInt32 >>> ((iI (2)).toUInt32 &&& Int32.toUInt32 31)).toInt32) &&& ((858993459 : Int32)))))]) hB dJ6_bitCount_0f7a4_23 rfl (by decide) rfl ?_
  refine y_iload_n hB 0 dJ6_bitCount_0f7a4_24 rfl rfl ?_
  refine y_iload_n hB 0 dJ6_bitCount_0f7a4_25 rfl rfl ?_
  refine y_iconst (v := 4) hB dJ6_bitCount_0f7a4_26 rfl ?_
  refine y_iushrR hB dJ6_bitCount_0f7a4_27 ?_
  refine y_iaddR hB dJ6_bitCount_0f7a4_28 ?_
  refine y_ldcwi hB q552 dJ6_bitCount_0f7a4_29 ?_
  refine y_iandR hB dJ6_bitCount_0f7a4_32 ?_
  refine y_istore_n (lv' := [(0, .int ((((((iI (u)) - ((((iI (u)).toUInt32 >>> ((iI (1)).toUInt32 &&& Int32.toUInt32 31)).toInt32) &&& ((1431655765 : Int32)))) &&& ((858993459 : Int32))) + (((((iI (u)) - ((((iI (u)).toUInt32 >>> ((iI (1)).toUInt32 &&& Int32.toUInt32 31)).toInt32) &&& ((1431655765 : Int32)))).toUInt32 >>> ((iI (2)).toUInt32 &&& Int32.toUInt32 31)).toInt32) &&& ((858993459 : Int32)))) + ((((((iI (u)) - ((((iI (u)).toUInt32 >>> ((iI (1)).toUInt32 &&& Int32.toUInt32 31)).toInt32) &&& ((1431655765 : Int32)))) &&& ((858993459 : Int32))) + (((((iI (u)) - ((((iI (u)).toUInt32 >>> ((iI (1)).toUInt32 &&& Int32.toUInt32 31)).toInt32) &&& ((1431655765 : Int32)))).toUInt32 >>> ((iI (2)).toUInt32 &&& Int32.toUInt32 31)).toInt32) &&& ((858993459 : Int32)))).toUInt32 >>> ((iI (4)).toUInt32 &&& Int32.toUInt32 31)).toInt32)) &&& ((252645135 : Int32))))]) hB dJ6_bitCount_0f7a4_33 rfl (by decide) rfl ?_
  refine y_iload_n hB 0 dJ6_bitCount_0f7a4_34 rfl rfl ?_
  refine y_iload_n hB 0 dJ6_bitCount_0f7a4_35 rfl rfl ?_
  refine y_bipush (v := 8) hB dJ6_bitCount_0f7a4_36 (by decide) ?_
  refine y_iushrR hB dJ6_bitCount_0f7a4_38 ?_
  refine y_iaddR hB dJ6_bitCount_0f7a4_39 ?_
  refine y_istore_n (lv' := [(0, .int (((((((iI (u)) - ((((iI (u)).toUInt32 >>> ((iI (1)).toUInt32 &&& Int32.toUInt32 31)).toInt32) &&& ((1431655765 : Int32)))) &&& ((858993459 : Int32))) + (((((iI (u)) - ((((iI (u)).toUInt32 >>> ((iI (1)).toUInt32 &&& Int32.toUInt32 31)).toInt32) &&& ((1431655765 : Int32)))).toUInt32 >>> ((iI (2)).toUInt32 &&& Int32.toUInt32 31)).toInt32) &&& ((858993459 : Int32)))) + ((((((iI (u)) - ((((iI (u)).toUInt32 >>> ((iI (1)).toUInt32 &&& Int32.toUInt32 31)).toInt32) &&& ((1431655765 : Int32)))) &&& ((858993459 : Int32))) + (((((iI (u)) - ((((iI (u)).toUInt32 >>> ((iI (1)).toUInt32 &&& Int32.toUInt32 31)).toInt32) &&& ((1431655765 : Int32)))).toUInt32 >>> ((iI (2)).toUInt32 &&& Int32.toUInt32 31)).toInt32) &&& ((858993459 : Int32)))).toUInt32 >>> ((iI (4)).toUInt32 &&& Int32.toUInt32 31)).toInt32)) &&& ((252645135 : Int32))) + ((((((((iI (u)) - ((((iI (u)).toUInt32 >>> ((iI (1)).toUInt32 &&& Int32.toUInt32 31)).toInt32) &&& ((1431655765 : Int32)))) &&& ((858993459 : Int32))) + (((((iI (u)) - ((((iI (u)).toUInt32 >>> ((iI (1)).toUInt32 &&& Int32.toUInt32 31)).toInt32) &&& ((1431655765 : Int32)))).toUInt32 >>> ((iI (2)).toUInt32 &&& Int32.toUInt32 31)).toInt32) &&& ((858993459 : Int32)))) + ((((((iI (u)) - ((((iI (u)).toUInt32 >>> ((iI (1)).toUInt32 &&& Int32.toUInt32 31)).toInt32) &&& ((1431655765 : Int32)))) &&& ((858993459 : Int32))) + (((((iI (u)) - ((((iI (u)).toUInt32 >>> ((iI (1)).toUInt32 &&& Int32.toUInt32 31)).toInt32) &&& ((1431655765 : Int32)))).toUInt32 >>> ((iI (2)).toUInt32 &&& Int32.toUInt32 31)).toInt32) &&& ((858993459 : Int32)))).toUInt32 >>> ((iI (4)).toUInt32 &&& Int32.toUInt32 31)).toInt32)) &&& ((252645135 : Int32))).toUInt32 >>> ((iI (8)).toUInt32 &&& Int32.toUInt32 31)).toInt32)))]) hB dJ6_bitCount_0f7a4_40 rfl (by decide) rfl ?_
  refine y_iload_n hB 0 dJ6_bitCount_0f7a4_41 rfl rfl ?_
  refine y_iload_n hB 0 dJ6_bitCount_0f7a4_42 rfl rfl ?_
  refine y_bipush (v := 16) hB dJ6_bitCount_0f7a4_43 (by decide) ?_
  refine y_iushrR hB dJ6_bitCount_0f7a4_45 ?_
  refine y_iaddR hB dJ6_bitCount_0f7a4_46 ?_
  refine y_istore_n (lv' := [(0, .int ((((((((iI (u)) - ((((iI (u)).toUInt32 >>> ((iI (1)).toUInt32 &&& Int32.toUInt32 31)).toInt32) &&& ((1431655765 : Int32)))) &&& ((858993459 : Int32))) + (((((iI (u)) - ((((iI (u)).toUInt32 >>> ((iI (1)).toUInt32 &&& Int32.toUInt32 31)).toInt32) &&& ((1431655765 : Int32)))).toUInt32 >>> ((iI (2)).toUInt32 &&& Int32.toUInt32 31)).toInt32) &&& ((858993459 : Int32)))) + ((((((iI (u)) - ((((iI (u)).toUInt32 >>> ((iI (1)).toUInt32 &&& Int32.toUInt32 31)).toInt32) &&& ((1431655765 : Int32)))) &&& ((858993459 : Int32))) + (((((iI (u)) - ((((iI (u)).toUInt32 >>> ((iI (1)).toUInt32 &&& Int32.toUInt32 31)).toInt32) &&& ((1431655765 : Int32)))).toUInt32 >>> ((iI (2)).toUInt32 &&& Int32.toUInt32 31)).toInt32) &&& ((858993459 : Int32)))).toUInt32 >>> ((iI (4)).toUInt32 &&& Int32.toUInt32 31)).toInt32)) &&& ((252645135 : Int32))) + ((((((((iI (u)) - ((((iI (u)).toUInt32 >>> ((iI (1)).toUInt32 &&& Int32.toUInt32 31)).toInt32) &&& ((1431655765 : Int32)))) &&& ((858993459 : Int32))) + (((((iI (u)) - ((((iI (u)).toUInt32 >>> ((iI (1)).toUInt32 &&& Int32.toUInt32 31)).toInt32) &&& ((1431655765 : Int32)))).toUInt32 >>> ((iI (2)).toUInt32 &&& Int32.toUInt32 31)).toInt32) &&& ((858993459 : Int32)))) + ((((((iI (u)) - ((((iI (u)).toUInt32 >>> ((iI (1)).toUInt32 &&& Int32.toUInt32 31)).toInt32) &&& ((1431655765 : Int32)))) &&& ((858993459 : Int32))) + (((((iI (u)) - ((((iI (u)).toUInt32 >>> ((iI (1)).toUInt32 &&& Int32.toUInt32 31)).toInt32) &&& ((1431655765 : Int32)))).toUInt32 >>> ((iI (2)).toUInt32 &&& Int32.toUInt32 31)).toInt32) &&& ((858993459 : Int32)))).toUInt32 >>> ((iI (4)).toUInt32 &&& Int32.toUInt32 31)).toInt32)) &&& ((252645135 : Int32))).toUInt32 >>> ((iI (8)).toUInt32 &&& Int32.toUInt32 31)).toInt32)) + (((((((((iI (u)) - ((((iI (u)).toUInt32 >>> ((iI (1)).toUInt32 &&& Int32.toUInt32 31)).toInt32) &&& ((1431655765 : Int32)))) &&& ((858993459 : Int32))) + (((((iI (u)) - ((((iI (u)).toUInt32 >>> ((iI (1)).toUInt32 &&& Int32.toUInt32 31)).toInt32) &&& ((1431655765 : Int32)))).toUInt32 >>> ((iI (2)).toUInt32 &&& Int32.toUInt32 31)).toInt32) &&& ((858993459 : Int32)))) + ((((((iI (u)) - ((((iI (u)).toUInt32 >>> ((iI (1)).toUInt32 &&& Int32.toUInt32 31)).toInt32) &&& ((1431655765 : Int32)))) &&& ((858993459 : Int32))) + (((((iI (u)) - ((((iI (u)).toUInt32 >>> ((iI (1)).toUInt32 &&& Int32.toUInt32 31)).toInt32) &&& ((1431655765 : Int32)))).toUInt32 >>> ((iI (2)).toUInt32 &&& Int32.toUInt32 31)).toInt32) &&& ((858993459 : Int32)))).toUInt32 >>> ((iI (4)).toUInt32 &&& Int32.toUInt32 31)).toInt32)) &&& ((252645135 : Int32))) + ((((((((iI (u)) - ((((iI (u)).toUInt32 >>> ((iI (1)).toUInt32 &&& Int32.toUInt32 31)).toInt32) &&& ((1431655765 : Int32)))) &&& ((858993459 : Int32))) + (((((iI (u)) - ((((iI (u)).toUInt32 >>> ((iI (1)).toUInt32 &&& Int32.toUInt32 31)).toInt32) &&& ((1431655765 : Int32)))).toUInt32 >>> ((iI (2)).toUInt32 &&& Int32.toUInt32 31)).toInt32) &&& ((858993459 : Int32)))) + ((((((iI (u)) - ((((iI (u)).toUInt32 >>> ((iI (1)).toUInt32 &&& Int32.toUInt32 31)).toInt32) &&& ((1431655765 : Int32)))) &&& ((858993459 : Int32))) + (((((iI (u)) - ((((iI (u)).toUInt32 >>> ((iI (1)).toUInt32 &&& Int32.toUInt32 31)).toInt32) &&& ((1431655765 : Int32)))).toUInt32 >>> ((iI (2)).toUInt32 &&& Int32.toUInt32 31)).toInt32) &&& ((858993459 : Int32)))).toUInt32 >>> ((iI (4)).toUInt32 &&& Int32.toUInt32 31)).toInt32)) &&& ((252645135 : Int32))).toUInt32 >>> ((iI (8)).toUInt32 &&& Int32.toUInt32 31)).toInt32)).toUInt32 >>> ((iI (16)).toUInt32 &&& Int32.toUInt32 31)).toInt32)))]) hB dJ6_bitCount_0f7a4_47 rfl (by decide) rfl ?_
  refine y_iload_n hB 0 dJ6_bitCount_0f7a4_48 rfl rfl ?_
  refine y_bipush (v := 63) hB dJ6_bitCount_0f7a4_49 (by decide) ?_
  refine y_iandR hB dJ6_bitCount_0f7a4_51 ?_
  rw [show ((((((((iI (u)) - ((((iI (u)).toUInt32 >>> ((iI (1)).toUInt32 &&& Int32.toUInt32 31)).toInt32) &&& ((1431655765 : Int32)))) &&& ((858993459 : Int32))) + (((((iI (u)) - ((((iI (u)).toUInt32 >>> ((iI (1)).toUInt32 &&& Int32.toUInt32 31)).toInt32) &&& ((1431655765 : Int32)))).toUInt32 >>> ((iI (2)).toUInt32 &&& Int32.toUInt32 31)).toInt32) &&& ((858993459 : Int32)))) + ((((((iI (u)) - ((((iI (u)).toUInt32 >>> ((iI (1)).toUInt32 &&& Int32.toUInt32 31)).toInt32) &&& ((1431655765 : Int32)))) &&& ((858993459 : Int32))) + (((((iI (u)) - ((((iI (u)).toUInt32 >>> ((iI (1)).toUInt32 &&& Int32.toUInt32 31)).toInt32) &&& ((1431655765 : Int32)))).toUInt32 >>> ((iI (2)).toUInt32 &&& Int32.toUInt32 31)).toInt32) &&& ((858993459 : Int32)))).toUInt32 >>> ((iI (4)).toUInt32 &&& Int32.toUInt32 31)).toInt32)) &&& ((252645135 : Int32))) + ((((((((iI (u)) - ((((iI (u)).toUInt32 >>> ((iI (1)).toUInt32 &&& Int32.toUInt32 31)).toInt32) &&& ((1431655765 : Int32)))) &&& ((858993459 : Int32))) + (((((iI (u)) - ((((iI (u)).toUInt32 >>> ((iI (1)).toUInt32 &&& Int32.toUInt32 31)).toInt32) &&& ((1431655765 : Int32)))).toUInt32 >>> ((iI (2)).toUInt32 &&& Int32.toUInt32 31)).toInt32) &&& ((858993459 : Int32)))) + ((((((iI (u)) - ((((iI (u)).toUInt32 >>> ((iI (1)).toUInt32 &&& Int32.toUInt32 31)).toInt32) &&& ((1431655765 : Int32)))) &&& ((858993459 : Int32))) + (((((iI (u)) - ((((iI (u)).toUInt32 >>> ((iI (1)).toUInt32 &&& Int32.toUInt32 31)).toInt32) &&& ((1431655765 : Int32)))).toUInt32 >>> ((iI (2)).toUInt32 &&& Int32.toUInt32 31)).toInt32) &&& ((858993459 : Int32)))).toUInt32 >>> ((iI (4)).toUInt32 &&& Int32.toUInt32 31)).toInt32)) &&& ((252645135 : Int32))).toUInt32 >>> ((iI (8)).toUInt32 &&& Int32.toUInt32 31)).toInt32)) + (((((((((iI (u)) - ((((iI (u)).toUInt32 >>> ((iI (1)).toUInt32 &&& Int32.toUInt32 31)).toInt32) &&& ((1431655765 : Int32)))) &&& ((858993459 : Int32))) + (((((iI (u)) - ((((iI (u)).toUInt32 >>> ((iI (1)).toUInt32 &&& Int32.toUInt32 31)).toInt32) &&& ((1431655765 : Int32)))).toUInt32 >>> ((iI (2)).toUInt32 &&& Int32.toUInt32 31)).toInt32) &&& ((858993459 : Int32)))) + ((((((iI (u)) - ((((iI (u)).toUInt32 >>> ((iI (1)).toUInt32 &&& Int32.toUInt32 31)).toInt32) &&& ((1431655765 : Int32)))) &&& ((858993459 : Int32))) + (((((iI (u)) - ((((iI (u)).toUInt32 >>> ((iI (1)).toUInt32 &&& Int32.toUInt32 31)).toInt32) &&& ((1431655765 : Int32)))).toUInt32 >>> ((iI (2)).toUInt32 &&& Int32.toUInt32 31)).toInt32) &&& ((858993459 : Int32)))).toUInt32 >>> ((iI (4)).toUInt32 &&& Int32.toUInt32 31)).toInt32)) &&& ((252645135 : Int32))) + ((((((((iI (u)) - ((((iI (u)).toUInt32 >>> ((iI (1)).toUInt32 &&& Int32.toUInt32 31)).toInt32) &&& ((1431655765 : Int32)))) &&& ((858993459 : Int32))) + (((((iI (u)) - ((((iI (u)).toUInt32 >>> ((iI (1)).toUInt32 &&& Int32.toUInt32 31)).toInt32) &&& ((1431655765 : Int32)))).toUInt32 >>> ((iI (2)).toUInt32 &&& Int32.toUInt32 31)).toInt32) &&& ((858993459 : Int32)))) + ((((((iI (u)) - ((((iI (u)).toUInt32 >>> ((iI (1)).toUInt32 &&& Int32.toUInt32 31)).toInt32) &&& ((1431655765 : Int32)))) &&& ((858993459 : Int32))) + (((((iI (u)) - ((((iI (u)).toUInt32 >>> ((iI (1)).toUInt32 &&& Int32.toUInt32 31)).toInt32) &&& ((1431655765 : Int32)))).toUInt32 >>> ((iI (2)).toUInt32 &&& Int32.toUInt32 31)).toInt32) &&& ((858993459 : Int32)))).toUInt32 >>> ((iI (4)).toUInt32 &&& Int32.toUInt32 31)).toInt32)) &&& ((252645135 : Int32))).toUInt32 >>> ((iI (8)).toUInt32 &&& Int32.toUInt32 31)).toInt32)).toUInt32 >>> ((iI (16)).toUInt32 &&& Int32.toUInt32 31)).toInt32)) &&& (iI (63)) = iI (pcI u) from (by have h9 := co_all (P := fun u => ((((((((iI (u)) - ((((iI (u)).toUInt32 >>> ((iI (1)).toUInt32 &&& Int32.toUInt32 31)).toInt32) &&& ((1431655765 : Int32)))) &&& ((858993459 : Int32))) + (((((iI (u)) - ((((iI (u)).toUInt32 >>> ((iI (1)).toUInt32 &&& Int32.toUInt32 31)).toInt32) &&& ((1431655765 : Int32)))).toUInt32 >>> ((iI (2)).toUInt32 &&& Int32.toUInt32 31)).toInt32) &&& ((858993459 : Int32)))) + ((((((iI (u)) - ((((iI (u)).toUInt32 >>> ((iI (1)).toUInt32 &&& Int32.toUInt32 31)).toInt32) &&& ((1431655765 : Int32)))) &&& ((858993459 : Int32))) + (((((iI (u)) - ((((iI (u)).toUInt32 >>> ((iI (1)).toUInt32 &&& Int32.toUInt32 31)).toInt32) &&& ((1431655765 : Int32)))).toUInt32 >>> ((iI (2)).toUInt32 &&& Int32.toUInt32 31)).toInt32) &&& ((858993459 : Int32)))).toUInt32 >>> ((iI (4)).toUInt32 &&& Int32.toUInt32 31)).toInt32)) &&& ((252645135 : Int32))) + ((((((((iI (u)) - ((((iI (u)).toUInt32 >>> ((iI (1)).toUInt32 &&& Int32.toUInt32 31)).toInt32) &&& ((1431655765 : Int32)))) &&& ((858993459 : Int32))) + (((((iI (u)) - ((((iI (u)).toUInt32 >>> ((iI (1)).toUInt32 &&& Int32.toUInt32 31)).toInt32) &&& ((1431655765 : Int32)))).toUInt32 >>> ((iI (2)).toUInt32 &&& Int32.toUInt32 31)).toInt32) &&& ((858993459 : Int32)))) + ((((((iI (u)) - ((((iI (u)).toUInt32 >>> ((iI (1)).toUInt32 &&& Int32.toUInt32 31)).toInt32) &&& ((1431655765 : Int32)))) &&& ((858993459 : Int32))) + (((((iI (u)) - ((((iI (u)).toUInt32 >>> ((iI (1)).toUInt32 &&& Int32.toUInt32 31)).toInt32) &&& ((1431655765 : Int32)))).toUInt32 >>> ((iI (2)).toUInt32 &&& Int32.toUInt32 31)).toInt32) &&& ((858993459 : Int32)))).toUInt32 >>> ((iI (4)).toUInt32 &&& Int32.toUInt32 31)).toInt32)) &&& ((252645135 : Int32))).toUInt32 >>> ((iI (8)).toUInt32 &&& Int32.toUInt32 31)).toInt32)) + (((((((((iI (u)) - ((((iI (u)).toUInt32 >>> ((iI (1)).toUInt32 &&& Int32.toUInt32 31)).toInt32) &&& ((1431655765 : Int32)))) &&& ((858993459 : Int32))) + (((((iI (u)) - ((((iI (u)).toUInt32 >>> ((iI (1)).toUInt32 &&& Int32.toUInt32 31)).toInt32) &&& ((1431655765 : Int32)))).toUInt32 >>> ((iI (2)).toUInt32 &&& Int32.toUInt32 31)).toInt32) &&& ((858993459 : Int32)))) + ((((((iI (u)) - ((((iI (u)).toUInt32 >>> ((iI (1)).toUInt32 &&& Int32.toUInt32 31)).toInt32) &&& ((1431655765 : Int32)))) &&& ((858993459 : Int32))) + (((((iI (u)) - ((((iI (u)).toUInt32 >>> ((iI (1)).toUInt32 &&& Int32.toUInt32 31)).toInt32) &&& ((1431655765 : Int32)))).toUInt32 >>> ((iI (2)).toUInt32 &&& Int32.toUInt32 31)).toInt32) &&& ((858993459 : Int32)))).toUInt32 >>> ((iI (4)).toUInt32 &&& Int32.toUInt32 31)).toInt32)) &&& ((252645135 : Int32))) + ((((((((iI (u)) - ((((iI (u)).toUInt32 >>> ((iI (1)).toUInt32 &&& Int32.toUInt32 31)).toInt32) &&& ((1431655765 : Int32)))) &&& ((858993459 : Int32))) + (((((iI (u)) - ((((iI (u)).toUInt32 >>> ((iI (1)).toUInt32 &&& Int32.toUInt32 31)).toInt32) &&& ((1431655765 : Int32)))).toUInt32 >>> ((iI (2)).toUInt32 &&& Int32.toUInt32 31)).toInt32) &&& ((858993459 : Int32)))) + ((((((iI (u)) - ((((iI (u)).toUInt32 >>> ((iI (1)).toUInt32 &&& Int32.toUInt32 31)).toInt32) &&& ((1431655765 : Int32)))) &&& ((858993459 : Int32))) + (((((iI (u)) - ((((iI (u)).toUInt32 >>> ((iI (1)).toUInt32 &&& Int32.toUInt32 31)).toInt32) &&& ((1431655765 : Int32)))).toUInt32 >>> ((iI (2)).toUInt32 &&& Int32.toUInt32 31)).toInt32) &&& ((858993459 : Int32)))).toUInt32 >>> ((iI (4)).toUInt32 &&& Int32.toUInt32 31)).toInt32)) &&& ((252645135 : Int32))).toUInt32 >>> ((iI (8)).toUInt32 &&& Int32.toUInt32 31)).toInt32)).toUInt32 >>> ((iI (16)).toUInt32 &&& Int32.toUInt32 31)).toInt32)) &&& (iI (63)) = iI (pcI u)) 64 (by decide +kernel) hu; exact h9)]
  exact m_ri hB hE dJ6_bitCount_0f7a4_52 rfl (rfl)
set_option maxHeartbeats 4000000 in
theorem tX2_differentSources (l : Launch) (G : gG) (b : Nat) (C S : gM) (q : Int) (hq : isLife q) (hs : 0 ≤ C q 6 ∧ C q 6 ≤ 8) (hr : ∀ j, 0 ≤ j → j < C q 6 → 0 ≤ C (q + 1) j ∧ C (q + 1) j ≤ 5) : Ct l G b yX2_differentSources cX2_differentSources 3 (some .int) rmX2_differentSources [.ref (ad b (q))] 586 (wM G b C S) (RI G b C S (fun v => v = pcI (mkI (C (q + 1)) (C q 6)))) := by
  refine CtK_of (by decide) (Nat.le_of_ble_eq_true rfl) q545 ?_
  intro x hl hB hE _
  subst hl
  show YM x G b 0 0 C S 0 [(0, .ref (ad b (q)))] []
  refine y_iconst (v := 0) hB dX2_differentSources_0 rfl ?_
  refine y_istore_n (lv' := [(1, .int (iI (0))), (0, .ref (ad b (q)))]) hB dX2_differentSources_1 rfl (by decide) rfl ?_
  refine y_iconst (v := 0) hB dX2_differentSources_2 rfl ?_
  refine y_istore_n (lv' := [(2, .int (iI (0))), (1, .int (iI (0))), (0, .ref (ad b (q)))]) hB dX2_differentSources_3 rfl (by decide) rfl ?_
  have LOOP_4 : ∀ (N : Nat) (i s : Int), (0 ≤ i ∧ i ≤ C q 6) → (s = mkI (C (q + 1)) i) → C q 6 - i < (N : Int) → YM x G b 0 0 C S 4 [(0, .ref (ad b (q))), (1, .int (iI (s))), (2, .int (iI (i)))] [] := by
    intro N
    induction N with
    | zero => intro i s hi hv hm_4; exfalso; omega
    | succ N ih_4 =>
      intro i s hi hv hm_4
      have hb : 0 ≤ s ∧ s < 64 := by rw [hv]; exact mkI_lt (fun j h1 h2 => hr j h1 (by omega))
      refine y_iload_n hB 2 dX2_differentSources_4 rfl rfl ?_
      refine y_aload_n hB 0 dX2_differentSources_5 rfl rfl ?_
      refine gt_2_6 hB (hq).1 (t1 := C q 6) rfl dX2_differentSources_6 ?_
      refine y_icmp_ge hB 28 dX2_differentSources_9 (by decide) (by omega) (by omega) (fun c_9 => ?_) (fun c_9 => ?_)
      · refine y_iload_n hB 1 dX2_differentSources_28 rfl rfl ?_
        refine m_S hB msJ6_bitCount_0f7a4 q547 (tJ6_bitCount_0f7a4 _ G b C S s (by omega)) rfl rfl ⟨Nat.le_of_ble_eq_true rfl, Nat.le_of_ble_eq_true rfl⟩ (Nat.le_of_ble_eq_true rfl) ⟨rfl, rfl⟩ ⟨Nat.le_of_ble_eq_true rfl, Nat.le_of_ble_eq_true rfl⟩ dX2_differentSources_29 (k_RI (fun v_29 h_29 => ?_))
        exact m_ri hB hE dX2_differentSources_32 rfl (by rw [h_29, hv, show i = C q 6 by omega])
      · refine y_iload_n hB 1 dX2_differentSources_12 rfl rfl ?_
        refine y_iconst (v := 1) hB dX2_differentSources_13 rfl ?_
        refine y_aload_n hB 0 dX2_differentSources_14 rfl rfl ?_
        refine y_iload_n hB 2 dX2_differentSources_15 rfl rfl ?_
        refine m_V hB msX2_sourceOf q546 (tX2_sourceOf _ G b C S q i hq (by omega) (by omega)) (hq).1 (by decide) rfl rfl rfl rfl rfl ⟨Nat.le_of_ble_eq_true rfl, Nat.le_of_ble_eq_true rfl⟩ (Nat.le_of_ble_eq_true rfl) ⟨rfl, rfl⟩ ⟨Nat.le_of_ble_eq_true rfl, Nat.le_of_ble_eq_true rfl⟩ dX2_differentSources_16 (k_RI (fun v_16 h_16 => ?_))
        have hr_16 := hr i (by omega) (by omega)
        rw [← h_16] at hr_16
        refine y_ishl1 hB (by omega) dX2_differentSources_19 ?_
        refine y_ior hB (by omega) (p2_lt (by omega)) dX2_differentSources_20 ?_
        refine y_istore_n (lv' := [(1, .int (iI (orI s (p2 v_16)))), (0, .ref (ad b (q))), (2, .int (iI (i)))]) hB dX2_differentSources_21 rfl (by decide) rfl ?_
        refine y_iinc (v := i + 1) (lv' := [(2, .int (iI (i + 1))), (1, .int (iI (orI s (p2 v_16)))), (0, .ref (ad b (q)))]) hB 2 dX2_differentSources_22 rfl (by omega) (by decide) rfl ?_
        refine y_goto hB 4 dX2_differentSources_25 (by decide) ?_
        refine y_sub (lv' := [(0, .ref (ad b (q))), (1, .int (iI (orI s (p2 v_16)))), (2, .int (iI (i + 1)))]) [2, 1, 0] rfl ?_
        exact ih_4 (i + 1) (orI s (p2 v_16)) (by omega) (by rw [mkI_s _ hi.1, hv, h_16]) (by omega)
  refine y_sub (lv' := [(0, .ref (ad b (q))), (1, .int (iI (0))), (2, .int (iI (0)))]) [2, 1, 0] rfl ?_
  exact LOOP_4 ((C q 6).toNat + 1) 0 0 (by omega) (mkI_0 _).symm (by omega)
set_option maxHeartbeats 4000000 in
theorem tX2_removeFact (l : Launch) (G : gG) (b : Nat) (C S : gM) (q u : Int) (hq : isLife q) (hs : 0 ≤ C q 6 ∧ C q 6 ≤ 8) (hu : 0 ≤ u ∧ u < C q 6) : Ct l G b yX2_removeFact cX2_removeFact 3 none rmX2_removeFact [.ref (ad b (q)), .int (iI (u))] 586 (wM G b C S) (WV G b S (fun C' => C' = up2 (shl3 C q u (C q 6 - 1)) q 6 (C q 6 - 1))) := by
  refine CtK_of (by decide) (Nat.le_of_ble_eq_true rfl) q395 ?_
  intro x hl hB hE _
  subst hl
  show YM x G b 0 0 C S 0 [(0, .ref (ad b (q))), (1, .int (iI (u)))] []
  refine y_aload_n hB 0 dX2_removeFact_0 rfl rfl ?_
  refine y_iload_n hB 1 dX2_removeFact_1 rfl rfl ?_
  refine m_V hB msX2_hasFact q378 (tX2_hasFact _ G b C S q u (hq).1 (by omega) (by omega)) (hq).1 (by decide) rfl rfl rfl rfl rfl ⟨Nat.le_of_ble_eq_true rfl, Nat.le_of_ble_eq_true rfl⟩ (Nat.le_of_ble_eq_true rfl) ⟨rfl, rfl⟩ ⟨Nat.le_of_ble_eq_true rfl, Nat.le_of_ble_eq_true rfl⟩ dX2_removeFact_2 (k_RI (fun v_2 h_2 => ?_))
  refine y_if_ne hB 9 dX2_removeFact_5 (by decide) (by omega) (fun c_5 => ?_) (fun c_5 => ?_)
  · refine y_iload_n hB 1 dX2_removeFact_9 rfl rfl ?_
    refine y_istore_n (lv' := [(2, .int (iI (u))), (0, .ref (ad b (q))), (1, .int (iI (u)))]) hB dX2_removeFact_10 rfl (by decide) rfl ?_
    have LOOP_11 : ∀ (N : Nat) (i : Int), (u ≤ i ∧ i ≤ C q 6 - 1) → C q 6 - i < (N : Int) → YM x G b 0 0 (shl3 C q u i) S 11 [(0, .ref (ad b (q))), (1, .int (iI (u))), (2, .int (iI (i)))] [] := by
      intro N
      induction N with
      | zero => intro i hi hm_11; exfalso; omega
      | succ N ih_11 =>
        intro i hi hm_11
        have hz : shl3 C q u i q 6 = C q 6 := shl3_q C q u i 6
        refine y_iload_n hB 2 dX2_removeFact_11 rfl rfl ?_
        refine y_aload_n hB 0 dX2_removeFact_12 rfl rfl ?_
        refine gt_2_6 hB (hq).1 (t1 := (shl3 C q u i) q 6) rfl dX2_removeFact_13 ?_
        refine y_iconst (v := 1) hB dX2_removeFact_16 rfl ?_
        refine y_isub (t := (shl3 C q u i) q 6 - 1) hB dX2_removeFact_17 (by omega) ?_
        refine y_icmp_ge hB 75 dX2_removeFact_18 (by decide) (by omega) (by omega) (fun c_18 => ?_) (fun c_18 => ?_)
        · refine y_aload_n hB 0 dX2_removeFact_75 rfl rfl ?_
          refine y_dup hB dX2_removeFact_76 rfl ?_
          refine gt_2_6 hB (hq).1 (t1 := (shl3 C q u i) q 6) rfl dX2_removeFact_77 ?_
          refine y_iconst (v := 1) hB dX2_removeFact_80 rfl ?_
          refine y_isub (t := (shl3 C q u i) q 6 - 1) hB dX2_removeFact_81 (by omega) ?_
          refine pt_2_6 hB (hq).1 dX2_removeFact_82 ?_
          exact m_wv hB hE dX2_removeFact_85 (by rw [hz, show i = C q 6 - 1 by omega])
        · refine y_iload_n hB 2 dX2_removeFact_21 rfl rfl ?_
          refine y_bipush (v := 7) hB dX2_removeFact_22 (by decide) ?_
          refine y_icmp_ge hB 75 dX2_removeFact_24 (by decide) (by omega) (by omega) (fun c_24 => ?_) (fun c_24 => ?_)
          · refine y_aload_n hB 0 dX2_removeFact_75 rfl rfl ?_
            refine y_dup hB dX2_removeFact_76 rfl ?_
            refine gt_2_6 hB (hq).1 (t1 := (shl3 C q u i) q 6) rfl dX2_removeFact_77 ?_
            refine y_iconst (v := 1) hB dX2_removeFact_80 rfl ?_
            refine y_isub (t := (shl3 C q u i) q 6 - 1) hB dX2_removeFact_81 (by omega) ?_
            refine pt_2_6 hB (hq).1 dX2_removeFact_82 ?_
            exact m_wv hB hE dX2_removeFact_85 (by rw [hz, show i = C q 6 - 1 by omega])
          · refine y_aload_n hB 0 dX2_removeFact_27 rfl rfl ?_
            refine gt_2_7 hB (hq).1 (t1 := q + 1) (by omega) dX2_removeFact_28 ?_
            refine y_iload_n hB 2 dX2_removeFact_31 rfl rfl ?_
            refine y_aload_n hB 0 dX2_removeFact_32 rfl rfl ?_
            refine gt_2_7 hB (hq).1 (t1 := q + 1) (by omega) dX2_removeFact_33 ?_
            refine y_iload_n hB 2 dX2_removeFact_36 rfl rfl ?_
            refine y_iconst (v := 1) hB dX2_removeFact_37 rfl ?_
            refine y_iadd (t := i + 1) hB dX2_removeFact_38 (by omega) ?_
            refine ald_6 hB (hq).2.1 (t1 := (shl3 C q u i) (q + 1) (i + 1)) (by omega) rfl dX2_removeFact_39 ?_
            refine ast_6 hB (hq).2.1 (by omega) dX2_removeFact_40 ?_
            refine y_aload_n hB 0 dX2_removeFact_41 rfl rfl ?_
            refine gt_2_8 hB (hq).1 (t1 := q + 2) (by omega) dX2_removeFact_42 ?_
            refine y_iload_n hB 2 dX2_removeFact_45 rfl rfl ?_
            refine y_aload_n hB 0 dX2_removeFact_46 rfl rfl ?_
            refine gt_2_8 hB (hq).1 (t1 := q + 2) (by omega) dX2_removeFact_47 ?_
            refine y_iload_n hB 2 dX2_removeFact_50 rfl rfl ?_
            refine y_iconst (v := 1) hB dX2_removeFact_51 rfl ?_
            refine y_iadd (t := i + 1) hB dX2_removeFact_52 (by omega) ?_
            refine ald_6 hB (hq).2.2.1 (t1 := (shl3 C q u i) (q + 2) (i + 1)) (by omega) (rd_k (by omega)) dX2_removeFact_53 ?_
            refine ast_6 hB (hq).2.2.1 (by omega) dX2_removeFact_54 ?_
            refine y_aload_n hB 0 dX2_removeFact_55 rfl rfl ?_
            refine gt_2_9 hB (hq).1 (t1 := q + 3) (by omega) dX2_removeFact_56 ?_
            refine y_iload_n hB 2 dX2_removeFact_59 rfl rfl ?_
            refine y_aload_n hB 0 dX2_removeFact_60 rfl rfl ?_
            refine gt_2_9 hB (hq).1 (t1 := q + 3) (by omega) dX2_removeFact_61 ?_
            refine y_iload_n hB 2 dX2_removeFact_64 rfl rfl ?_
            refine y_iconst (v := 1) hB dX2_removeFact_65 rfl ?_
            refine y_iadd (t := i + 1) hB dX2_removeFact_66 (by omega) ?_
            refine ald_6 hB (hq).2.2.2.1 (t1 := (shl3 C q u i) (q + 3) (i + 1)) (by omega) ((rd_k (by omega)).trans (rd_k (by omega))) dX2_removeFact_67 ?_
            refine ast_6 hB (hq).2.2.2.1 (by omega) dX2_removeFact_68 ?_
            refine y_iinc (v := i + 1) (lv' := [(2, .int (iI (i + 1))), (0, .ref (ad b (q))), (1, .int (iI (u)))]) hB 2 dX2_removeFact_69 rfl (by omega) (by decide) rfl ?_
            refine y_goto hB 11 dX2_removeFact_72 (by decide) ?_
            refine y_sub (lv' := [(0, .ref (ad b (q))), (1, .int (iI (u))), (2, .int (iI (i + 1)))]) [1, 2, 0] rfl ?_
            rw [shl3_s C q u i hi.1]
            exact ih_11 (i + 1) (by omega) (by omega)
    refine y_sub (lv' := [(0, .ref (ad b (q))), (1, .int (iI (u))), (2, .int (iI (u)))]) [1, 2, 0] rfl ?_
    rw [← shl3_0 C q u]
    exact LOOP_11 ((C q 6 - u).toNat + 1) u (by omega) (by omega)
  · exfalso
    omega
set_option maxHeartbeats 4000000 in
theorem tX2_copyLife (l : Launch) (G : gG) (b : Nat) (C S : gM) (q p : Int) (hq : isLife q) (hp : isLife p) (hd : p + 4 ≤ q ∨ q + 4 ≤ p) : Ct l G b yX2_copyLife cX2_copyLife 2 none rmX2_copyLife [.ref (ad b (q)), .ref (ad b (p))] 586 (wM G b C S) (WV G b S (fun C' => C' = cpL C q p)) := by
  refine CtK_of (by decide) (Nat.le_of_ble_eq_true rfl) q259 ?_
  intro x hl hB hE _
  subst hl
  show YM x G b 0 0 C S 0 [(0, .ref (ad b (q))), (1, .ref (ad b (p)))] []
  refine y_aload_n hB 0 dX2_copyLife_0 rfl rfl ?_
  refine y_aload_n hB 1 dX2_copyLife_1 rfl rfl ?_
  refine gt_2_0 hB (hp).1 (t1 := C p 0) rfl dX2_copyLife_2 ?_
  refine pt_2_0 hB (hq).1 dX2_copyLife_5 ?_
  refine y_aload_n hB 0 dX2_copyLife_8 rfl rfl ?_
  refine y_aload_n hB 1 dX2_copyLife_9 rfl rfl ?_
  refine gt_2_1 hB (hp).1 (t1 := C p 1) (rd_k (by omega)) dX2_copyLife_10 ?_
  refine pt_2_1 hB (hq).1 dX2_copyLife_13 ?_
  refine y_aload_n hB 0 dX2_copyLife_16 rfl rfl ?_
  refine y_aload_n hB 1 dX2_copyLife_17 rfl rfl ?_
  refine gt_2_2 hB (hp).1 (t1 := C p 2) ((rd_k (by omega)).trans (rd_k (by omega))) dX2_copyLife_18 ?_
  refine pt_2_2 hB (hq).1 dX2_copyLife_21 ?_
  refine y_aload_n hB 0 dX2_copyLife_24 rfl rfl ?_
  refine y_aload_n hB 1 dX2_copyLife_25 rfl rfl ?_
  refine gt_2_3 hB (hp).1 (t1 := C p 3) ((rd_k (by omega)).trans ((rd_k (by omega)).trans (rd_k (by omega)))) dX2_copyLife_26 ?_
  refine pt_2_3 hB (hq).1 dX2_copyLife_29 ?_
  refine y_aload_n hB 0 dX2_copyLife_32 rfl rfl ?_
  refine y_aload_n hB 1 dX2_copyLife_33 rfl rfl ?_
  refine gt_2_4 hB (hp).1 (t1 := C p 4) ((rd_k (by omega)).trans ((rd_k (by omega)).trans ((rd_k (by omega)).trans (rd_k (by omega))))) dX2_copyLife_34 ?_
  refine pt_2_4 hB (hq).1 dX2_copyLife_37 ?_
  refine y_aload_n hB 0 dX2_copyLife_40 rfl rfl ?_
  refine y_aload_n hB 1 dX2_copyLife_41 rfl rfl ?_
  refine gt_2_5 hB (hp).1 (t1 := C p 5) ((rd_k (by omega)).trans ((rd_k (by omega)).trans ((rd_k (by omega)).trans ((rd_k (by omega)).trans (rd_k (by omega)))))) dX2_copyLife_42 ?_
  refine pt_2_5 hB (hq).1 dX2_copyLife_45 ?_
  refine y_aload_n hB 0 dX2_copyLife_48 rfl rfl ?_
  refine y_aload_n hB 1 dX2_copyLife_49 rfl rfl ?_
  refine gt_2_6 hB (hp).1 (t1 := C p 6) ((rd_k (by omega)).trans ((rd_k (by omega)).trans ((rd_k (by omega)).trans ((rd_k (by omega)).trans ((rd_k (by omega)).trans (rd_k (by omega))))))) dX2_copyLife_50 ?_
  refine pt_2_6 hB (hq).1 dX2_copyLife_53 ?_
  refine y_aload_n hB 1 dX2_copyLife_56 rfl rfl ?_
  refine gt_2_7 hB (hp).1 (t1 := p + 1) (by omega) dX2_copyLife_57 ?_
  refine y_iconst (v := 0) hB dX2_copyLife_60 rfl ?_
  refine y_aload_n hB 0 dX2_copyLife_61 rfl rfl ?_
  refine gt_2_7 hB (hq).1 (t1 := q + 1) (by omega) dX2_copyLife_62 ?_
  refine y_iconst (v := 0) hB dX2_copyLife_65 rfl ?_
  refine y_bipush (v := 8) hB dX2_copyLife_66 (by decide) ?_
  refine cpy_6 hB (hp).2.1 (hq).2.1 q260 q251 q250 q44 (Nat.le_of_ble_eq_true rfl) (by decide) dX2_copyLife_68 ?_
  refine y_aload_n hB 1 dX2_copyLife_71 rfl rfl ?_
  refine gt_2_8 hB (hp).1 (t1 := p + 2) (by omega) dX2_copyLife_72 ?_
  refine y_iconst (v := 0) hB dX2_copyLife_75 rfl ?_
  refine y_aload_n hB 0 dX2_copyLife_76 rfl rfl ?_
  refine gt_2_8 hB (hq).1 (t1 := q + 2) (by omega) dX2_copyLife_77 ?_
  refine y_iconst (v := 0) hB dX2_copyLife_80 rfl ?_
  refine y_bipush (v := 8) hB dX2_copyLife_81 (by decide) ?_
  refine cpy_6 hB (hp).2.2.1 (hq).2.2.1 q260 q251 q250 q44 (Nat.le_of_ble_eq_true rfl) (by decide) dX2_copyLife_83 ?_
  refine y_aload_n hB 1 dX2_copyLife_86 rfl rfl ?_
  refine gt_2_9 hB (hp).1 (t1 := p + 3) (by omega) dX2_copyLife_87 ?_
  refine y_iconst (v := 0) hB dX2_copyLife_90 rfl ?_
  refine y_aload_n hB 0 dX2_copyLife_91 rfl rfl ?_
  refine gt_2_9 hB (hq).1 (t1 := q + 3) (by omega) dX2_copyLife_92 ?_
  refine y_iconst (v := 0) hB dX2_copyLife_95 rfl ?_
  refine y_bipush (v := 8) hB dX2_copyLife_96 (by decide) ?_
  refine cpy_6 hB (hp).2.2.2.1 (hq).2.2.2.1 q260 q251 q250 q44 (Nat.le_of_ble_eq_true rfl) (by decide) dX2_copyLife_98 ?_
  exact m_wv hB hE dX2_copyLife_101 (cpL_eq C hd)
end
section
/-! floats: the worth of a fact, no NaN -/
def c100 : UInt32 := 1120403456
def c09 : UInt32 := 1063675494
def wf (t : Int) : Nat → UInt32
  | 0 => FP.fdiv (FP.i2f (iI t)) c100
  | k + 1 => FP.fmul (wf t k) c09
/-- the worth of a fact: trust t, d days since it was checked -/
def WF (t d : Int) : UInt32 := wf t (d / 10).toNat
/-- 1 for stale, by the bound n -/
def stI (w bnd : UInt32) : Int := if cmpI (FP.fcmp w bnd) .g < 0 then 1 else 0
theorem stI_b (w bnd : UInt32) : 0 ≤ stI w bnd ∧ stI w bnd ≤ 1 := by unfold stI; split <;> omega
def fin32 (x : UInt32) : Prop := ∃ (c : Nat) (q : Int), FP.Core.val32 x = .fin false c q
def pos32 (x : UInt32) : Prop := FP.Core.val32 x = .inf false ∨ fin32 x
theorem fin_of_lt {x : UInt32} (h : x.toNat < 2139095040) : fin32 x := by
  unfold fin32 FP.Core.val32 FP.Core.decode
  have hE : FP.Core.fieldE FP.Core.b32 x.toNat = x.toNat / 8388608 % 256 := by
    show x.toNat / FP.Core.Fmt.tails FP.Core.b32 % FP.Core.Fmt.exps FP.Core.b32 = _
    rw [show FP.Core.Fmt.tails FP.Core.b32 = 8388608 by decide, show FP.Core.Fmt.exps FP.Core.b32 = 256 by decide]
  have hS : FP.Core.fieldS FP.Core.b32 x.toNat = false := by
    show (x.toNat / FP.Core.Fmt.tails FP.Core.b32 / FP.Core.Fmt.exps FP.Core.b32 % 2 == 1) = false
    rw [show FP.Core.Fmt.tails FP.Core.b32 = 8388608 by decide, show FP.Core.Fmt.exps FP.Core.b32 = 256 by decide]
    have : x.toNat / 8388608 / 256 % 2 = 0 := by omega
    rw [this]
    rfl
  rw [if_neg (by rw [hE, show FP.Core.Fmt.exps FP.Core.b32 - 1 = 255 by decide]; omega), hS]
  split
  · exact ⟨_, _, rfl⟩
  · exact ⟨_, _, rfl⟩
theorem vf_of_val {x : UInt32} (h : FP.Core.val32 x ≠ .nan) : vf_n32 x := by
  unfold vf_n32
  apply UInt32.not_lt.mp
  intro hlt
  apply h
  have hn : (x &&& 0x7fffffff).toNat = x.toNat % 2147483648 := by
    rw [UInt32.toNat_and]
    exact Nat.and_two_pow_sub_one_eq_mod x.toNat 31
  have h2 : 2139095040 < x.toNat % 2147483648 := by
    rw [← hn]
    exact UInt32.lt_iff_toNat_lt.mp hlt
  unfold FP.Core.val32 FP.Core.decode
  have hE : FP.Core.fieldE FP.Core.b32 x.toNat = x.toNat / 8388608 % 256 := by
    show x.toNat / FP.Core.Fmt.tails FP.Core.b32 % FP.Core.Fmt.exps FP.Core.b32 = _
    rw [show FP.Core.Fmt.tails FP.Core.b32 = 8388608 by decide, show FP.Core.Fmt.exps FP.Core.b32 = 256 by decide]
  have hT : FP.Core.fieldT FP.Core.b32 x.toNat = x.toNat % 8388608 := by
    show x.toNat % FP.Core.Fmt.tails FP.Core.b32 = _
    rw [show FP.Core.Fmt.tails FP.Core.b32 = 8388608 by decide]
  rw [if_pos (by rw [hE, show FP.Core.Fmt.exps FP.Core.b32 - 1 = 255 by decide]; omega), if_neg (by rw [hT]; omega)]
theorem pos_ne {x : UInt32} (h : pos32 x) : FP.Core.val32 x ≠ .nan := by
  rcases h with h | ⟨c, q, h⟩ <;> rw [h] <;> exact fun z => by cases z
theorem vf_pos {x : UInt32} (h : pos32 x) : vf_n32 x := vf_of_val (pos_ne h)
theorem round_pos (c : Nat) (q : Int) : FP.Core.round FP.Core.b32 (.fin false c q) = .inf false ∨ ∃ (c' : Nat) (q' : Int), FP.Core.round FP.Core.b32 (.fin false c q) = .fin false c' q' := by
  show FP.Core.roundRatio FP.Core.b32 false c 1 q = _ ∨ ∃ (c' : Nat) (q' : Int), FP.Core.roundRatio FP.Core.b32 false c 1 q = _
  unfold FP.Core.roundRatio
  split
  · exact Or.inr ⟨_, _, rfl⟩
  · unfold FP.Core.roundAt FP.Core.settle FP.Core.bound
    split
    · split
      · exact Or.inr ⟨_, _, rfl⟩
      · exact Or.inl rfl
    · split
      · exact Or.inr ⟨_, _, rfl⟩
      · exact Or.inl rfl
theorem pos_fmul {x y : UInt32} (hx : fin32 x) (hy : fin32 y) : pos32 (FP.fmul x y) := by
  obtain ⟨c, q, hx⟩ := hx
  obtain ⟨d, r, hy⟩ := hy
  unfold pos32 fin32
  show FP.Core.val32 (FP.Core.fmul x y) = _ ∨ ∃ (c' : Nat) (q' : Int), FP.Core.val32 (FP.Core.fmul x y) = _
  rw [FP.Core.val32_fmul, hx, hy]
  exact round_pos _ _
theorem pos_fadd {x y : UInt32} (hx : pos32 x) (hy : pos32 y) : pos32 (FP.fadd x y) := by
  unfold pos32 fin32
  show FP.Core.val32 (FP.Core.fadd x y) = _ ∨ ∃ (c' : Nat) (q' : Int), FP.Core.val32 (FP.Core.fadd x y) = _
  rw [FP.Core.val32_fadd]
  rcases hx with hx | ⟨c, q, hx⟩ <;> rcases hy with hy | ⟨d, r, hy⟩ <;> rw [hx, hy]
  · exact Or.inl rfl
  · exact Or.inl rfl
  · exact Or.inl rfl
  · show FP.Core.round FP.Core.b32 (.fin (FP.Core.sumSign false false (FP.Core.sumUnits false c q false d r (min q r))) _ _) = _ ∨ ∃ (c' : Nat) (q' : Int), FP.Core.round FP.Core.b32 (.fin (FP.Core.sumSign false false (FP.Core.sumUnits false c q false d r (min q r))) _ _) = _
    have hs : FP.Core.sumSign false false (FP.Core.sumUnits false c q false d r (min q r)) = false := by
      unfold FP.Core.sumSign
      split
      · rfl
      · refine decide_eq_false ?_
        show ¬ (FP.Core.signed false (FP.Core.inUnits c q (min q r)) + FP.Core.signed false (FP.Core.inUnits d r (min q r)) < 0)
        unfold FP.Core.signed
        simp only [Bool.false_eq_true, if_false]
        omega
    rw [hs]
    exact round_pos _ _
def runW : Nat → UInt32 → Bool
  | 0, x => decide (x.toNat < 2139095040)
  | k + 1, x => decide (x.toNat < 2139095040) && runW k (FP.fmul x c09)
theorem runW_at : ∀ (n : Nat) (t : Int) (j k : Nat), runW n (wf t j) = true → k ≤ n → (wf t (j + k)).toNat < 2139095040 := by
  intro n
  induction n with
  | zero =>
    intro t j k h hk
    obtain rfl : k = 0 := by omega
    exact of_decide_eq_true h
  | succ n ih =>
    intro t j k h hk
    have h1 := Bool.and_eq_true_iff.mp h
    cases k with
    | zero => exact of_decide_eq_true h1.1
    | succ k =>
      rw [show j + (k + 1) = (j + 1) + k by omega]
      exact ih t (j + 1) k h1.2 (by omega)
theorem runW_0 : (List.range 25).all (fun t => runW 152 (wf (t : Int) 0)) = true := by decide +kernel
theorem runW_1 : (List.range 25).all (fun t => runW 152 (wf ((t : Int) + 25) 0)) = true := by decide +kernel
theorem runW_2 : (List.range 25).all (fun t => runW 152 (wf ((t : Int) + 50) 0)) = true := by decide +kernel
theorem runW_3 : (List.range 26).all (fun t => runW 152 (wf ((t : Int) + 75) 0)) = true := by decide +kernel
theorem runW_all {t : Int} (h : 0 ≤ t ∧ t ≤ 100) : runW 152 (wf t 0) = true := by
  have key : ∀ (s : Int) (m : Nat), (List.range m).all (fun t => runW 152 (wf ((t : Int) + s) 0)) = true → s ≤ t → t < s + m → runW 152 (wf t 0) = true := by
    intro s m h0 h1 h2
    have h3 := List.all_eq_true.mp h0 (t - s).toNat (List.mem_range.mpr (by omega))
    rwa [show (((t - s).toNat : Nat) : Int) + s = t by omega] at h3
  rcases (show t < 25 ∨ (25 ≤ t ∧ t < 50) ∨ (50 ≤ t ∧ t < 75) ∨ 75 ≤ t by omega) with h9 | h9 | h9 | h9
  · exact key 0 25 (by simpa using runW_0) h.1 (by omega)
  · exact key 25 25 runW_1 h9.1 (by omega)
  · exact key 50 25 runW_2 h9.1 (by omega)
  · exact key 75 26 runW_3 h9 (by omega)
theorem fin_wf {t : Int} {k : Nat} (h : 0 ≤ t ∧ t ≤ 100) (hk : k ≤ 152) : fin32 (wf t k) := by
  have := runW_at 152 t 0 k (runW_all h) hk
  rw [Nat.zero_add] at this
  exact fin_of_lt this
theorem fin_WF {t d : Int} (h : 0 ≤ t ∧ t ≤ 100) (hd : d ≤ 1520) : fin32 (WF t d) := fin_wf h (by omega)
theorem fin_pos {x : UInt32} (h : fin32 x) : pos32 x := Or.inr h
theorem fin_c09 : fin32 c09 := fin_of_lt (by decide)
theorem fin_c100 : fin32 c100 := fin_of_lt (by decide)
theorem fin_lines {n : Int} (h : 0 ≤ n ∧ n ≤ 9) : fin32 (FP.i2f (iI n)) := by
  have h1 := co_all (P := fun n => (FP.i2f (iI n)).toNat < 2139095040) 10 (by decide +kernel) (i := n) (by omega)
  exact fin_of_lt h1
theorem pos_0 : pos32 FP.fconst0 := fin_pos (fin_of_lt (by decide))
def wsum (f : Int → UInt32) : Nat → UInt32
  | 0 => FP.fconst0
  | n + 1 => FP.fadd (wsum f n) (f n)
def wsI (f : Int → UInt32) (n : Int) : UInt32 := wsum f n.toNat
theorem wsI_0 (f : Int → UInt32) : wsI f 0 = FP.fconst0 := rfl
theorem wsI_s (f : Int → UInt32) {i : Int} (h : 0 ≤ i) : wsI f (i + 1) = FP.fadd (wsI f i) (f i) := by
  unfold wsI
  rw [show (i + 1).toNat = i.toNat + 1 by omega]
  show FP.fadd (wsum f i.toNat) (f (i.toNat : Int)) = _
  rw [Int.toNat_of_nonneg h]
theorem wsI_congr {f g : Int → UInt32} {n : Int} (h : ∀ j, 0 ≤ j → j < n → f j = g j) : wsI f n = wsI g n := by
  unfold wsI
  have key : ∀ m : Nat, (m : Int) ≤ n ∨ m = 0 → wsum f m = wsum g m := by
    intro m
    induction m with
    | zero => intro _; rfl
    | succ m ih =>
      intro hm
      show FP.fadd (wsum f m) (f m) = FP.fadd (wsum g m) (g m)
      rw [ih (by omega), h m (by omega) (by omega)]
  exact key _ (by omega)
theorem pos_wsI {f : Int → UInt32} {n : Int} (h : ∀ j, 0 ≤ j → j < n → pos32 (f j)) : pos32 (wsI f n) := by
  unfold wsI
  have key : ∀ m : Nat, (m : Int) ≤ n ∨ m = 0 → pos32 (wsum f m) := by
    intro m
    induction m with
    | zero => intro _; exact pos_0
    | succ m ih =>
      intro hm
      exact pos_fadd (ih (by omega)) (h m (by omega) (by omega))
  exact key _ (by omega)
end
