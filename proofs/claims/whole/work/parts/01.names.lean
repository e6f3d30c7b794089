-- ===== PART A: goes FIRST, ahead of the names: the tables' words, and 'selects' of the private methods out of them =====
/-- a private method of a class that the tables say can be made, by its rows of tables_1 -/
def lw_okq (q : MethodName × Nat) : Prop := (q.1.cls ≠ "java/lang/invoke/MethodHandle" ∧ q.1.cls ≠ "java/lang/invoke/VarHandle") ∧ Cond.instantiable q.1.cls q.2 ∈ tables_1 ∧ Cond.privateMethod q.1 ∈ tables_1 ∧ Cond.instanceMethod q.1 ∈ tables_1
theorem lw_p0 : lw_okq (⟨"RecordBox$Till", "owed", "()I"⟩, 8) := ⟨⟨by decide +kernel, by decide +kernel⟩, List.mem_of_getElem? (i := 93) (by decide +kernel), List.mem_of_getElem? (i := 310) (by decide +kernel), List.mem_of_getElem? (i := 311) (by decide +kernel)⟩
theorem lw_p1 : lw_okq (⟨"RecordBox", "keyInVain", "()I"⟩, 8) := ⟨⟨by decide +kernel, by decide +kernel⟩, List.mem_of_getElem? (i := 12) (by decide +kernel), List.mem_of_getElem? (i := 325) (by decide +kernel), List.mem_of_getElem? (i := 326) (by decide +kernel)⟩
theorem lw_p2 : lw_okq (⟨"RecordBox$Works", "look", "()V"⟩, 16) := ⟨⟨by decide +kernel, by decide +kernel⟩, List.mem_of_getElem? (i := 20) (by decide +kernel), List.mem_of_getElem? (i := 342) (by decide +kernel), List.mem_of_getElem? (i := 343) (by decide +kernel)⟩
theorem lw_p3 : lw_okq (⟨"RecordBox$Works", "goOn", "()V"⟩, 16) := ⟨⟨by decide +kernel, by decide +kernel⟩, List.mem_of_getElem? (i := 20) (by decide +kernel), List.mem_of_getElem? (i := 350) (by decide +kernel), List.mem_of_getElem? (i := 351) (by decide +kernel)⟩
theorem lw_p4 : lw_okq (⟨"RecordBox$Works", "endStep", "()V"⟩, 16) := ⟨⟨by decide +kernel, by decide +kernel⟩, List.mem_of_getElem? (i := 20) (by decide +kernel), List.mem_of_getElem? (i := 357) (by decide +kernel), List.mem_of_getElem? (i := 358) (by decide +kernel)⟩
theorem lw_p5 : lw_okq (⟨"RecordBox$Works", "play", "()V"⟩, 16) := ⟨⟨by decide +kernel, by decide +kernel⟩, List.mem_of_getElem? (i := 20) (by decide +kernel), List.mem_of_getElem? (i := 362) (by decide +kernel), List.mem_of_getElem? (i := 363) (by decide +kernel)⟩
theorem lw_p6 : lw_okq (⟨"RecordBox", "wireRefusal", "(IIIII)I"⟩, 8) := ⟨⟨by decide +kernel, by decide +kernel⟩, List.mem_of_getElem? (i := 12) (by decide +kernel), List.mem_of_getElem? (i := 445) (by decide +kernel), List.mem_of_getElem? (i := 446) (by decide +kernel)⟩
theorem lw_p7 : lw_okq (⟨"RecordBox$Tape", "readAct", "()I"⟩, 6) := ⟨⟨by decide +kernel, by decide +kernel⟩, List.mem_of_getElem? (i := 169) (by decide +kernel), List.mem_of_getElem? (i := 493) (by decide +kernel), List.mem_of_getElem? (i := 494) (by decide +kernel)⟩
theorem lw_p8 : lw_okq (⟨"RecordBox$Tape", "peek", "()I"⟩, 6) := ⟨⟨by decide +kernel, by decide +kernel⟩, List.mem_of_getElem? (i := 169) (by decide +kernel), List.mem_of_getElem? (i := 497) (by decide +kernel), List.mem_of_getElem? (i := 498) (by decide +kernel)⟩
theorem lw_p9 : lw_okq (⟨"RecordBox$Tape", "readSide", "(I)I"⟩, 6) := ⟨⟨by decide +kernel, by decide +kernel⟩, List.mem_of_getElem? (i := 169) (by decide +kernel), List.mem_of_getElem? (i := 501) (by decide +kernel), List.mem_of_getElem? (i := 502) (by decide +kernel)⟩
theorem lw_p10 : lw_okq (⟨"RecordBox$Tape", "addAct", "(II)V"⟩, 6) := ⟨⟨by decide +kernel, by decide +kernel⟩, List.mem_of_getElem? (i := 169) (by decide +kernel), List.mem_of_getElem? (i := 505) (by decide +kernel), List.mem_of_getElem? (i := 506) (by decide +kernel)⟩
theorem lw_p11 : lw_okq (⟨"RecordBox$Tape", "readNumber", "(II)I"⟩, 6) := ⟨⟨by decide +kernel, by decide +kernel⟩, List.mem_of_getElem? (i := 169) (by decide +kernel), List.mem_of_getElem? (i := 509) (by decide +kernel), List.mem_of_getElem? (i := 510) (by decide +kernel)⟩
theorem lw_p12 : lw_okq (⟨"RecordBoxModel", "isRecord", "(I)Z"⟩, 19) := ⟨⟨by decide +kernel, by decide +kernel⟩, List.mem_of_getElem? (i := 550) (by decide +kernel), List.mem_of_getElem? (i := 630) (by decide +kernel), List.mem_of_getElem? (i := 631) (by decide +kernel)⟩
theorem lw_p13 : lw_okq (⟨"RecordBoxModel", "placeOf", "(I)I"⟩, 19) := ⟨⟨by decide +kernel, by decide +kernel⟩, List.mem_of_getElem? (i := 550) (by decide +kernel), List.mem_of_getElem? (i := 634) (by decide +kernel), List.mem_of_getElem? (i := 635) (by decide +kernel)⟩
theorem lw_p14 : lw_okq (⟨"RecordBoxModel", "isOut", "(I)Z"⟩, 19) := ⟨⟨by decide +kernel, by decide +kernel⟩, List.mem_of_getElem? (i := 550) (by decide +kernel), List.mem_of_getElem? (i := 638) (by decide +kernel), List.mem_of_getElem? (i := 639) (by decide +kernel)⟩
theorem lw_p15 : lw_okq (⟨"RecordBoxModel", "owes", "()I"⟩, 19) := ⟨⟨by decide +kernel, by decide +kernel⟩, List.mem_of_getElem? (i := 550) (by decide +kernel), List.mem_of_getElem? (i := 670) (by decide +kernel), List.mem_of_getElem? (i := 671) (by decide +kernel)⟩
def lw_privs_1 : List (MethodName × Nat) := [(⟨"RecordBox$Till", "owed", "()I"⟩, 8), (⟨"RecordBox", "keyInVain", "()I"⟩, 8), (⟨"RecordBox$Works", "look", "()V"⟩, 16), (⟨"RecordBox$Works", "goOn", "()V"⟩, 16), (⟨"RecordBox$Works", "endStep", "()V"⟩, 16), (⟨"RecordBox$Works", "play", "()V"⟩, 16), (⟨"RecordBox", "wireRefusal", "(IIIII)I"⟩, 8), (⟨"RecordBox$Tape", "readAct", "()I"⟩, 6), (⟨"RecordBox$Tape", "peek", "()I"⟩, 6), (⟨"RecordBox$Tape", "readSide", "(I)I"⟩, 6), (⟨"RecordBox$Tape", "addAct", "(II)V"⟩, 6), (⟨"RecordBox$Tape", "readNumber", "(II)I"⟩, 6), (⟨"RecordBoxModel", "isRecord", "(I)Z"⟩, 19), (⟨"RecordBoxModel", "placeOf", "(I)I"⟩, 19), (⟨"RecordBoxModel", "isOut", "(I)Z"⟩, 19), (⟨"RecordBoxModel", "owes", "()I"⟩, 19)]
theorem lw_r1 : ∀ q ∈ lw_privs_1, lw_okq q := List.forall_mem_cons.mpr ⟨lw_p0, List.forall_mem_cons.mpr ⟨lw_p1, List.forall_mem_cons.mpr ⟨lw_p2, List.forall_mem_cons.mpr ⟨lw_p3, List.forall_mem_cons.mpr ⟨lw_p4, List.forall_mem_cons.mpr ⟨lw_p5, List.forall_mem_cons.mpr ⟨lw_p6, List.forall_mem_cons.mpr ⟨lw_p7, List.forall_mem_cons.mpr ⟨lw_p8, List.forall_mem_cons.mpr ⟨lw_p9, List.forall_mem_cons.mpr ⟨lw_p10, List.forall_mem_cons.mpr ⟨lw_p11, List.forall_mem_cons.mpr ⟨lw_p12, List.forall_mem_cons.mpr ⟨lw_p13, List.forall_mem_cons.mpr ⟨lw_p14, List.forall_mem_cons.mpr ⟨lw_p15, fun _ h => absurd h List.not_mem_nil⟩⟩⟩⟩⟩⟩⟩⟩⟩⟩⟩⟩⟩⟩⟩⟩
theorem lw_p16 : lw_okq (⟨"RecordBoxModel", "tick", "()V"⟩, 19) := ⟨⟨by decide +kernel, by decide +kernel⟩, List.mem_of_getElem? (i := 550) (by decide +kernel), List.mem_of_getElem? (i := 688) (by decide +kernel), List.mem_of_getElem? (i := 689) (by decide +kernel)⟩
theorem lw_p17 : lw_okq (⟨"RecordBoxModel", "pinsIn", "()I"⟩, 19) := ⟨⟨by decide +kernel, by decide +kernel⟩, List.mem_of_getElem? (i := 550) (by decide +kernel), List.mem_of_getElem? (i := 692) (by decide +kernel), List.mem_of_getElem? (i := 693) (by decide +kernel)⟩
theorem lw_p18 : lw_okq (⟨"RecordBoxModel", "look", "()V"⟩, 19) := ⟨⟨by decide +kernel, by decide +kernel⟩, List.mem_of_getElem? (i := 550) (by decide +kernel), List.mem_of_getElem? (i := 696) (by decide +kernel), List.mem_of_getElem? (i := 697) (by decide +kernel)⟩
theorem lw_p19 : lw_okq (⟨"RecordBoxModel", "songHere", "()I"⟩, 19) := ⟨⟨by decide +kernel, by decide +kernel⟩, List.mem_of_getElem? (i := 550) (by decide +kernel), List.mem_of_getElem? (i := 700) (by decide +kernel), List.mem_of_getElem? (i := 701) (by decide +kernel)⟩
theorem lw_p20 : lw_okq (⟨"RecordBoxModel", "does", "(II)V"⟩, 19) := ⟨⟨by decide +kernel, by decide +kernel⟩, List.mem_of_getElem? (i := 550) (by decide +kernel), List.mem_of_getElem? (i := 704) (by decide +kernel), List.mem_of_getElem? (i := 705) (by decide +kernel)⟩
theorem lw_p21 : lw_okq (⟨"RecordBoxModel", "goOn", "()V"⟩, 19) := ⟨⟨by decide +kernel, by decide +kernel⟩, List.mem_of_getElem? (i := 550) (by decide +kernel), List.mem_of_getElem? (i := 708) (by decide +kernel), List.mem_of_getElem? (i := 709) (by decide +kernel)⟩
theorem lw_p22 : lw_okq (⟨"RecordBoxModel", "play", "()V"⟩, 19) := ⟨⟨by decide +kernel, by decide +kernel⟩, List.mem_of_getElem? (i := 550) (by decide +kernel), List.mem_of_getElem? (i := 712) (by decide +kernel), List.mem_of_getElem? (i := 713) (by decide +kernel)⟩
theorem lw_p23 : lw_okq (⟨"RecordBoxModel", "foretell", "()V"⟩, 19) := ⟨⟨by decide +kernel, by decide +kernel⟩, List.mem_of_getElem? (i := 550) (by decide +kernel), List.mem_of_getElem? (i := 730) (by decide +kernel), List.mem_of_getElem? (i := 731) (by decide +kernel)⟩
theorem lw_p24 : lw_okq (⟨"RecordBoxModel", "keep", "([I)V"⟩, 19) := ⟨⟨by decide +kernel, by decide +kernel⟩, List.mem_of_getElem? (i := 550) (by decide +kernel), List.mem_of_getElem? (i := 734) (by decide +kernel), List.mem_of_getElem? (i := 735) (by decide +kernel)⟩
theorem lw_p25 : lw_okq (⟨"RecordBoxModel", "bring", "([I)V"⟩, 19) := ⟨⟨by decide +kernel, by decide +kernel⟩, List.mem_of_getElem? (i := 550) (by decide +kernel), List.mem_of_getElem? (i := 738) (by decide +kernel), List.mem_of_getElem? (i := 739) (by decide +kernel)⟩
theorem lw_p26 : lw_okq (⟨"RecordBoxModel", "isStuckIn", "()Z"⟩, 19) := ⟨⟨by decide +kernel, by decide +kernel⟩, List.mem_of_getElem? (i := 550) (by decide +kernel), List.mem_of_getElem? (i := 750) (by decide +kernel), List.mem_of_getElem? (i := 751) (by decide +kernel)⟩
theorem lw_p27 : lw_okq (⟨"RecordBoxModel", "hear", "(IIIII)I"⟩, 19) := ⟨⟨by decide +kernel, by decide +kernel⟩, List.mem_of_getElem? (i := 550) (by decide +kernel), List.mem_of_getElem? (i := 762) (by decide +kernel), List.mem_of_getElem? (i := 763) (by decide +kernel)⟩
theorem lw_p28 : lw_okq (⟨"RecordBoxModel", "lacksRow", "(IIII)I"⟩, 19) := ⟨⟨by decide +kernel, by decide +kernel⟩, List.mem_of_getElem? (i := 550) (by decide +kernel), List.mem_of_getElem? (i := 769) (by decide +kernel), List.mem_of_getElem? (i := 770) (by decide +kernel)⟩
theorem lw_p29 : lw_okq (⟨"RecordBoxModel", "readAct", "()Z"⟩, 19) := ⟨⟨by decide +kernel, by decide +kernel⟩, List.mem_of_getElem? (i := 550) (by decide +kernel), List.mem_of_getElem? (i := 796) (by decide +kernel), List.mem_of_getElem? (i := 797) (by decide +kernel)⟩
theorem lw_p30 : lw_okq (⟨"RecordBoxModel", "nextByte", "()I"⟩, 19) := ⟨⟨by decide +kernel, by decide +kernel⟩, List.mem_of_getElem? (i := 550) (by decide +kernel), List.mem_of_getElem? (i := 800) (by decide +kernel), List.mem_of_getElem? (i := 801) (by decide +kernel)⟩
theorem lw_p31 : lw_okq (⟨"RecordBoxModel", "readNumber", "(I)I"⟩, 19) := ⟨⟨by decide +kernel, by decide +kernel⟩, List.mem_of_getElem? (i := 550) (by decide +kernel), List.mem_of_getElem? (i := 806) (by decide +kernel), List.mem_of_getElem? (i := 807) (by decide +kernel)⟩
def lw_privs_2 : List (MethodName × Nat) := [(⟨"RecordBoxModel", "tick", "()V"⟩, 19), (⟨"RecordBoxModel", "pinsIn", "()I"⟩, 19), (⟨"RecordBoxModel", "look", "()V"⟩, 19), (⟨"RecordBoxModel", "songHere", "()I"⟩, 19), (⟨"RecordBoxModel", "does", "(II)V"⟩, 19), (⟨"RecordBoxModel", "goOn", "()V"⟩, 19), (⟨"RecordBoxModel", "play", "()V"⟩, 19), (⟨"RecordBoxModel", "foretell", "()V"⟩, 19), (⟨"RecordBoxModel", "keep", "([I)V"⟩, 19), (⟨"RecordBoxModel", "bring", "([I)V"⟩, 19), (⟨"RecordBoxModel", "isStuckIn", "()Z"⟩, 19), (⟨"RecordBoxModel", "hear", "(IIIII)I"⟩, 19), (⟨"RecordBoxModel", "lacksRow", "(IIII)I"⟩, 19), (⟨"RecordBoxModel", "readAct", "()Z"⟩, 19), (⟨"RecordBoxModel", "nextByte", "()I"⟩, 19), (⟨"RecordBoxModel", "readNumber", "(I)I"⟩, 19)]
theorem lw_r2 : ∀ q ∈ lw_privs_2, lw_okq q := List.forall_mem_cons.mpr ⟨lw_p16, List.forall_mem_cons.mpr ⟨lw_p17, List.forall_mem_cons.mpr ⟨lw_p18, List.forall_mem_cons.mpr ⟨lw_p19, List.forall_mem_cons.mpr ⟨lw_p20, List.forall_mem_cons.mpr ⟨lw_p21, List.forall_mem_cons.mpr ⟨lw_p22, List.forall_mem_cons.mpr ⟨lw_p23, List.forall_mem_cons.mpr ⟨lw_p24, List.forall_mem_cons.mpr ⟨lw_p25, List.forall_mem_cons.mpr ⟨lw_p26, List.forall_mem_cons.mpr ⟨lw_p27, List.forall_mem_cons.mpr ⟨lw_p28, List.forall_mem_cons.mpr ⟨lw_p29, List.forall_mem_cons.mpr ⟨lw_p30, List.forall_mem_cons.mpr ⟨lw_p31, fun _ h => absurd h List.not_mem_nil⟩⟩⟩⟩⟩⟩⟩⟩⟩⟩⟩⟩⟩⟩⟩⟩
def lw_privs : List (MethodName × Nat) := lw_privs_1 ++ (lw_privs_2)
def lw_tbl : List Cond := k2_sels lw_privs ++ tables_1
theorem lw_privs_ok : ∀ q ∈ lw_privs, lw_okq q := by
  show ∀ q ∈ lw_privs_1 ++ (lw_privs_2), lw_okq q
  exact List.forall_mem_append.mpr ⟨lw_r1, lw_r2⟩
def RX0 : String := "RecordBox$Outlook"
def TX0 : u_T := fun k => match k with
  | 0 => ("RecordBox$Outlook", "trial", "LRecordBox$Works;", true)
  | 1 => ("RecordBox$Outlook", "songs", "[I", true)
  | 2 => ("RecordBox$Outlook", "starts", "[I", true)
  | 3 => ("RecordBox$Outlook", "told", "I", false)
  | 4 => ("RecordBox$Outlook", "songsKnown", "Z", false)
  | 5 => ("RecordBox$Outlook", "lesser", "I", false)
  | 6 => ("RecordBox$Outlook", "other", "I", false)
  | 7 => ("RecordBox$Outlook", "soonest", "I", false)
  | _ => ("RecordBox$Outlook", "pairKnown", "Z", false)
def tyX0 : Nat → FieldType := fun k => match k with
  | 0 => .object "RecordBox$Works"
  | 1 => .array .int
  | 2 => .array .int
  | 3 => .int
  | 4 => .boolean
  | 5 => .int
  | 6 => .int
  | 7 => .int
  | _ => .boolean
abbrev wsX00 : List Cond := u_ws RX0 TX0 9
theorem nmX0 : ∀ a, a < 9 → ∀ b, b < 9 → a ≠ b → (TX0 a).2.1 ≠ (TX0 b).2.1 := by decide +kernel
theorem tyX0_ok : ∀ k, k < 9 → parseFieldDescriptor (TX0 k).2.2.1 = some (tyX0 k) := by decide +kernel
abbrev cX0_init : ByteArray := prog_2_method_1_code
def yX0_init : MethodName := ⟨RX0, "<init>", "()V"⟩
abbrev cX0_forget : ByteArray := prog_2_method_2_code
def yX0_forget : MethodName := ⟨RX0, "forget", "()V"⟩
abbrev cX0_foresee : ByteArray := prog_2_method_3_code
def yX0_foresee : MethodName := ⟨RX0, "foresee", "(LRecordBox$Works;)V"⟩
abbrev cX0_startOf : ByteArray := prog_2_method_4_code
def yX0_startOf : MethodName := ⟨RX0, "startOf", "(I)I"⟩
abbrev cX0_doneBy : ByteArray := prog_2_method_5_code
def yX0_doneBy : MethodName := ⟨RX0, "doneBy", "(LRecordBox$Works;II)I"⟩
abbrev cX0_seekPair : ByteArray := prog_2_method_6_code
def yX0_seekPair : MethodName := ⟨RX0, "seekPair", "(LRecordBox$Works;)V"⟩
abbrev cX0_mayHelp : ByteArray := prog_2_method_7_code
def yX0_mayHelp : MethodName := ⟨RX0, "mayHelp", "(LRecordBox$Works;II)Z"⟩
def RX1 : String := "RecordBox$Sheet"
def TX1 : u_T := fun k => match k with
  | 0 => ("RecordBox$Sheet", "lane", "I", false)
  | 1 => ("RecordBox$Sheet", "size", "I", false)
  | _ => ("RecordBox$Sheet", "items", "[I", true)
def tyX1 : Nat → FieldType := fun k => match k with
  | 0 => .int
  | 1 => .int
  | _ => .array .int
abbrev wsX10 : List Cond := u_ws RX1 TX1 3
theorem nmX1 : ∀ a, a < 3 → ∀ b, b < 3 → a ≠ b → (TX1 a).2.1 ≠ (TX1 b).2.1 := by decide +kernel
theorem tyX1_ok : ∀ k, k < 3 → parseFieldDescriptor (TX1 k).2.2.1 = some (tyX1 k) := by decide +kernel
abbrev cX1_init : ByteArray := prog_3_method_1_code
def yX1_init : MethodName := ⟨RX1, "<init>", "()V"⟩
abbrev cX1_hold : ByteArray := prog_3_method_2_code
def yX1_hold : MethodName := ⟨RX1, "hold", "(II)V"⟩
abbrev cX1_refusalAs : ByteArray := prog_3_method_3_code
def yX1_refusalAs : MethodName := ⟨RX1, "refusalAs", "(I)I"⟩
abbrev cX1_write : ByteArray := prog_3_method_4_code
def yX1_write : MethodName := ⟨RX1, "write", "(II)V"⟩
abbrev cX1_areTimes : ByteArray := prog_3_method_5_code
def yX1_areTimes : MethodName := ⟨RX1, "areTimes", "(II)Z"⟩
abbrev cX1_onlyGap : ByteArray := prog_3_method_6_code
def yX1_onlyGap : MethodName := ⟨RX1, "onlyGap", "(III)I"⟩
def RX2 : String := "RecordBox$Tape"
def TX2 : u_T := fun k => match k with
  | 0 => ("RecordBox$Tape", "signs", "[B", true)
  | 1 => ("RecordBox$Tape", "length", "I", false)
  | 2 => ("RecordBox$Tape", "at", "I", false)
  | 3 => ("RecordBox$Tape", "kinds", "[I", true)
  | 4 => ("RecordBox$Tape", "values", "[I", true)
  | _ => ("RecordBox$Tape", "acts", "I", false)
def tyX2 : Nat → FieldType := fun k => match k with
  | 0 => .array .byte
  | 1 => .int
  | 2 => .int
  | 3 => .array .int
  | 4 => .array .int
  | _ => .int
abbrev wsX20 : List Cond := u_ws RX2 TX2 6
theorem nmX2 : ∀ a, a < 6 → ∀ b, b < 6 → a ≠ b → (TX2 a).2.1 ≠ (TX2 b).2.1 := by decide +kernel
theorem tyX2_ok : ∀ k, k < 6 → parseFieldDescriptor (TX2 k).2.2.1 = some (tyX2 k) := by decide +kernel
abbrev cX2_init : ByteArray := prog_4_method_1_code
def yX2_init : MethodName := ⟨RX2, "<init>", "()V"⟩
abbrev cX2_append : ByteArray := prog_4_method_2_code
def yX2_append : MethodName := ⟨RX2, "append", "(I)V"⟩
abbrev cX2_readActs : ByteArray := prog_4_method_3_code
def yX2_readActs : MethodName := ⟨RX2, "readActs", "()I"⟩
abbrev cX2_readAct : ByteArray := prog_4_method_4_code
def yX2_readAct : MethodName := ⟨RX2, "readAct", "()I"⟩
abbrev cX2_readSide : ByteArray := prog_4_method_5_code
def yX2_readSide : MethodName := ⟨RX2, "readSide", "(I)I"⟩
abbrev cX2_readNumber : ByteArray := prog_4_method_6_code
def yX2_readNumber : MethodName := ⟨RX2, "readNumber", "(II)I"⟩
abbrev cX2_peek : ByteArray := prog_4_method_7_code
def yX2_peek : MethodName := ⟨RX2, "peek", "()I"⟩
abbrev cX2_addAct : ByteArray := prog_4_method_8_code
def yX2_addAct : MethodName := ⟨RX2, "addAct", "(II)V"⟩
def RX3 : String := "RecordBox$Till"
def TX3 : u_T := fun k => match k with
  | 0 => ("RecordBox$Till", "price", "I", false)
  | 1 => ("RecordBox$Till", "bargain", "I", false)
  | 2 => ("RecordBox$Till", "bargainSongs", "I", false)
  | 3 => ("RecordBox$Till", "sum", "I", false)
  | 4 => ("RecordBox$Till", "credits", "I", false)
  | 5 => ("RecordBox$Till", "lost", "I", false)
  | 6 => ("RecordBox$Till", "taken", "I", false)
  | _ => ("RecordBox$Till", "kindness", "I", false)
def tyX3 : Nat → FieldType := fun k => match k with
  | 0 => .int
  | 1 => .int
  | 2 => .int
  | 3 => .int
  | 4 => .int
  | 5 => .int
  | 6 => .int
  | _ => .int
abbrev wsX30 : List Cond := u_ws RX3 TX3 8
theorem nmX3 : ∀ a, a < 8 → ∀ b, b < 8 → a ≠ b → (TX3 a).2.1 ≠ (TX3 b).2.1 := by decide +kernel
theorem tyX3_ok : ∀ k, k < 8 → parseFieldDescriptor (TX3 k).2.2.1 = some (tyX3 k) := by decide +kernel
abbrev cX3_init : ByteArray := prog_5_method_1_code
def yX3_init : MethodName := ⟨RX3, "<init>", "()V"⟩
abbrev cX3_copyFrom : ByteArray := prog_5_method_2_code
def yX3_copyFrom : MethodName := ⟨RX3, "copyFrom", "(LRecordBox$Till;)V"⟩
abbrev cX3_newPrices : ByteArray := prog_5_method_3_code
def yX3_newPrices : MethodName := ⟨RX3, "newPrices", "(III)V"⟩
abbrev cX3_take : ByteArray := prog_5_method_4_code
def yX3_take : MethodName := ⟨RX3, "take", "(I)V"⟩
abbrev cX3_owed : ByteArray := prog_5_method_5_code
def yX3_owed : MethodName := ⟨RX3, "owed", "()I"⟩
def RX4 : String := "RecordBox$Works"
def TX4 : u_T := fun k => match k with
  | 0 => ("RecordBox$Works", "records", "I", false)
  | 1 => ("RecordBox$Works", "times", "[I", true)
  | 2 => ("RecordBox$Works", "wear", "[I", true)
  | 3 => ("RecordBox$Works", "rack", "[I", true)
  | 4 => ("RecordBox$Works", "meters", "[I", true)
  | 5 => ("RecordBox$Works", "pinsIn", "I", false)
  | 6 => ("RecordBox$Works", "stuckIn", "I", false)
  | 7 => ("RecordBox$Works", "stuckOut", "I", false)
  | 8 => ("RecordBox$Works", "groove", "I", false)
  | 9 => ("RecordBox$Works", "now", "I", false)
  | 10 => ("RecordBox$Works", "place", "I", false)
  | 11 => ("RecordBox$Works", "up", "Z", false)
  | 12 => ("RecordBox$Works", "doing", "I", false)
  | 13 => ("RecordBox$Works", "ticksLeft", "I", false)
  | 14 => ("RecordBox$Works", "played", "I", false)
  | _ => ("RecordBox$Works", "misses", "I", false)
def tyX4 : Nat → FieldType := fun k => match k with
  | 0 => .int
  | 1 => .array .int
  | 2 => .array .int
  | 3 => .array .int
  | 4 => .array .int
  | 5 => .int
  | 6 => .int
  | 7 => .int
  | 8 => .int
  | 9 => .int
  | 10 => .int
  | 11 => .boolean
  | 12 => .int
  | 13 => .int
  | 14 => .int
  | _ => .int
abbrev wsX40 : List Cond := u_ws RX4 TX4 16
theorem nmX4 : ∀ a, a < 16 → ∀ b, b < 16 → a ≠ b → (TX4 a).2.1 ≠ (TX4 b).2.1 := by decide +kernel
theorem tyX4_ok : ∀ k, k < 16 → parseFieldDescriptor (TX4 k).2.2.1 = some (tyX4 k) := by decide +kernel
abbrev cX4_init : ByteArray := prog_6_method_1_code
def yX4_init : MethodName := ⟨RX4, "<init>", "()V"⟩
abbrev cX4_copyFrom : ByteArray := prog_6_method_2_code
def yX4_copyFrom : MethodName := ⟨RX4, "copyFrom", "(LRecordBox$Works;)V"⟩
abbrev cX4_addRecord : ByteArray := prog_6_method_3_code
def yX4_addRecord : MethodName := ⟨RX4, "addRecord", "(II)I"⟩
abbrev cX4_placeOf : ByteArray := prog_6_method_4_code
def yX4_placeOf : MethodName := ⟨RX4, "placeOf", "(I)I"⟩
abbrev cX4_emptyPlaces : ByteArray := prog_6_method_5_code
def yX4_emptyPlaces : MethodName := ⟨RX4, "emptyPlaces", "()I"⟩
abbrev cX4_swap : ByteArray := prog_6_method_6_code
def yX4_swap : MethodName := ⟨RX4, "swap", "(II)V"⟩
abbrev cX4_isIn : ByteArray := prog_6_method_7_code
def yX4_isIn : MethodName := ⟨RX4, "isIn", "(I)Z"⟩
abbrev cX4_howIs : ByteArray := prog_6_method_8_code
def yX4_howIs : MethodName := ⟨RX4, "howIs", "(I)I"⟩
abbrev cX4_makePin : ByteArray := prog_6_method_9_code
def yX4_makePin : MethodName := ⟨RX4, "makePin", "(II)V"⟩
abbrev cX4_isAsked : ByteArray := prog_6_method_10_code
def yX4_isAsked : MethodName := ⟨RX4, "isAsked", "(I)Z"⟩
abbrev cX4_isOut : ByteArray := prog_6_method_11_code
def yX4_isOut : MethodName := ⟨RX4, "isOut", "(I)Z"⟩
abbrev cX4_isDone : ByteArray := prog_6_method_12_code
def yX4_isDone : MethodName := ⟨RX4, "isDone", "()Z"⟩
abbrev cX4_ownSong : ByteArray := prog_6_method_13_code
def yX4_ownSong : MethodName := ⟨RX4, "ownSong", "()I"⟩
abbrev cX4_pass : ByteArray := prog_6_method_14_code
def yX4_pass : MethodName := ⟨RX4, "pass", "(I)I"⟩
abbrev cX4_endStep : ByteArray := prog_6_method_15_code
def yX4_endStep : MethodName := ⟨RX4, "endStep", "()V"⟩
abbrev cX4_look : ByteArray := prog_6_method_16_code
def yX4_look : MethodName := ⟨RX4, "look", "()V"⟩
abbrev cX4_goOn : ByteArray := prog_6_method_17_code
def yX4_goOn : MethodName := ⟨RX4, "goOn", "()V"⟩
abbrev cX4_play : ByteArray := prog_6_method_18_code
def yX4_play : MethodName := ⟨RX4, "play", "()V"⟩
def RX5 : String := "RecordBox"
def TX5 : u_T := fun k => match k with
  | 0 => ("RecordBox", "works", "LRecordBox$Works;", true)
  | 1 => ("RecordBox", "till", "LRecordBox$Till;", true)
  | 2 => ("RecordBox", "keptWorks", "LRecordBox$Works;", true)
  | 3 => ("RecordBox", "keptTill", "LRecordBox$Till;", true)
  | 4 => ("RecordBox", "imageKept", "Z", false)
  | 5 => ("RecordBox", "outlook", "LRecordBox$Outlook;", true)
  | 6 => ("RecordBox", "tape", "LRecordBox$Tape;", true)
  | _ => ("RecordBox", "sheets", "[LRecordBox$Sheet;", true)
def tyX5 : Nat → FieldType := fun k => match k with
  | 0 => .object "RecordBox$Works"
  | 1 => .object "RecordBox$Till"
  | 2 => .object "RecordBox$Works"
  | 3 => .object "RecordBox$Till"
  | 4 => .boolean
  | 5 => .object "RecordBox$Outlook"
  | 6 => .object "RecordBox$Tape"
  | _ => .array (.object "RecordBox$Sheet")
abbrev wsX50 : List Cond := u_ws RX5 TX5 8
theorem nmX5 : ∀ a, a < 8 → ∀ b, b < 8 → a ≠ b → (TX5 a).2.1 ≠ (TX5 b).2.1 := by decide +kernel
theorem tyX5_ok : ∀ k, k < 8 → parseFieldDescriptor (TX5 k).2.2.1 = some (tyX5 k) := by decide +kernel
abbrev cX5_init : ByteArray := prog_1_method_1_code
def yX5_init : MethodName := ⟨RX5, "<init>", "()V"⟩
abbrev cX5_within : ByteArray := prog_1_method_2_code
def yX5_within : MethodName := ⟨RX5, "within", "(III)Z"⟩
abbrev cX5_record : ByteArray := prog_1_method_3_code
def yX5_record : MethodName := ⟨RX5, "record", "(II)I"⟩
abbrev cX5_change : ByteArray := prog_1_method_4_code
def yX5_change : MethodName := ⟨RX5, "change", "(II)I"⟩
abbrev cX5_told : ByteArray := prog_1_method_5_code
def yX5_told : MethodName := ⟨RX5, "told", "(II)I"⟩
abbrev cX5_song : ByteArray := prog_1_method_6_code
def yX5_song : MethodName := ⟨RX5, "song", "(II)I"⟩
abbrev cX5_stick : ByteArray := prog_1_method_7_code
def yX5_stick : MethodName := ⟨RX5, "stick", "(II)I"⟩
abbrev cX5_prices : ByteArray := prog_1_method_8_code
def yX5_prices : MethodName := ⟨RX5, "prices", "(III)I"⟩
abbrev cX5_coin : ByteArray := prog_1_method_9_code
def yX5_coin : MethodName := ⟨RX5, "coin", "(I)I"⟩
abbrev cX5_set : ByteArray := prog_1_method_10_code
def yX5_set : MethodName := ⟨RX5, "set", "(II)I"⟩
abbrev cX5_key : ByteArray := prog_1_method_11_code
def yX5_key : MethodName := ⟨RX5, "key", "(I)I"⟩
abbrev cX5_keyInVain : ByteArray := prog_1_method_12_code
def yX5_keyInVain : MethodName := ⟨RX5, "keyInVain", "()I"⟩
abbrev cX5_ticks : ByteArray := prog_1_method_13_code
def yX5_ticks : MethodName := ⟨RX5, "ticks", "(I)I"⟩
abbrev cX5_carriage : ByteArray := prog_1_method_14_code
def yX5_carriage : MethodName := ⟨RX5, "carriage", "(I)I"⟩
abbrev cX5_count : ByteArray := prog_1_method_15_code
def yX5_count : MethodName := ⟨RX5, "count", "(I)I"⟩
abbrev cX5_next : ByteArray := prog_1_method_16_code
def yX5_next : MethodName := ⟨RX5, "next", "(I)I"⟩
abbrev cX5_when : ByteArray := prog_1_method_17_code
def yX5_when : MethodName := ⟨RX5, "when", "(I)I"⟩
abbrev cX5_done : ByteArray := prog_1_method_18_code
def yX5_done : MethodName := ⟨RX5, "done", "()I"⟩
abbrev cX5_better : ByteArray := prog_1_method_19_code
def yX5_better : MethodName := ⟨RX5, "better", "(I)I"⟩
abbrev cX5_heard : ByteArray := prog_1_method_20_code
def yX5_heard : MethodName := ⟨RX5, "heard", "(IIIII)I"⟩
abbrev cX5_mayBe : ByteArray := prog_1_method_21_code
def yX5_mayBe : MethodName := ⟨RX5, "mayBe", "(IIIII)I"⟩
abbrev cX5_wireRefusal : ByteArray := prog_1_method_22_code
def yX5_wireRefusal : MethodName := ⟨RX5, "wireRefusal", "(IIIII)I"⟩
abbrev cX5_songOfPulses : ByteArray := prog_1_method_23_code
def yX5_songOfPulses : MethodName := ⟨RX5, "songOfPulses", "(II)I"⟩
abbrev cX5_bitOfPulses : ByteArray := prog_1_method_24_code
def yX5_bitOfPulses : MethodName := ⟨RX5, "bitOfPulses", "(II)I"⟩
abbrev cX5_type : ByteArray := prog_1_method_25_code
def yX5_type : MethodName := ⟨RX5, "type", "(JI)I"⟩
abbrev cX5_byteOf : ByteArray := prog_1_method_26_code
def yX5_byteOf : MethodName := ⟨RX5, "byteOf", "(JI)I"⟩
abbrev cX5_evening : ByteArray := prog_1_method_27_code
def yX5_evening : MethodName := ⟨RX5, "evening", "()I"⟩
abbrev cX5_image : ByteArray := prog_1_method_28_code
def yX5_image : MethodName := ⟨RX5, "image", "()I"⟩
abbrev cX5_restore : ByteArray := prog_1_method_29_code
def yX5_restore : MethodName := ⟨RX5, "restore", "()I"⟩
abbrev cX5_sheet : ByteArray := prog_1_method_30_code
def yX5_sheet : MethodName := ⟨RX5, "sheet", "(III)I"⟩
abbrev cX5_drop : ByteArray := prog_1_method_31_code
def yX5_drop : MethodName := ⟨RX5, "drop", "(I)I"⟩
abbrev cX5_item : ByteArray := prog_1_method_32_code
def yX5_item : MethodName := ⟨RX5, "item", "(IIII)I"⟩
abbrev cX5_isSheetOfLane : ByteArray := prog_1_method_33_code
def yX5_isSheetOfLane : MethodName := ⟨RX5, "isSheetOfLane", "(II)Z"⟩
def RX6 : String := "RecordBoxModel"
def TX6 : u_T := fun k => match k with
  | 0 => ("RecordBoxModel", "z", "[I", true)
  | 1 => ("RecordBoxModel", "spare", "[I", true)
  | 2 => ("RecordBoxModel", "songs", "I", false)
  | 3 => ("RecordBoxModel", "songAt", "[I", true)
  | 4 => ("RecordBoxModel", "beginsAt", "[I", true)
  | 5 => ("RecordBoxModel", "doneAt", "I", false)
  | 6 => ("RecordBoxModel", "ahead", "I", false)
  | 7 => ("RecordBoxModel", "behind", "I", false)
  | 8 => ("RecordBoxModel", "tape", "[I", true)
  | 9 => ("RecordBoxModel", "taped", "I", false)
  | 10 => ("RecordBoxModel", "at", "I", false)
  | 11 => ("RecordBoxModel", "acts", "I", false)
  | 12 => ("RecordBoxModel", "kinds", "[I", true)
  | 13 => ("RecordBoxModel", "numbers", "[I", true)
  | 14 => ("RecordBoxModel", "isKept", "Z", false)
  | 15 => ("RecordBoxModel", "image", "[I", true)
  | 16 => ("RecordBoxModel", "lanes", "[I", true)
  | 17 => ("RecordBoxModel", "rowSizes", "[I", true)
  | _ => ("RecordBoxModel", "items", "[I", true)
def tyX6 : Nat → FieldType := fun k => match k with
  | 0 => .array .int
  | 1 => .array .int
  | 2 => .int
  | 3 => .array .int
  | 4 => .array .int
  | 5 => .int
  | 6 => .int
  | 7 => .int
  | 8 => .array .int
  | 9 => .int
  | 10 => .int
  | 11 => .int
  | 12 => .array .int
  | 13 => .array .int
  | 14 => .boolean
  | 15 => .array .int
  | 16 => .array .int
  | 17 => .array .int
  | _ => .array .int
abbrev wsX60 : List Cond := u_ws RX6 TX6 19
theorem nmX6 : ∀ a, a < 19 → ∀ b, b < 19 → a ≠ b → (TX6 a).2.1 ≠ (TX6 b).2.1 := by decide +kernel
theorem tyX6_ok : ∀ k, k < 19 → parseFieldDescriptor (TX6 k).2.2.1 = some (tyX6 k) := by decide +kernel
abbrev cX6_in : ByteArray := prog_8_method_1_code
def yX6_in : MethodName := ⟨RX6, "in", "(JJJ)Z"⟩
abbrev cX6_init : ByteArray := prog_8_method_2_code
def yX6_init : MethodName := ⟨RX6, "<init>", "()V"⟩
abbrev cX6_keep : ByteArray := prog_8_method_3_code
def yX6_keep : MethodName := ⟨RX6, "keep", "([I)V"⟩
abbrev cX6_bring : ByteArray := prog_8_method_4_code
def yX6_bring : MethodName := ⟨RX6, "bring", "([I)V"⟩
abbrev cX6_isRecord : ByteArray := prog_8_method_5_code
def yX6_isRecord : MethodName := ⟨RX6, "isRecord", "(I)Z"⟩
abbrev cX6_isPlace : ByteArray := prog_8_method_6_code
def yX6_isPlace : MethodName := ⟨RX6, "isPlace", "(I)Z"⟩
abbrev cX6_isSong : ByteArray := prog_8_method_7_code
def yX6_isSong : MethodName := ⟨RX6, "isSong", "(I)Z"⟩
abbrev cX6_record : ByteArray := prog_8_method_8_code
def yX6_record : MethodName := ⟨RX6, "record", "(II)I"⟩
abbrev cX6_placeOf : ByteArray := prog_8_method_9_code
def yX6_placeOf : MethodName := ⟨RX6, "placeOf", "(I)I"⟩
abbrev cX6_isOut : ByteArray := prog_8_method_10_code
def yX6_isOut : MethodName := ⟨RX6, "isOut", "(I)Z"⟩
abbrev cX6_change : ByteArray := prog_8_method_11_code
def yX6_change : MethodName := ⟨RX6, "change", "(II)I"⟩
abbrev cX6_told : ByteArray := prog_8_method_12_code
def yX6_told : MethodName := ⟨RX6, "told", "(II)I"⟩
abbrev cX6_song : ByteArray := prog_8_method_13_code
def yX6_song : MethodName := ⟨RX6, "song", "(II)I"⟩
abbrev cX6_stick : ByteArray := prog_8_method_14_code
def yX6_stick : MethodName := ⟨RX6, "stick", "(II)I"⟩
abbrev cX6_prices : ByteArray := prog_8_method_15_code
def yX6_prices : MethodName := ⟨RX6, "prices", "(III)I"⟩
abbrev cX6_owes : ByteArray := prog_8_method_16_code
def yX6_owes : MethodName := ⟨RX6, "owes", "()I"⟩
abbrev cX6_coin : ByteArray := prog_8_method_17_code
def yX6_coin : MethodName := ⟨RX6, "coin", "(I)I"⟩
abbrev cX6_set : ByteArray := prog_8_method_18_code
def yX6_set : MethodName := ⟨RX6, "set", "(II)I"⟩
abbrev cX6_key : ByteArray := prog_8_method_19_code
def yX6_key : MethodName := ⟨RX6, "key", "(I)I"⟩
abbrev cX6_pinsIn : ByteArray := prog_8_method_20_code
def yX6_pinsIn : MethodName := ⟨RX6, "pinsIn", "()I"⟩
abbrev cX6_songHere : ByteArray := prog_8_method_21_code
def yX6_songHere : MethodName := ⟨RX6, "songHere", "()I"⟩
abbrev cX6_does : ByteArray := prog_8_method_22_code
def yX6_does : MethodName := ⟨RX6, "does", "(II)V"⟩
abbrev cX6_goOn : ByteArray := prog_8_method_23_code
def yX6_goOn : MethodName := ⟨RX6, "goOn", "()V"⟩
abbrev cX6_look : ByteArray := prog_8_method_24_code
def yX6_look : MethodName := ⟨RX6, "look", "()V"⟩
abbrev cX6_play : ByteArray := prog_8_method_25_code
def yX6_play : MethodName := ⟨RX6, "play", "()V"⟩
abbrev cX6_tick : ByteArray := prog_8_method_26_code
def yX6_tick : MethodName := ⟨RX6, "tick", "()V"⟩
abbrev cX6_ticks : ByteArray := prog_8_method_27_code
def yX6_ticks : MethodName := ⟨RX6, "ticks", "(I)I"⟩
abbrev cX6_carriage : ByteArray := prog_8_method_28_code
def yX6_carriage : MethodName := ⟨RX6, "carriage", "(I)I"⟩
abbrev cX6_count : ByteArray := prog_8_method_29_code
def yX6_count : MethodName := ⟨RX6, "count", "(I)I"⟩
abbrev cX6_foretell : ByteArray := prog_8_method_30_code
def yX6_foretell : MethodName := ⟨RX6, "foretell", "()V"⟩
abbrev cX6_next : ByteArray := prog_8_method_31_code
def yX6_next : MethodName := ⟨RX6, "next", "(I)I"⟩
abbrev cX6_when : ByteArray := prog_8_method_32_code
def yX6_when : MethodName := ⟨RX6, "when", "(I)I"⟩
abbrev cX6_isStuckIn : ByteArray := prog_8_method_33_code
def yX6_isStuckIn : MethodName := ⟨RX6, "isStuckIn", "()Z"⟩
abbrev cX6_done : ByteArray := prog_8_method_34_code
def yX6_done : MethodName := ⟨RX6, "done", "()I"⟩
abbrev cX6_better : ByteArray := prog_8_method_35_code
def yX6_better : MethodName := ⟨RX6, "better", "(I)I"⟩
abbrev cX6_hear : ByteArray := prog_8_method_36_code
def yX6_hear : MethodName := ⟨RX6, "hear", "(IIIII)I"⟩
abbrev cX6_isTold : ByteArray := prog_8_method_37_code
def yX6_isTold : MethodName := ⟨RX6, "isTold", "(II)Z"⟩
abbrev cX6_songOf : ByteArray := prog_8_method_38_code
def yX6_songOf : MethodName := ⟨RX6, "songOf", "(II)I"⟩
abbrev cX6_heard : ByteArray := prog_8_method_39_code
def yX6_heard : MethodName := ⟨RX6, "heard", "(IIIII)I"⟩
abbrev cX6_mayBe : ByteArray := prog_8_method_40_code
def yX6_mayBe : MethodName := ⟨RX6, "mayBe", "(IIIII)I"⟩
abbrev cX6_type : ByteArray := prog_8_method_41_code
def yX6_type : MethodName := ⟨RX6, "type", "(JI)I"⟩
abbrev cX6_nextByte : ByteArray := prog_8_method_42_code
def yX6_nextByte : MethodName := ⟨RX6, "nextByte", "()I"⟩
abbrev cX6_readNumber : ByteArray := prog_8_method_43_code
def yX6_readNumber : MethodName := ⟨RX6, "readNumber", "(I)I"⟩
abbrev cX6_readAct : ByteArray := prog_8_method_44_code
def yX6_readAct : MethodName := ⟨RX6, "readAct", "()Z"⟩
abbrev cX6_evening : ByteArray := prog_8_method_45_code
def yX6_evening : MethodName := ⟨RX6, "evening", "()I"⟩
abbrev cX6_image : ByteArray := prog_8_method_46_code
def yX6_image : MethodName := ⟨RX6, "image", "()I"⟩
abbrev cX6_restore : ByteArray := prog_8_method_47_code
def yX6_restore : MethodName := ⟨RX6, "restore", "()I"⟩
abbrev cX6_isSheet : ByteArray := prog_8_method_48_code
def yX6_isSheet : MethodName := ⟨RX6, "isSheet", "(II)Z"⟩
abbrev cX6_sheet : ByteArray := prog_8_method_49_code
def yX6_sheet : MethodName := ⟨RX6, "sheet", "(III)I"⟩
abbrev cX6_drop : ByteArray := prog_8_method_50_code
def yX6_drop : MethodName := ⟨RX6, "drop", "(I)I"⟩
abbrev cX6_lacksRow : ByteArray := prog_8_method_51_code
def yX6_lacksRow : MethodName := ⟨RX6, "lacksRow", "(IIII)I"⟩
abbrev cX6_item : ByteArray := prog_8_method_52_code
def yX6_item : MethodName := ⟨RX6, "item", "(IIII)I"⟩
def RJ6 : String := "java/lang/Integer"
def TJ6 : u_T := fun k => match k with
  | _ => ("", "", "", false)
def tyJ6 : Nat → FieldType := fun k => match k with
  | _ => .int
abbrev wsJ60 : List Cond := u_ws RJ6 TJ6 0
theorem nmJ6 : ∀ a, a < 0 → ∀ b, b < 0 → a ≠ b → (TJ6 a).2.1 ≠ (TJ6 b).2.1 := by decide +kernel
theorem tyJ6_ok : ∀ k, k < 0 → parseFieldDescriptor (TJ6 k).2.2.1 = some (tyJ6 k) := by decide +kernel
abbrev cJ6_bitCount_0f7a4 : ByteArray := prog_9_method_49_code
def yJ6_bitCount_0f7a4 : MethodName := ⟨RJ6, "bitCount", "(I)I"⟩
def RJ9 : String := "java/lang/Math"
def TJ9 : u_T := fun k => match k with
  | _ => ("", "", "", false)
def tyJ9 : Nat → FieldType := fun k => match k with
  | _ => .int
abbrev wsJ90 : List Cond := u_ws RJ9 TJ9 0
theorem nmJ9 : ∀ a, a < 0 → ∀ b, b < 0 → a ≠ b → (TJ9 a).2.1 ≠ (TJ9 b).2.1 := by decide +kernel
theorem tyJ9_ok : ∀ k, k < 0 → parseFieldDescriptor (TJ9 k).2.2.1 = some (tyJ9 k) := by decide +kernel
abbrev cJ9_max_7cf53 : ByteArray := prog_10_method_65_code
def yJ9_max_7cf53 : MethodName := ⟨RJ9, "max", "(II)I"⟩
abbrev cJ9_min_7cf53 : ByteArray := prog_10_method_69_code
def yJ9_min_7cf53 : MethodName := ⟨RJ9, "min", "(II)I"⟩
def RJ10 : String := "java/lang/System"
def TJ10 : u_T := fun k => match k with
  | _ => ("", "", "", false)
def tyJ10 : Nat → FieldType := fun k => match k with
  | _ => .int
abbrev wsJ100 : List Cond := u_ws RJ10 TJ10 0
theorem nmJ10 : ∀ a, a < 0 → ∀ b, b < 0 → a ≠ b → (TJ10 a).2.1 ≠ (TJ10 b).2.1 := by decide +kernel
theorem tyJ10_ok : ∀ k, k < 0 → parseFieldDescriptor (TJ10 k).2.2.1 = some (tyJ10 k) := by decide +kernel
def RL : String := "RecordBoxLaw"
abbrev cL_law : ByteArray := code
def yL_law : MethodName := ⟨RL, "law", "([I)Z"⟩
abbrev vwCl : List vw_C := [(RX0, TX0, 9), (RX1, TX1, 3), (RX2, TX2, 6), (RX3, TX3, 8), (RX4, TX4, 16), (RX5, TX5, 8), (RX6, TX6, 19)]
