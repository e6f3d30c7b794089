section
-- ===== PART A: goes FIRST, ahead of the names: the tables' words, and 'selects' of the private methods out of them =====
/-- a private method of a class that the tables say can be made, by its rows of tables_1 -/
def lw_okq (q : MethodName × Nat) : Prop := (q.1.cls ≠ "java/lang/invoke/MethodHandle" ∧ q.1.cls ≠ "java/lang/invoke/VarHandle") ∧ Cond.instantiable q.1.cls q.2 ∈ tables_1 ∧ Cond.privateMethod q.1 ∈ tables_1 ∧ Cond.instanceMethod q.1 ∈ tables_1
theorem lw_p0 : lw_okq (⟨"RecordBox$Till", "owed", "()I"⟩, 8) := ⟨⟨by decide +kernel, by decide +kernel⟩, List.mem_of_getElem? (i := 93) (by decide +kernel), List.mem_of_getElem? (i := 310) (by decide +kernel), List.mem_of_getElem? (i := 311) (by decide +kernel)⟩
theorem lw_p1 : lw_okq (⟨"RecordBox", "keyInVain", "()I"⟩, 8) := ⟨⟨by decide +kernel, by decide +kernel⟩, List.mem_of_getElem? (i := 12) (by decide +kernel), List.mem_of_getElem? (i := 325) (by decide +kernel), List.mem_of_getElem? (i := 326) (by decide +kernel)⟩
theorem lw_p2 : lw_okq (⟨"RecordBox$Works", "look", "()V"⟩, 16) := ⟨⟨by decide +kernel, by decide +kernel⟩, List.mem_of_getElem? (i := 20) (by decide +kernel), List.mem_of_getElem? (i := 342) (by decide +kernel), List.mem_of_getElem? (i := 343) (by decide +kernel)⟩
theorem lw_p3 : lw_okq (⟨"RecordBox$Works", "goOn", "()V"⟩, 16) := ⟨⟨by decide +kernel, by decide +kernel⟩, List.mem_of_getElem? (i := 20) (by decide +kernel), List.mem_of_getElem? (i := 350) (by decide +kernel), List.mem_of_getElem? (i := 351) (by decide +kernel)⟩
theorem lw_p4 : lw_okq (⟨"RecordBox$Works", "endStep", "()V"⟩, 16) := ⟨⟨by decide +kernel, by decide +kernel⟩, List.mem_of_getElem? (i := 20) (by decide +kernel), List.mem_of_getElem? (i := 357) (by decide +kernel), List.mem_of_getElem? (i := 358) (by decide +kernel)⟩
theorem lw_p5 : lw_okq (⟨"RecordBox$Works", "play", "()V"⟩, 16) := ⟨⟨by decide +kernel, by decide +kernel⟩, List.mem_of_getElem? (i := 20) (by decide +kernel), List.mem_of_getElem? (i := 362) (by decide +kernel), List.mem_of_getElem? (i := 363) (by decide +kernel)⟩
theorem lw_p6 : lw_okq (⟨"RecordBox", "wireRefusal", "(IIIII)I"⟩, 8) := ⟨⟨by decide +kernel, by decide +kernel⟩, List.mem_of_getElem? (i := 12) (by decide +kernel), List.mem_of_getElem? (i := 445) (by decide +kernel), List.mem_of_getElem? (i := 446) (by decide +kernel)⟩
theorem lw_p7 : lw_okq (⟨"RecordBox$Tape", "readAct", "()I"⟩, 6) := ⟨⟨by decide +kernel, by decide +kernel⟩, List.mem_of_getElem? (i := 169) (by decide +kernel), List.mem_of_getElem? (i := 493) (by decide +kernel), List.mem_of_getElem? (i := 494) (by decide +kernel)⟩
theorem lw_p8 : lw_okq (⟨"RecordBox$Tape", "peek", "()I"⟩, 6) := ⟨⟨by decide +kernel, by decide +kernel⟩, List.mem_of_getElem? (i := 169) (by decide +kernel), List.mem_of_getElem? (i := 497) (by decide +kernel), List.mem_of_getElem? (i := 498) (by decide +kernel)⟩
theorem lw_p9 : lw_okq (⟨"RecordBox$Tape", "readSide", "(I)I"⟩, 6) := ⟨⟨by decide +kernel, by decide +kernel⟩, List.mem_of_getElem? (i := 169) (by decide +kernel), List.mem_of_getElem? (i := 501) (by decide +kernel), List.mem_of_getElem? (i := 502) (by decide +kernel)⟩
theorem lw_p10 : lw_okq (⟨"RecordBox$Tape", "addAct", "(II)V"⟩, 6) := ⟨⟨by decide +kernel, by decide +kernel⟩, List.mem_of_getElem? (i := 169) (by decide +kernel), List.mem_of_getElem? (i := 505) (by decide +kernel), List.mem_of_getElem? (i := 506) (by decide +kernel)⟩
theorem lw_p11 : lw_okq (⟨"RecordBox$Tape", "readNumber", "(II)I"⟩, 6) := ⟨⟨by decide +kernel, by decide +kernel⟩, List.mem_of_getElem? (i := 169) (by decide +kernel), List.mem_of_getElem? (i := 509) (by decide +kernel), List.mem_of_getElem? (i := 510) (by decide +kernel)⟩
theorem lw_p12 : lw_okq (⟨"RecordBoxModel", "isRecord", "(I)Z"⟩, 19) := ⟨⟨by decide +kernel, by decide +kernel⟩, List.mem_of_getElem? (i := 550) (by decide +kernel), List.mem_of_getElem? (i := 630) (by decide +kernel), List.mem_of_getElem? (i := 631) (by decide +kernel)⟩
theorem lw_p13 : lw_okq (⟨"RecordBoxModel", "placeOf", "(I)I"⟩, 19) := ⟨⟨by decide +kernel, by decide +kernel⟩, List.mem_of_getElem? (i := 550) (by decide +kernel), List.mem_of_getElem? (i := 634) (by decide +kernel), List.mem_of_getElem? (i := 635) (by decide +kernel)⟩
theorem lw_p14 : lw_okq (⟨"RecordBoxModel", "isOut", "(I)Z"⟩, 19) := ⟨⟨by decide +kernel, by decide +kernel⟩, List.mem_of_getElem? (i := 550) (by decide +kernel), List.mem_of_getElem? (i := 638) (by decide +kernel), List.mem_of_getElem? (i := 639) (by decide +kernel)⟩
theorem lw_p15 : lw_okq (⟨"RecordBoxModel", "owes", "()I"⟩, 19) := ⟨⟨by decide +kernel, by decide +kernel⟩, List.mem_of_getElem? (i := 550) (by decide +kernel), List.mem_of_getElem? (i := 670) (by decide +kernel), List.mem_of_getElem? (i := 671) (by decide +kernel)⟩
def lw_privs_1 : List (MethodName × Nat) := [(⟨"RecordBox$Till", "owed", "()I"⟩, 8), (⟨"RecordBox", "keyInVain", "()I"⟩, 8), (⟨"RecordBox$Works", "look", "()V"⟩, 16), (⟨"RecordBox$Works", "goOn", "()V"⟩, 16), (⟨"RecordBox$Works", "endStep", "()V"⟩, 16), (⟨"RecordBox$Works", "play", "()V"⟩, 16), (⟨"RecordBox", "wireRefusal", "(IIIII)I"⟩, 8), (⟨"RecordBox$Tape", "readAct", "()I"⟩, 6), (⟨"RecordBox$Tape", "peek", "()I"⟩, 6), (⟨"RecordBox$Tape", "readSide", "(I)I"⟩, 6), (⟨"RecordBox$Tape", "addAct", "(II)V"⟩, 6), (⟨"RecordBox$Tape", "readNumber", "(II)I"⟩, 6), (⟨"RecordBoxModel", "isRecord", "(I)Z"⟩, 19), (⟨"RecordBoxModel", "placeOf", "(I)I"⟩, 19), (⟨"RecordBoxModel", "isOut", "(I)Z"⟩, 19), (⟨"RecordBoxModel", "owes", "()I"⟩, 19)]
theorem lw_r1 : ∀ q ∈ lw_privs_1, lw_okq q := List.forall_mem_cons.mpr ⟨lw_p0, List.forall_mem_cons.mpr ⟨lw_p1, List.forall_mem_cons.mpr ⟨lw_p2, List.forall_mem_cons.mpr ⟨lw_p3, List.forall_mem_cons.mpr ⟨lw_p4, List.forall_mem_cons.mpr ⟨lw_p5, List.forall_mem_cons.mpr ⟨lw_p6, List.forall_mem_cons.mpr ⟨lw_p7, List.forall_mem_cons.mpr ⟨lw_p8, List.forall_mem_cons.mpr ⟨lw_p9, List.forall_mem_cons.mpr ⟨lw_p10, List.forall_mem_cons.mpr ⟨lw_p11, List.forall_mem_cons.mpr ⟨lw_p12, List.forall_mem_cons.mpr ⟨lw_p13, List.forall_mem_cons.mpr ⟨lw_p14, List.forall_mem_cons.mpr ⟨lw_p15, fun _ h => absurd h List.not_mem_nil⟩⟩⟩⟩⟩⟩⟩⟩⟩⟩⟩⟩⟩⟩⟩⟩
theorem lw_p16 : lw_okq (⟨"RecordBoxModel", "tick", "()V"⟩, 19) := ⟨⟨by decide +kernel, by decide +kernel⟩, List.mem_of_getElem? (i := 550) (by decide +kernel), List.mem_of_getElem? (i := 688) (by decide +kernel), List.mem_of_getElem? (i := 689) (by decide +kernel)⟩
theorem lw_p17 : lw_okq (⟨"RecordBoxModel", "pinsIn", "()I"⟩, 19) := ⟨⟨by decide +kernel, by decide +kernel⟩, List.mem_of_getElem? (i := 550) (by decide +kernel), List.mem_of_getElem? (i := 692) (by decide +kernel), List.mem_of_getElem? (i := 693) (by decide +kernel)⟩
theorem lw_p18 : lw_okq (⟨"RecordBoxModel", "look", "()V"⟩, 19) := ⟨⟨by decide +kernel, by decide +kernel⟩, List.mem_of_getElem? (i := 550) (by decide +kernel), List.mem_of_getElem? (i := 696) (by decide +kernel), List.mem_of_getElem? (i := 697) (by decide +kernel)⟩
theorem lw_p19 : lw_okq (⟨"RecordBoxModel", "songHere", "()I"⟩, 19) := ⟨⟨by decide +kernel, by decide +kernel⟩, List.mem_of_getElem? (i := 550) (by decide +kernel), List.mem_of_getElem? (i := 700) (by decide +kernel), List.mem_of_getElem? (i := 701) (by decide +kernel)⟩
theorem lw_p20 : lw_okq (⟨"RecordBoxModel", "does", "(II)V"⟩, 19) := ⟨⟨by decide +kernel, by decide +kernel⟩, List.mem_of_getElem? (i := 550) (by decide +kernel), List.mem_of_getElem? (i := 704) (by decide +kernel), List.mem_of_getElem? (i := 705) (by decide +kernel)⟩
theorem lw_p21 : lw_okq (⟨"RecordBoxModel", "goOn", "()V"⟩, 19) := ⟨⟨by decide +kernel, by decide +kernel⟩, List.mem_of_getElem? (i := 550) (by decide +kernel), List.mem_of_getElem? (i := 708) (by decide +kernel), List.mem_of_getElem? (i := 709) (by decide +kernel)⟩
theorem lw_p22 : lw_okq (⟨"RecordBoxModel", "play", "()V"⟩, 19) := ⟨⟨by decide +kernel, by decide +kernel⟩, List.mem_of_getElem? (i := 550) (by decide +kernel), List.mem_of_getElem? (i := 712) (by decide +kernel), List.mem_of_getElem? (i := 713) (by decide +kernel)⟩
theorem lw_p23 : lw_okq (⟨"RecordBoxModel", "foretell", "()V"⟩, 19) := ⟨⟨by decide +kernel, by decide +kernel⟩, List.mem_of_getElem? (i := 550) (by decide +kernel), List.mem_of_getElem? (i := 730) (by decide +kernel), List.mem_of_getElem? (i := 731) (by decide +kernel)⟩
theorem lw_p24 : lw_okq (⟨"RecordBoxModel", "keep", "([I)V"⟩, 19) := ⟨⟨by decide +kernel, by decide +kernel⟩, List.mem_of_getElem? (i := 550) (by decide +kernel), List.mem_of_getElem? (i := 734) (by decide +kernel), List.mem_of_getElem? (i := 735) (by decide +kernel)⟩
theorem lw_p25 : lw_okq (⟨"RecordBoxModel", "bring", "([I)V"⟩, 19) := ⟨⟨by decide +kernel, by decide +kernel⟩, List.mem_of_getElem? (i := 550) (by decide +kernel), List.mem_of_getElem? (i := 738) (by decide +kernel), List.mem_of_getElem? (i := 739) (by decide +kernel)⟩
theorem lw_p26 : lw_okq (⟨"RecordBoxModel", "isStuckIn", "()Z"⟩, 19) := ⟨⟨by decide +kernel, by decide +kernel⟩, List.mem_of_getElem? (i := 550) (by decide +kernel), List.mem_of_getElem? (i := 750) (by decide +kernel), List.mem_of_getElem? (i := 751) (by decide +kernel)⟩
theorem lw_p27 : lw_okq (⟨"RecordBoxModel", "hear", "(IIIII)I"⟩, 19) := ⟨⟨by decide +kernel, by decide +kernel⟩, List.mem_of_getElem? (i := 550) (by decide +kernel), List.mem_of_getElem? (i := 762) (by decide +kernel), List.mem_of_getElem? (i := 763) (by decide +kernel)⟩
theorem lw_p28 : lw_okq (⟨"RecordBoxModel", "lacksRow", "(IIII)I"⟩, 19) := ⟨⟨by decide +kernel, by decide +kernel⟩, List.mem_of_getElem? (i := 550) (by decide +kernel), List.mem_of_getElem? (i := 769) (by decide +kernel), List.mem_of_getElem? (i := 770) (by decide +kernel)⟩
theorem lw_p29 : lw_okq (⟨"RecordBoxModel", "readAct", "()Z"⟩, 19) := ⟨⟨by decide +kernel, by decide +kernel⟩, List.mem_of_getElem? (i := 550) (by decide +kernel), List.mem_of_getElem? (i := 796) (by decide +kernel), List.mem_of_getElem? (i := 797) (by decide +kernel)⟩
theorem lw_p30 : lw_okq (⟨"RecordBoxModel", "nextByte", "()I"⟩, 19) := ⟨⟨by decide +kernel, by decide +kernel⟩, List.mem_of_getElem? (i := 550) (by decide +kernel), List.mem_of_getElem? (i := 800) (by decide +kernel), List.mem_of_getElem? (i := 801) (by decide +kernel)⟩
theorem lw_p31 : lw_okq (⟨"RecordBoxModel", "readNumber", "(I)I"⟩, 19) := ⟨⟨by decide +kernel, by decide +kernel⟩, List.mem_of_getElem? (i := 550) (by decide +kernel), List.mem_of_getElem? (i := 806) (by decide +kernel), List.mem_of_getElem? (i := 807) (by decide +kernel)⟩
def lw_privs_2 : List (MethodName × Nat) := [(⟨"RecordBoxModel", "tick", "()V"⟩, 19), (⟨"RecordBoxModel", "pinsIn", "()I"⟩, 19), (⟨"RecordBoxModel", "look", "()V"⟩, 19), (⟨"RecordBoxModel", "songHere", "()I"⟩, 19), (⟨"RecordBoxModel", "does", "(II)V"⟩, 19), (⟨"RecordBoxModel", "goOn", "()V"⟩, 19), (⟨"RecordBoxModel", "play", "()V"⟩, 19), (⟨"RecordBoxModel", "foretell", "()V"⟩, 19), (⟨"RecordBoxModel", "keep", "([I)V"⟩, 19), (⟨"RecordBoxModel", "bring", "([I)V"⟩, 19), (⟨"RecordBoxModel", "isStuckIn", "()Z"⟩, 19), (⟨"RecordBoxModel", "hear", "(IIIII)I"⟩, 19), (⟨"RecordBoxModel", "lacksRow", "(IIII)I"⟩, 19), (⟨"RecordBoxModel", "readAct", "()Z"⟩, 19), (⟨"RecordBoxModel", "nextByte", "()I"⟩, 19), (⟨"RecordBoxModel", "readNumber", "(I)I"⟩, 19)]
theorem lw_r2 : ∀ q ∈ lw_privs_2, lw_okq q := List.forall_mem_cons.mpr ⟨lw_p16, List.forall_mem_cons.mpr ⟨lw_p17, List.forall_mem_cons.mpr ⟨lw_p18, List.forall_mem_cons.mpr ⟨lw_p19, List.forall_mem_cons.mpr ⟨lw_p20, List.forall_mem_cons.mpr ⟨lw_p21, List.forall_mem_cons.mpr ⟨lw_p22, List.forall_mem_cons.mpr ⟨lw_p23, List.forall_mem_cons.mpr ⟨lw_p24, List.forall_mem_cons.mpr ⟨lw_p25, List.forall_mem_cons.mpr ⟨lw_p26, List.forall_mem_cons.mpr ⟨lw_p27, List.forall_mem_cons.mpr ⟨lw_p28, List.forall_mem_cons.mpr ⟨lw_p29, List.forall_mem_cons.mpr ⟨lw_p30, List.forall_mem_cons.mpr ⟨lw_p31, fun _ h => absurd h List.not_mem_nil⟩⟩⟩⟩⟩⟩⟩⟩⟩⟩⟩⟩⟩⟩⟩⟩
def lw_privs : List (MethodName × Nat) := lw_privs_1 ++ (lw_privs_2)
def lw_tbl : List Cond := k2_sels lw_privs ++ tables_1
theorem lw_privs_ok : ∀ q ∈ lw_privs, lw_okq q := by
  show ∀ q ∈ lw_privs_1 ++ (lw_privs_2), lw_okq q
  exact List.forall_mem_append.mpr ⟨lw_r1, lw_r2⟩
def RX0 : String := "RecordBox$Outlook"
def TX0 : u_T := fun k => match k with
  | 0 => ("RecordBox$Outlook", "trial", "LRecordBox$Works;", true)
  | 1 => ("RecordBox$Outlook", "songs", "[I", true)
  | 2 => ("RecordBox$Outlook", "starts", "[I", true)
  | 3 => ("RecordBox$Outlook", "told", "I", false)
  | 4 => ("RecordBox$Outlook", "songsKnown", "Z", false)
  | 5 => ("RecordBox$Outlook", "lesser", "I", false)
  | 6 => ("RecordBox$Outlook", "other", "I", false)
  | 7 => ("RecordBox$Outlook", "soonest", "I", false)
  | _ => ("RecordBox$Outlook", "pairKnown", "Z", false)
def tyX0 : Nat → FieldType := fun k => match k with
  | 0 => .object "RecordBox$Works"
  | 1 => .array .int
  | 2 => .array .int
  | 3 => .int
  | 4 => .boolean
  | 5 => .int
  | 6 => .int
  | 7 => .int
  | _ => .boolean
abbrev wsX00 : List Cond := u_ws RX0 TX0 9
theorem nmX0 : ∀ a, a < 9 → ∀ b, b < 9 → a ≠ b → (TX0 a).2.1 ≠ (TX0 b).2.1 := by decide +kernel
theorem tyX0_ok : ∀ k, k < 9 → parseFieldDescriptor (TX0 k).2.2.1 = some (tyX0 k) := by decide +kernel
abbrev cX0_init : ByteArray := prog_2_method_1_code
def yX0_init : MethodName := ⟨RX0, "<init>", "()V"⟩
abbrev cX0_forget : ByteArray := prog_2_method_2_code
def yX0_forget : MethodName := ⟨RX0, "forget", "()V"⟩
abbrev cX0_foresee : ByteArray := prog_2_method_3_code
def yX0_foresee : MethodName := ⟨RX0, "foresee", "(LRecordBox$Works;)V"⟩
abbrev cX0_startOf : ByteArray := prog_2_method_4_code
def yX0_startOf : MethodName := ⟨RX0, "startOf", "(I)I"⟩
abbrev cX0_doneBy : ByteArray := prog_2_method_5_code
def yX0_doneBy : MethodName := ⟨RX0, "doneBy", "(LRecordBox$Works;II)I"⟩
abbrev cX0_seekPair : ByteArray := prog_2_method_6_code
def yX0_seekPair : MethodName := ⟨RX0, "seekPair", "(LRecordBox$Works;)V"⟩
abbrev cX0_mayHelp : ByteArray := prog_2_method_7_code
def yX0_mayHelp : MethodName := ⟨RX0, "mayHelp", "(LRecordBox$Works;II)Z"⟩
def RX1 : String := "RecordBox$Sheet"
def TX1 : u_T := fun k => match k with
  | 0 => ("RecordBox$Sheet", "lane", "I", false)
  | 1 => ("RecordBox$Sheet", "size", "I", false)
  | _ => ("RecordBox$Sheet", "items", "[I", true)
def tyX1 : Nat → FieldType := fun k => match k with
  | 0 => .int
  | 1 => .int
  | _ => .array .int
abbrev wsX10 : List Cond := u_ws RX1 TX1 3
theorem nmX1 : ∀ a, a < 3 → ∀ b, b < 3 → a ≠ b → (TX1 a).2.1 ≠ (TX1 b).2.1 := by decide +kernel
theorem tyX1_ok : ∀ k, k < 3 → parseFieldDescriptor (TX1 k).2.2.1 = some (tyX1 k) := by decide +kernel
abbrev cX1_init : ByteArray := prog_3_method_1_code
def yX1_init : MethodName := ⟨RX1, "<init>", "()V"⟩
abbrev cX1_hold : ByteArray := prog_3_method_2_code
def yX1_hold : MethodName := ⟨RX1, "hold", "(II)V"⟩
abbrev cX1_refusalAs : ByteArray := prog_3_method_3_code
def yX1_refusalAs : MethodName := ⟨RX1, "refusalAs", "(I)I"⟩
abbrev cX1_write : ByteArray := prog_3_method_4_code
def yX1_write : MethodName := ⟨RX1, "write", "(II)V"⟩
abbrev cX1_areTimes : ByteArray := prog_3_method_5_code
def yX1_areTimes : MethodName := ⟨RX1, "areTimes", "(II)Z"⟩
abbrev cX1_onlyGap : ByteArray := prog_3_method_6_code
def yX1_onlyGap : MethodName := ⟨RX1, "onlyGap", "(III)I"⟩
def RX2 : String := "RecordBox$Tape"
def TX2 : u_T := fun k => match k with
  | 0 => ("RecordBox$Tape", "signs", "[B", true)
  | 1 => ("RecordBox$Tape", "length", "I", false)
  | 2 => ("RecordBox$Tape", "at", "I", false)
  | 3 => ("RecordBox$Tape", "kinds", "[I", true)
  | 4 => ("RecordBox$Tape", "values", "[I", true)
  | _ => ("RecordBox$Tape", "acts", "I", false)
def tyX2 : Nat → FieldType := fun k => match k with
  | 0 => .array .byte
  | 1 => .int
  | 2 => .int
  | 3 => .array .int
  | 4 => .array .int
  | _ => .int
abbrev wsX20 : List Cond := u_ws RX2 TX2 6
theorem nmX2 : ∀ a, a < 6 → ∀ b, b < 6 → a ≠ b → (TX2 a).2.1 ≠ (TX2 b).2.1 := by decide +kernel
theorem tyX2_ok : ∀ k, k < 6 → parseFieldDescriptor (TX2 k).2.2.1 = some (tyX2 k) := by decide +kernel
abbrev cX2_init : ByteArray := prog_4_method_1_code
def yX2_init : MethodName := ⟨RX2, "<init>", "()V"⟩
abbrev cX2_append : ByteArray := prog_4_method_2_code
def yX2_append : MethodName := ⟨RX2, "append", "(I)V"⟩
abbrev cX2_readActs : ByteArray := prog_4_method_3_code
def yX2_readActs : MethodName := ⟨RX2, "readActs", "()I"⟩
abbrev cX2_readAct : ByteArray := prog_4_method_4_code
def yX2_readAct : MethodName := ⟨RX2, "readAct", "()I"⟩
abbrev cX2_readSide : ByteArray := prog_4_method_5_code
def yX2_readSide : MethodName := ⟨RX2, "readSide", "(I)I"⟩
abbrev cX2_readNumber : ByteArray := prog_4_method_6_code
def yX2_readNumber : MethodName := ⟨RX2, "readNumber", "(II)I"⟩
abbrev cX2_peek : ByteArray := prog_4_method_7_code
def yX2_peek : MethodName := ⟨RX2, "peek", "()I"⟩
abbrev cX2_addAct : ByteArray := prog_4_method_8_code
def yX2_addAct : MethodName := ⟨RX2, "addAct", "(II)V"⟩
def RX3 : String := "RecordBox$Till"
def TX3 : u_T := fun k => match k with
  | 0 => ("RecordBox$Till", "price", "I", false)
  | 1 => ("RecordBox$Till", "bargain", "I", false)
  | 2 => ("RecordBox$Till", "bargainSongs", "I", false)
  | 3 => ("RecordBox$Till", "sum", "I", false)
  | 4 => ("RecordBox$Till", "credits", "I", false)
  | 5 => ("RecordBox$Till", "lost", "I", false)
  | 6 => ("RecordBox$Till", "taken", "I", false)
  | _ => ("RecordBox$Till", "kindness", "I", false)
def tyX3 : Nat → FieldType := fun k => match k with
  | 0 => .int
  | 1 => .int
  | 2 => .int
  | 3 => .int
  | 4 => .int
  | 5 => .int
  | 6 => .int
  | _ => .int
abbrev wsX30 : List Cond := u_ws RX3 TX3 8
theorem nmX3 : ∀ a, a < 8 → ∀ b, b < 8 → a ≠ b → (TX3 a).2.1 ≠ (TX3 b).2.1 := by decide +kernel
theorem tyX3_ok : ∀ k, k < 8 → parseFieldDescriptor (TX3 k).2.2.1 = some (tyX3 k) := by decide +kernel
abbrev cX3_init : ByteArray := prog_5_method_1_code
def yX3_init : MethodName := ⟨RX3, "<init>", "()V"⟩
abbrev cX3_copyFrom : ByteArray := prog_5_method_2_code
def yX3_copyFrom : MethodName := ⟨RX3, "copyFrom", "(LRecordBox$Till;)V"⟩
abbrev cX3_newPrices : ByteArray := prog_5_method_3_code
def yX3_newPrices : MethodName := ⟨RX3, "newPrices", "(III)V"⟩
abbrev cX3_take : ByteArray := prog_5_method_4_code
def yX3_take : MethodName := ⟨RX3, "take", "(I)V"⟩
abbrev cX3_owed : ByteArray := prog_5_method_5_code
def yX3_owed : MethodName := ⟨RX3, "owed", "()I"⟩
def RX4 : String := "RecordBox$Works"
def TX4 : u_T := fun k => match k with
  | 0 => ("RecordBox$Works", "records", "I", false)
  | 1 => ("RecordBox$Works", "times", "[I", true)
  | 2 => ("RecordBox$Works", "wear", "[I", true)
  | 3 => ("RecordBox$Works", "rack", "[I", true)
  | 4 => ("RecordBox$Works", "meters", "[I", true)
  | 5 => ("RecordBox$Works", "pinsIn", "I", false)
  | 6 => ("RecordBox$Works", "stuckIn", "I", false)
  | 7 => ("RecordBox$Works", "stuckOut", "I", false)
  | 8 => ("RecordBox$Works", "groove", "I", false)
  | 9 => ("RecordBox$Works", "now", "I", false)
  | 10 => ("RecordBox$Works", "place", "I", false)
  | 11 => ("RecordBox$Works", "up", "Z", false)
  | 12 => ("RecordBox$Works", "doing", "I", false)
  | 13 => ("RecordBox$Works", "ticksLeft", "I", false)
  | 14 => ("RecordBox$Works", "played", "I", false)
  | _ => ("RecordBox$Works", "misses", "I", false)
def tyX4 : Nat → FieldType := fun k => match k with
  | 0 => .int
  | 1 => .array .int
  | 2 => .array .int
  | 3 => .array .int
  | 4 => .array .int
  | 5 => .int
  | 6 => .int
  | 7 => .int
  | 8 => .int
  | 9 => .int
  | 10 => .int
  | 11 => .boolean
  | 12 => .int
  | 13 => .int
  | 14 => .int
  | _ => .int
abbrev wsX40 : List Cond := u_ws RX4 TX4 16
theorem nmX4 : ∀ a, a < 16 → ∀ b, b < 16 → a ≠ b → (TX4 a).2.1 ≠ (TX4 b).2.1 := by decide +kernel
theorem tyX4_ok : ∀ k, k < 16 → parseFieldDescriptor (TX4 k).2.2.1 = some (tyX4 k) := by decide +kernel
abbrev cX4_init : ByteArray := prog_6_method_1_code
def yX4_init : MethodName := ⟨RX4, "<init>", "()V"⟩
abbrev cX4_copyFrom : ByteArray := prog_6_method_2_code
def yX4_copyFrom : MethodName := ⟨RX4, "copyFrom", "(LRecordBox$Works;)V"⟩
abbrev cX4_addRecord : ByteArray := prog_6_method_3_code
def yX4_addRecord : MethodName := ⟨RX4, "addRecord", "(II)I"⟩
abbrev cX4_placeOf : ByteArray := prog_6_method_4_code
def yX4_placeOf : MethodName := ⟨RX4, "placeOf", "(I)I"⟩
abbrev cX4_emptyPlaces : ByteArray := prog_6_method_5_code
def yX4_emptyPlaces : MethodName := ⟨RX4, "emptyPlaces", "()I"⟩
abbrev cX4_swap : ByteArray := prog_6_method_6_code
def yX4_swap : MethodName := ⟨RX4, "swap", "(II)V"⟩
abbrev cX4_isIn : ByteArray := prog_6_method_7_code
def yX4_isIn : MethodName := ⟨RX4, "isIn", "(I)Z"⟩
abbrev cX4_howIs : ByteArray := prog_6_method_8_code
def yX4_howIs : MethodName := ⟨RX4, "howIs", "(I)I"⟩
abbrev cX4_makePin : ByteArray := prog_6_method_9_code
def yX4_makePin : MethodName := ⟨RX4, "makePin", "(II)V"⟩
abbrev cX4_isAsked : ByteArray := prog_6_method_10_code
def yX4_isAsked : MethodName := ⟨RX4, "isAsked", "(I)Z"⟩
abbrev cX4_isOut : ByteArray := prog_6_method_11_code
def yX4_isOut : MethodName := ⟨RX4, "isOut", "(I)Z"⟩
abbrev cX4_isDone : ByteArray := prog_6_method_12_code
def yX4_isDone : MethodName := ⟨RX4, "isDone", "()Z"⟩
abbrev cX4_ownSong : ByteArray := prog_6_method_13_code
def yX4_ownSong : MethodName := ⟨RX4, "ownSong", "()I"⟩
abbrev cX4_pass : ByteArray := prog_6_method_14_code
def yX4_pass : MethodName := ⟨RX4, "pass", "(I)I"⟩
abbrev cX4_endStep : ByteArray := prog_6_method_15_code
def yX4_endStep : MethodName := ⟨RX4, "endStep", "()V"⟩
abbrev cX4_look : ByteArray := prog_6_method_16_code
def yX4_look : MethodName := ⟨RX4, "look", "()V"⟩
abbrev cX4_goOn : ByteArray := prog_6_method_17_code
def yX4_goOn : MethodName := ⟨RX4, "goOn", "()V"⟩
abbrev cX4_play : ByteArray := prog_6_method_18_code
def yX4_play : MethodName := ⟨RX4, "play", "()V"⟩
def RX5 : String := "RecordBox"
def TX5 : u_T := fun k => match k with
  | 0 => ("RecordBox", "works", "LRecordBox$Works;", true)
  | 1 => ("RecordBox", "till", "LRecordBox$Till;", true)
  | 2 => ("RecordBox", "keptWorks", "LRecordBox$Works;", true)
  | 3 => ("RecordBox", "keptTill", "LRecordBox$Till;", true)
  | 4 => ("RecordBox", "imageKept", "Z", false)
  | 5 => ("RecordBox", "outlook", "LRecordBox$Outlook;", true)
  | 6 => ("RecordBox", "tape", "LRecordBox$Tape;", true)
  | _ => ("RecordBox", "sheets", "[LRecordBox$Sheet;", true)
def tyX5 : Nat → FieldType := fun k => match k with
  | 0 => .object "RecordBox$Works"
  | 1 => .object "RecordBox$Till"
  | 2 => .object "RecordBox$Works"
  | 3 => .object "RecordBox$Till"
  | 4 => .boolean
  | 5 => .object "RecordBox$Outlook"
  | 6 => .object "RecordBox$Tape"
  | _ => .array (.object "RecordBox$Sheet")
abbrev wsX50 : List Cond := u_ws RX5 TX5 8
theorem nmX5 : ∀ a, a < 8 → ∀ b, b < 8 → a ≠ b → (TX5 a).2.1 ≠ (TX5 b).2.1 := by decide +kernel
theorem tyX5_ok : ∀ k, k < 8 → parseFieldDescriptor (TX5 k).2.2.1 = some (tyX5 k) := by decide +kernel
abbrev cX5_init : ByteArray := prog_1_method_1_code
def yX5_init : MethodName := ⟨RX5, "<init>", "()V"⟩
abbrev cX5_within : ByteArray := prog_1_method_2_code
def yX5_within : MethodName := ⟨RX5, "within", "(III)Z"⟩
abbrev cX5_record : ByteArray := prog_1_method_3_code
def yX5_record : MethodName := ⟨RX5, "record", "(II)I"⟩
abbrev cX5_change : ByteArray := prog_1_method_4_code
def yX5_change : MethodName := ⟨RX5, "change", "(II)I"⟩
abbrev cX5_told : ByteArray := prog_1_method_5_code
def yX5_told : MethodName := ⟨RX5, "told", "(II)I"⟩
abbrev cX5_song : ByteArray := prog_1_method_6_code
def yX5_song : MethodName := ⟨RX5, "song", "(II)I"⟩
abbrev cX5_stick : ByteArray := prog_1_method_7_code
def yX5_stick : MethodName := ⟨RX5, "stick", "(II)I"⟩
abbrev cX5_prices : ByteArray := prog_1_method_8_code
def yX5_prices : MethodName := ⟨RX5, "prices", "(III)I"⟩
abbrev cX5_coin : ByteArray := prog_1_method_9_code
def yX5_coin : MethodName := ⟨RX5, "coin", "(I)I"⟩
abbrev cX5_set : ByteArray := prog_1_method_10_code
def yX5_set : MethodName := ⟨RX5, "set", "(II)I"⟩
abbrev cX5_key : ByteArray := prog_1_method_11_code
def yX5_key : MethodName := ⟨RX5, "key", "(I)I"⟩
abbrev cX5_keyInVain : ByteArray := prog_1_method_12_code
def yX5_keyInVain : MethodName := ⟨RX5, "keyInVain", "()I"⟩
abbrev cX5_ticks : ByteArray := prog_1_method_13_code
def yX5_ticks : MethodName := ⟨RX5, "ticks", "(I)I"⟩
abbrev cX5_carriage : ByteArray := prog_1_method_14_code
def yX5_carriage : MethodName := ⟨RX5, "carriage", "(I)I"⟩
abbrev cX5_count : ByteArray := prog_1_method_15_code
def yX5_count : MethodName := ⟨RX5, "count", "(I)I"⟩
abbrev cX5_next : ByteArray := prog_1_method_16_code
def yX5_next : MethodName := ⟨RX5, "next", "(I)I"⟩
abbrev cX5_when : ByteArray := prog_1_method_17_code
def yX5_when : MethodName := ⟨RX5, "when", "(I)I"⟩
abbrev cX5_done : ByteArray := prog_1_method_18_code
def yX5_done : MethodName := ⟨RX5, "done", "()I"⟩
abbrev cX5_better : ByteArray := prog_1_method_19_code
def yX5_better : MethodName := ⟨RX5, "better", "(I)I"⟩
abbrev cX5_heard : ByteArray := prog_1_method_20_code
def yX5_heard : MethodName := ⟨RX5, "heard", "(IIIII)I"⟩
abbrev cX5_mayBe : ByteArray := prog_1_method_21_code
def yX5_mayBe : MethodName := ⟨RX5, "mayBe", "(IIIII)I"⟩
abbrev cX5_wireRefusal : ByteArray := prog_1_method_22_code
def yX5_wireRefusal : MethodName := ⟨RX5, "wireRefusal", "(IIIII)I"⟩
abbrev cX5_songOfPulses : ByteArray := prog_1_method_23_code
def yX5_songOfPulses : MethodName := ⟨RX5, "songOfPulses", "(II)I"⟩
abbrev cX5_bitOfPulses : ByteArray := prog_1_method_24_code
def yX5_bitOfPulses : MethodName := ⟨RX5, "bitOfPulses", "(II)I"⟩
abbrev cX5_type : ByteArray := prog_1_method_25_code
def yX5_type : MethodName := ⟨RX5, "type", "(JI)I"⟩
abbrev cX5_byteOf : ByteArray := prog_1_method_26_code
def yX5_byteOf : MethodName := ⟨RX5, "byteOf", "(JI)I"⟩
abbrev cX5_evening : ByteArray := prog_1_method_27_code
def yX5_evening : MethodName := ⟨RX5, "evening", "()I"⟩
abbrev cX5_image : ByteArray := prog_1_method_28_code
def yX5_image : MethodName := ⟨RX5, "image", "()I"⟩
abbrev cX5_restore : ByteArray := prog_1_method_29_code
def yX5_restore : MethodName := ⟨RX5, "restore", "()I"⟩
abbrev cX5_sheet : ByteArray := prog_1_method_30_code
def yX5_sheet : MethodName := ⟨RX5, "sheet", "(III)I"⟩
abbrev cX5_drop : ByteArray := prog_1_method_31_code
def yX5_drop : MethodName := ⟨RX5, "drop", "(I)I"⟩
abbrev cX5_item : ByteArray := prog_1_method_32_code
def yX5_item : MethodName := ⟨RX5, "item", "(IIII)I"⟩
abbrev cX5_isSheetOfLane : ByteArray := prog_1_method_33_code
def yX5_isSheetOfLane : MethodName := ⟨RX5, "isSheetOfLane", "(II)Z"⟩
def RX6 : String := "RecordBoxModel"
def TX6 : u_T := fun k => match k with
  | 0 => ("RecordBoxModel", "z", "[I", true)
  | 1 => ("RecordBoxModel", "spare", "[I", true)
  | 2 => ("RecordBoxModel", "songs", "I", false)
  | 3 => ("RecordBoxModel", "songAt", "[I", true)
  | 4 => ("RecordBoxModel", "beginsAt", "[I", true)
  | 5 => ("RecordBoxModel", "doneAt", "I", false)
  | 6 => ("RecordBoxModel", "ahead", "I", false)
  | 7 => ("RecordBoxModel", "behind", "I", false)
  | 8 => ("RecordBoxModel", "tape", "[I", true)
  | 9 => ("RecordBoxModel", "taped", "I", false)
  | 10 => ("RecordBoxModel", "at", "I", false)
  | 11 => ("RecordBoxModel", "acts", "I", false)
  | 12 => ("RecordBoxModel", "kinds", "[I", true)
  | 13 => ("RecordBoxModel", "numbers", "[I", true)
  | 14 => ("RecordBoxModel", "isKept", "Z", false)
  | 15 => ("RecordBoxModel", "image", "[I", true)
  | 16 => ("RecordBoxModel", "lanes", "[I", true)
  | 17 => ("RecordBoxModel", "rowSizes", "[I", true)
  | _ => ("RecordBoxModel", "items", "[I", true)
def tyX6 : Nat → FieldType := fun k => match k with
  | 0 => .array .int
  | 1 => .array .int
  | 2 => .int
  | 3 => .array .int
  | 4 => .array .int
  | 5 => .int
  | 6 => .int
  | 7 => .int
  | 8 => .array .int
  | 9 => .int
  | 10 => .int
  | 11 => .int
  | 12 => .array .int
  | 13 => .array .int
  | 14 => .boolean
  | 15 => .array .int
  | 16 => .array .int
  | 17 => .array .int
  | _ => .array .int
abbrev wsX60 : List Cond := u_ws RX6 TX6 19
theorem nmX6 : ∀ a, a < 19 → ∀ b, b < 19 → a ≠ b → (TX6 a).2.1 ≠ (TX6 b).2.1 := by decide +kernel
theorem tyX6_ok : ∀ k, k < 19 → parseFieldDescriptor (TX6 k).2.2.1 = some (tyX6 k) := by decide +kernel
abbrev cX6_in : ByteArray := prog_8_method_1_code
def yX6_in : MethodName := ⟨RX6, "in", "(JJJ)Z"⟩
abbrev cX6_init : ByteArray := prog_8_method_2_code
def yX6_init : MethodName := ⟨RX6, "<init>", "()V"⟩
abbrev cX6_keep : ByteArray := prog_8_method_3_code
def yX6_keep : MethodName := ⟨RX6, "keep", "([I)V"⟩
abbrev cX6_bring : ByteArray := prog_8_method_4_code
def yX6_bring : MethodName := ⟨RX6, "bring", "([I)V"⟩
abbrev cX6_isRecord : ByteArray := prog_8_method_5_code
def yX6_isRecord : MethodName := ⟨RX6, "isRecord", "(I)Z"⟩
abbrev cX6_isPlace : ByteArray := prog_8_method_6_code
def yX6_isPlace : MethodName := ⟨RX6, "isPlace", "(I)Z"⟩
abbrev cX6_isSong : ByteArray := prog_8_method_7_code
def yX6_isSong : MethodName := ⟨RX6, "isSong", "(I)Z"⟩
abbrev cX6_record : ByteArray := prog_8_method_8_code
def yX6_record : MethodName := ⟨RX6, "record", "(II)I"⟩
abbrev cX6_placeOf : ByteArray := prog_8_method_9_code
def yX6_placeOf : MethodName := ⟨RX6, "placeOf", "(I)I"⟩
abbrev cX6_isOut : ByteArray := prog_8_method_10_code
def yX6_isOut : MethodName := ⟨RX6, "isOut", "(I)Z"⟩
abbrev cX6_change : ByteArray := prog_8_method_11_code
def yX6_change : MethodName := ⟨RX6, "change", "(II)I"⟩
abbrev cX6_told : ByteArray := prog_8_method_12_code
def yX6_told : MethodName := ⟨RX6, "told", "(II)I"⟩
abbrev cX6_song : ByteArray := prog_8_method_13_code
def yX6_song : MethodName := ⟨RX6, "song", "(II)I"⟩
abbrev cX6_stick : ByteArray := prog_8_method_14_code
def yX6_stick : MethodName := ⟨RX6, "stick", "(II)I"⟩
abbrev cX6_prices : ByteArray := prog_8_method_15_code
def yX6_prices : MethodName := ⟨RX6, "prices", "(III)I"⟩
abbrev cX6_owes : ByteArray := prog_8_method_16_code
def yX6_owes : MethodName := ⟨RX6, "owes", "()I"⟩
abbrev cX6_coin : ByteArray := prog_8_method_17_code
def yX6_coin : MethodName := ⟨RX6, "coin", "(I)I"⟩
abbrev cX6_set : ByteArray := prog_8_method_18_code
def yX6_set : MethodName := ⟨RX6, "set", "(II)I"⟩
abbrev cX6_key : ByteArray := prog_8_method_19_code
def yX6_key : MethodName := ⟨RX6, "key", "(I)I"⟩
abbrev cX6_pinsIn : ByteArray := prog_8_method_20_code
def yX6_pinsIn : MethodName := ⟨RX6, "pinsIn", "()I"⟩
abbrev cX6_songHere : ByteArray := prog_8_method_21_code
def yX6_songHere : MethodName := ⟨RX6, "songHere", "()I"⟩
abbrev cX6_does : ByteArray := prog_8_method_22_code
def yX6_does : MethodName := ⟨RX6, "does", "(II)V"⟩
abbrev cX6_goOn : ByteArray := prog_8_method_23_code
def yX6_goOn : MethodName := ⟨RX6, "goOn", "()V"⟩
abbrev cX6_look : ByteArray := prog_8_method_24_code
def yX6_look : MethodName := ⟨RX6, "look", "()V"⟩
abbrev cX6_play : ByteArray := prog_8_method_25_code
def yX6_play : MethodName := ⟨RX6, "play", "()V"⟩
abbrev cX6_tick : ByteArray := prog_8_method_26_code
def yX6_tick : MethodName := ⟨RX6, "tick", "()V"⟩
abbrev cX6_ticks : ByteArray := prog_8_method_27_code
def yX6_ticks : MethodName := ⟨RX6, "ticks", "(I)I"⟩
abbrev cX6_carriage : ByteArray := prog_8_method_28_code
def yX6_carriage : MethodName := ⟨RX6, "carriage", "(I)I"⟩
abbrev cX6_count : ByteArray := prog_8_method_29_code
def yX6_count : MethodName := ⟨RX6, "count", "(I)I"⟩
abbrev cX6_foretell : ByteArray := prog_8_method_30_code
def yX6_foretell : MethodName := ⟨RX6, "foretell", "()V"⟩
abbrev cX6_next : ByteArray := prog_8_method_31_code
def yX6_next : MethodName := ⟨RX6, "next", "(I)I"⟩
abbrev cX6_when : ByteArray := prog_8_method_32_code
def yX6_when : MethodName := ⟨RX6, "when", "(I)I"⟩
abbrev cX6_isStuckIn : ByteArray := prog_8_method_33_code
def yX6_isStuckIn : MethodName := ⟨RX6, "isStuckIn", "()Z"⟩
abbrev cX6_done : ByteArray := prog_8_method_34_code
def yX6_done : MethodName := ⟨RX6, "done", "()I"⟩
abbrev cX6_better : ByteArray := prog_8_method_35_code
def yX6_better : MethodName := ⟨RX6, "better", "(I)I"⟩
abbrev cX6_hear : ByteArray := prog_8_method_36_code
def yX6_hear : MethodName := ⟨RX6, "hear", "(IIIII)I"⟩
abbrev cX6_isTold : ByteArray := prog_8_method_37_code
def yX6_isTold : MethodName := ⟨RX6, "isTold", "(II)Z"⟩
abbrev cX6_songOf : ByteArray := prog_8_method_38_code
def yX6_songOf : MethodName := ⟨RX6, "songOf", "(II)I"⟩
abbrev cX6_heard : ByteArray := prog_8_method_39_code
def yX6_heard : MethodName := ⟨RX6, "heard", "(IIIII)I"⟩
abbrev cX6_mayBe : ByteArray := prog_8_method_40_code
def yX6_mayBe : MethodName := ⟨RX6, "mayBe", "(IIIII)I"⟩
abbrev cX6_type : ByteArray := prog_8_method_41_code
def yX6_type : MethodName := ⟨RX6, "type", "(JI)I"⟩
abbrev cX6_nextByte : ByteArray := prog_8_method_42_code
def yX6_nextByte : MethodName := ⟨RX6, "nextByte", "()I"⟩
abbrev cX6_readNumber : ByteArray := prog_8_method_43_code
def yX6_readNumber : MethodName := ⟨RX6, "readNumber", "(I)I"⟩
abbrev cX6_readAct : ByteArray := prog_8_method_44_code
def yX6_readAct : MethodName := ⟨RX6, "readAct", "()Z"⟩
abbrev cX6_evening : ByteArray := prog_8_method_45_code
def yX6_evening : MethodName := ⟨RX6, "evening", "()I"⟩
abbrev cX6_image : ByteArray := prog_8_method_46_code
def yX6_image : MethodName := ⟨RX6, "image", "()I"⟩
abbrev cX6_restore : ByteArray := prog_8_method_47_code
def yX6_restore : MethodName := ⟨RX6, "restore", "()I"⟩
abbrev cX6_isSheet : ByteArray := prog_8_method_48_code
def yX6_isSheet : MethodName := ⟨RX6, "isSheet", "(II)Z"⟩
abbrev cX6_sheet : ByteArray := prog_8_method_49_code
def yX6_sheet : MethodName := ⟨RX6, "sheet", "(III)I"⟩
abbrev cX6_drop : ByteArray := prog_8_method_50_code
def yX6_drop : MethodName := ⟨RX6, "drop", "(I)I"⟩
abbrev cX6_lacksRow : ByteArray := prog_8_method_51_code
def yX6_lacksRow : MethodName := ⟨RX6, "lacksRow", "(IIII)I"⟩
abbrev cX6_item : ByteArray := prog_8_method_52_code
def yX6_item : MethodName := ⟨RX6, "item", "(IIII)I"⟩
def RJ6 : String := "java/lang/Integer"
def TJ6 : u_T := fun k => match k with
  | _ => ("", "", "", false)
def tyJ6 : Nat → FieldType := fun k => match k with
  | _ => .int
abbrev wsJ60 : List Cond := u_ws RJ6 TJ6 0
theorem nmJ6 : ∀ a, a < 0 → ∀ b, b < 0 → a ≠ b → (TJ6 a).2.1 ≠ (TJ6 b).2.1 := by decide +kernel
theorem tyJ6_ok : ∀ k, k < 0 → parseFieldDescriptor (TJ6 k).2.2.1 = some (tyJ6 k) := by decide +kernel
abbrev cJ6_bitCount_0f7a4 : ByteArray := prog_9_method_49_code
def yJ6_bitCount_0f7a4 : MethodName := ⟨RJ6, "bitCount", "(I)I"⟩
def RJ9 : String := "java/lang/Math"
def TJ9 : u_T := fun k => match k with
  | _ => ("", "", "", false)
def tyJ9 : Nat → FieldType := fun k => match k with
  | _ => .int
abbrev wsJ90 : List Cond := u_ws RJ9 TJ9 0
theorem nmJ9 : ∀ a, a < 0 → ∀ b, b < 0 → a ≠ b → (TJ9 a).2.1 ≠ (TJ9 b).2.1 := by decide +kernel
theorem tyJ9_ok : ∀ k, k < 0 → parseFieldDescriptor (TJ9 k).2.2.1 = some (tyJ9 k) := by decide +kernel
abbrev cJ9_max_7cf53 : ByteArray := prog_10_method_65_code
def yJ9_max_7cf53 : MethodName := ⟨RJ9, "max", "(II)I"⟩
abbrev cJ9_min_7cf53 : ByteArray := prog_10_method_69_code
def yJ9_min_7cf53 : MethodName := ⟨RJ9, "min", "(II)I"⟩
def RJ10 : String := "java/lang/System"
def TJ10 : u_T := fun k => match k with
  | _ => ("", "", "", false)
def tyJ10 : Nat → FieldType := fun k => match k with
  | _ => .int
abbrev wsJ100 : List Cond := u_ws RJ10 TJ10 0
theorem nmJ10 : ∀ a, a < 0 → ∀ b, b < 0 → a ≠ b → (TJ10 a).2.1 ≠ (TJ10 b).2.1 := by decide +kernel
theorem tyJ10_ok : ∀ k, k < 0 → parseFieldDescriptor (TJ10 k).2.2.1 = some (tyJ10 k) := by decide +kernel
def RL : String := "RecordBoxLaw"
abbrev cL_law : ByteArray := code
def yL_law : MethodName := ⟨RL, "law", "([I)Z"⟩
abbrev vwCl : List vw_C := [(RX0, TX0, 9), (RX1, TX1, 3), (RX2, TX2, 6), (RX3, TX3, 8), (RX4, TX4, 16), (RX5, TX5, 8), (RX6, TX6, 19)]
end
section
theorem dX0_init_0 : decode cX0_init 0 = .ok (.aload_n 0, 1) := by decide +kernel
theorem dX0_init_1 : decode cX0_init 1 = .ok (.invokespecial 3, 3) := by decide +kernel
theorem dX0_init_4 : decode cX0_init 4 = .ok (.aload_n 0, 1) := by decide +kernel
theorem dX0_init_5 : decode cX0_init 5 = .ok (.new 9, 3) := by decide +kernel
theorem dX0_init_8 : decode cX0_init 8 = .ok (.dup, 1) := by decide +kernel
theorem dX0_init_9 : decode cX0_init 9 = .ok (.invokespecial 11, 3) := by decide +kernel
theorem dX0_init_12 : decode cX0_init 12 = .ok (.putfield 12, 3) := by decide +kernel
theorem dX0_init_15 : decode cX0_init 15 = .ok (.aload_n 0, 1) := by decide +kernel
theorem dX0_init_16 : decode cX0_init 16 = .ok (.bipush 64, 2) := by decide +kernel
theorem dX0_init_18 : decode cX0_init 18 = .ok (.newarray .int, 2) := by decide +kernel
theorem dX0_init_20 : decode cX0_init 20 = .ok (.putfield 18, 3) := by decide +kernel
theorem dX0_init_23 : decode cX0_init 23 = .ok (.aload_n 0, 1) := by decide +kernel
theorem dX0_init_24 : decode cX0_init 24 = .ok (.bipush 64, 2) := by decide +kernel
theorem dX0_init_26 : decode cX0_init 26 = .ok (.newarray .int, 2) := by decide +kernel
theorem dX0_init_28 : decode cX0_init 28 = .ok (.putfield 22, 3) := by decide +kernel
theorem dX0_init_31 : decode cX0_init 31 = .ok (.aload_n 0, 1) := by decide +kernel
theorem dX0_init_32 : decode cX0_init 32 = .ok (.iconst 0, 1) := by decide +kernel
theorem dX0_init_33 : decode cX0_init 33 = .ok (.putfield 25, 3) := by decide +kernel
theorem dX0_init_36 : decode cX0_init 36 = .ok (.aload_n 0, 1) := by decide +kernel
theorem dX0_init_37 : decode cX0_init 37 = .ok (.iconst 0, 1) := by decide +kernel
theorem dX0_init_38 : decode cX0_init 38 = .ok (.putfield 29, 3) := by decide +kernel
theorem dX0_init_41 : decode cX0_init 41 = .ok (.aload_n 0, 1) := by decide +kernel
theorem dX0_init_42 : decode cX0_init 42 = .ok (.bipush (-4), 2) := by decide +kernel
theorem dX0_init_44 : decode cX0_init 44 = .ok (.putfield 33, 3) := by decide +kernel
theorem dX0_init_47 : decode cX0_init 47 = .ok (.aload_n 0, 1) := by decide +kernel
theorem dX0_init_48 : decode cX0_init 48 = .ok (.bipush (-4), 2) := by decide +kernel
theorem dX0_init_50 : decode cX0_init 50 = .ok (.putfield 36, 3) := by decide +kernel
theorem dX0_init_53 : decode cX0_init 53 = .ok (.aload_n 0, 1) := by decide +kernel
theorem dX0_init_54 : decode cX0_init 54 = .ok (.bipush (-4), 2) := by decide +kernel
theorem dX0_init_56 : decode cX0_init 56 = .ok (.putfield 39, 3) := by decide +kernel
theorem dX0_init_59 : decode cX0_init 59 = .ok (.aload_n 0, 1) := by decide +kernel
theorem dX0_init_60 : decode cX0_init 60 = .ok (.iconst 0, 1) := by decide +kernel
theorem dX0_init_61 : decode cX0_init 61 = .ok (.putfield 42, 3) := by decide +kernel
theorem dX0_init_64 : decode cX0_init 64 = .ok (.return_, 1) := by decide +kernel
theorem dX0_forget_0 : decode cX0_forget 0 = .ok (.aload_n 0, 1) := by decide +kernel
theorem dX0_forget_1 : decode cX0_forget 1 = .ok (.iconst 0, 1) := by decide +kernel
theorem dX0_forget_2 : decode cX0_forget 2 = .ok (.putfield 29, 3) := by decide +kernel
theorem dX0_forget_5 : decode cX0_forget 5 = .ok (.aload_n 0, 1) := by decide +kernel
theorem dX0_forget_6 : decode cX0_forget 6 = .ok (.iconst 0, 1) := by decide +kernel
theorem dX0_forget_7 : decode cX0_forget 7 = .ok (.putfield 42, 3) := by decide +kernel
theorem dX0_forget_10 : decode cX0_forget 10 = .ok (.return_, 1) := by decide +kernel
theorem dX0_foresee_0 : decode cX0_foresee 0 = .ok (.aload_n 0, 1) := by decide +kernel
theorem dX0_foresee_1 : decode cX0_foresee 1 = .ok (.getfield 29, 3) := by decide +kernel
theorem dX0_foresee_4 : decode cX0_foresee 4 = .ok (.ifCond .eq 4, 3) := by decide +kernel
theorem dX0_foresee_7 : decode cX0_foresee 7 = .ok (.return_, 1) := by decide +kernel
theorem dX0_foresee_8 : decode cX0_foresee 8 = .ok (.aload_n 0, 1) := by decide +kernel
theorem dX0_foresee_9 : decode cX0_foresee 9 = .ok (.iconst 1, 1) := by decide +kernel
theorem dX0_foresee_10 : decode cX0_foresee 10 = .ok (.putfield 29, 3) := by decide +kernel
theorem dX0_foresee_13 : decode cX0_foresee 13 = .ok (.aload_n 0, 1) := by decide +kernel
theorem dX0_foresee_14 : decode cX0_foresee 14 = .ok (.iconst 0, 1) := by decide +kernel
theorem dX0_foresee_15 : decode cX0_foresee 15 = .ok (.putfield 25, 3) := by decide +kernel
theorem dX0_foresee_18 : decode cX0_foresee 18 = .ok (.aload_n 0, 1) := by decide +kernel
theorem dX0_foresee_19 : decode cX0_foresee 19 = .ok (.getfield 12, 3) := by decide +kernel
theorem dX0_foresee_22 : decode cX0_foresee 22 = .ok (.aload_n 1, 1) := by decide +kernel
theorem dX0_foresee_23 : decode cX0_foresee 23 = .ok (.invokevirtual 45, 3) := by decide +kernel
theorem dX0_foresee_26 : decode cX0_foresee 26 = .ok (.iconst 0, 1) := by decide +kernel
theorem dX0_foresee_27 : decode cX0_foresee 27 = .ok (.istore_n 2, 1) := by decide +kernel
theorem dX0_foresee_28 : decode cX0_foresee 28 = .ok (.iconst 0, 1) := by decide +kernel
theorem dX0_foresee_29 : decode cX0_foresee 29 = .ok (.istore_n 3, 1) := by decide +kernel
theorem dX0_foresee_30 : decode cX0_foresee 30 = .ok (.iload_n 3, 1) := by decide +kernel
theorem dX0_foresee_31 : decode cX0_foresee 31 = .ok (.sipush 1536, 3) := by decide +kernel
theorem dX0_foresee_34 : decode cX0_foresee 34 = .ok (.if_icmp .ge 121, 3) := by decide +kernel
theorem dX0_foresee_37 : decode cX0_foresee 37 = .ok (.aload_n 0, 1) := by decide +kernel
theorem dX0_foresee_38 : decode cX0_foresee 38 = .ok (.getfield 25, 3) := by decide +kernel
theorem dX0_foresee_41 : decode cX0_foresee 41 = .ok (.bipush 64, 2) := by decide +kernel
theorem dX0_foresee_43 : decode cX0_foresee 43 = .ok (.if_icmp .ge 112, 3) := by decide +kernel
theorem dX0_foresee_46 : decode cX0_foresee 46 = .ok (.aload_n 0, 1) := by decide +kernel
theorem dX0_foresee_47 : decode cX0_foresee 47 = .ok (.getfield 12, 3) := by decide +kernel
theorem dX0_foresee_50 : decode cX0_foresee 50 = .ok (.invokevirtual 49, 3) := by decide +kernel
theorem dX0_foresee_53 : decode cX0_foresee 53 = .ok (.ifCond .ne 9, 3) := by decide +kernel
theorem dX0_foresee_56 : decode cX0_foresee 56 = .ok (.iload_n 2, 1) := by decide +kernel
theorem dX0_foresee_57 : decode cX0_foresee 57 = .ok (.bipush 24, 2) := by decide +kernel
theorem dX0_foresee_59 : decode cX0_foresee 59 = .ok (.if_icmp .lt 4, 3) := by decide +kernel
theorem dX0_foresee_62 : decode cX0_foresee 62 = .ok (.return_, 1) := by decide +kernel
theorem dX0_foresee_63 : decode cX0_foresee 63 = .ok (.aload_n 0, 1) := by decide +kernel
theorem dX0_foresee_64 : decode cX0_foresee 64 = .ok (.getfield 12, 3) := by decide +kernel
theorem dX0_foresee_67 : decode cX0_foresee 67 = .ok (.getfield 53, 3) := by decide +kernel
theorem dX0_foresee_70 : decode cX0_foresee 70 = .ok (.istore 4, 2) := by decide +kernel
theorem dX0_foresee_72 : decode cX0_foresee 72 = .ok (.aload_n 0, 1) := by decide +kernel
theorem dX0_foresee_73 : decode cX0_foresee 73 = .ok (.getfield 12, 3) := by decide +kernel
theorem dX0_foresee_76 : decode cX0_foresee 76 = .ok (.bipush 120, 2) := by decide +kernel
theorem dX0_foresee_78 : decode cX0_foresee 78 = .ok (.invokevirtual 56, 3) := by decide +kernel
theorem dX0_foresee_81 : decode cX0_foresee 81 = .ok (.pop, 1) := by decide +kernel
theorem dX0_foresee_82 : decode cX0_foresee 82 = .ok (.aload_n 0, 1) := by decide +kernel
theorem dX0_foresee_83 : decode cX0_foresee 83 = .ok (.getfield 12, 3) := by decide +kernel
theorem dX0_foresee_86 : decode cX0_foresee 86 = .ok (.getfield 53, 3) := by decide +kernel
theorem dX0_foresee_89 : decode cX0_foresee 89 = .ok (.iload 4, 2) := by decide +kernel
theorem dX0_foresee_91 : decode cX0_foresee 91 = .ok (.if_icmp .ne 9, 3) := by decide +kernel
theorem dX0_foresee_94 : decode cX0_foresee 94 = .ok (.iinc 2 1, 3) := by decide +kernel
theorem dX0_foresee_97 : decode cX0_foresee 97 = .ok (.goto 52, 3) := by decide +kernel
theorem dX0_foresee_100 : decode cX0_foresee 100 = .ok (.iconst 0, 1) := by decide +kernel
theorem dX0_foresee_101 : decode cX0_foresee 101 = .ok (.istore_n 2, 1) := by decide +kernel
theorem dX0_foresee_102 : decode cX0_foresee 102 = .ok (.aload_n 0, 1) := by decide +kernel
theorem dX0_foresee_103 : decode cX0_foresee 103 = .ok (.getfield 18, 3) := by decide +kernel
theorem dX0_foresee_106 : decode cX0_foresee 106 = .ok (.aload_n 0, 1) := by decide +kernel
theorem dX0_foresee_107 : decode cX0_foresee 107 = .ok (.getfield 25, 3) := by decide +kernel
theorem dX0_foresee_110 : decode cX0_foresee 110 = .ok (.aload_n 0, 1) := by decide +kernel
theorem dX0_foresee_111 : decode cX0_foresee 111 = .ok (.getfield 12, 3) := by decide +kernel
theorem dX0_foresee_114 : decode cX0_foresee 114 = .ok (.invokevirtual 60, 3) := by decide +kernel
theorem dX0_foresee_117 : decode cX0_foresee 117 = .ok (.iastore, 1) := by decide +kernel
theorem dX0_foresee_118 : decode cX0_foresee 118 = .ok (.aload_n 0, 1) := by decide +kernel
theorem dX0_foresee_119 : decode cX0_foresee 119 = .ok (.getfield 22, 3) := by decide +kernel
theorem dX0_foresee_122 : decode cX0_foresee 122 = .ok (.aload_n 0, 1) := by decide +kernel
theorem dX0_foresee_123 : decode cX0_foresee 123 = .ok (.getfield 25, 3) := by decide +kernel
theorem dX0_foresee_126 : decode cX0_foresee 126 = .ok (.aload_n 0, 1) := by decide +kernel
theorem dX0_foresee_127 : decode cX0_foresee 127 = .ok (.getfield 12, 3) := by decide +kernel
theorem dX0_foresee_130 : decode cX0_foresee 130 = .ok (.getfield 64, 3) := by decide +kernel
theorem dX0_foresee_133 : decode cX0_foresee 133 = .ok (.aload_n 1, 1) := by decide +kernel
theorem dX0_foresee_134 : decode cX0_foresee 134 = .ok (.getfield 64, 3) := by decide +kernel
theorem dX0_foresee_137 : decode cX0_foresee 137 = .ok (.isub, 1) := by decide +kernel
theorem dX0_foresee_138 : decode cX0_foresee 138 = .ok (.iastore, 1) := by decide +kernel
theorem dX0_foresee_139 : decode cX0_foresee 139 = .ok (.aload_n 0, 1) := by decide +kernel
theorem dX0_foresee_140 : decode cX0_foresee 140 = .ok (.dup, 1) := by decide +kernel
theorem dX0_foresee_141 : decode cX0_foresee 141 = .ok (.getfield 25, 3) := by decide +kernel
theorem dX0_foresee_144 : decode cX0_foresee 144 = .ok (.iconst 1, 1) := by decide +kernel
theorem dX0_foresee_145 : decode cX0_foresee 145 = .ok (.iadd, 1) := by decide +kernel
theorem dX0_foresee_146 : decode cX0_foresee 146 = .ok (.putfield 25, 3) := by decide +kernel
theorem dX0_foresee_149 : decode cX0_foresee 149 = .ok (.iinc 3 1, 3) := by decide +kernel
theorem dX0_foresee_152 : decode cX0_foresee 152 = .ok (.goto (-122), 3) := by decide +kernel
theorem dX0_foresee_155 : decode cX0_foresee 155 = .ok (.return_, 1) := by decide +kernel
theorem dX0_startOf_0 : decode cX0_startOf 0 = .ok (.iconst 0, 1) := by decide +kernel
theorem dX0_startOf_1 : decode cX0_startOf 1 = .ok (.istore_n 2, 1) := by decide +kernel
theorem dX0_startOf_2 : decode cX0_startOf 2 = .ok (.iload_n 2, 1) := by decide +kernel
theorem dX0_startOf_3 : decode cX0_startOf 3 = .ok (.aload_n 0, 1) := by decide +kernel
theorem dX0_startOf_4 : decode cX0_startOf 4 = .ok (.getfield 25, 3) := by decide +kernel
theorem dX0_startOf_7 : decode cX0_startOf 7 = .ok (.if_icmp .ge 32, 3) := by decide +kernel
theorem dX0_startOf_10 : decode cX0_startOf 10 = .ok (.iload_n 2, 1) := by decide +kernel
theorem dX0_startOf_11 : decode cX0_startOf 11 = .ok (.bipush 64, 2) := by decide +kernel
theorem dX0_startOf_13 : decode cX0_startOf 13 = .ok (.if_icmp .ge 26, 3) := by decide +kernel
theorem dX0_startOf_16 : decode cX0_startOf 16 = .ok (.aload_n 0, 1) := by decide +kernel
theorem dX0_startOf_17 : decode cX0_startOf 17 = .ok (.getfield 18, 3) := by decide +kernel
theorem dX0_startOf_20 : decode cX0_startOf 20 = .ok (.iload_n 2, 1) := by decide +kernel
theorem dX0_startOf_21 : decode cX0_startOf 21 = .ok (.iaload, 1) := by decide +kernel
theorem dX0_startOf_22 : decode cX0_startOf 22 = .ok (.iload_n 1, 1) := by decide +kernel
theorem dX0_startOf_23 : decode cX0_startOf 23 = .ok (.if_icmp .ne 10, 3) := by decide +kernel
theorem dX0_startOf_26 : decode cX0_startOf 26 = .ok (.aload_n 0, 1) := by decide +kernel
theorem dX0_startOf_27 : decode cX0_startOf 27 = .ok (.getfield 22, 3) := by decide +kernel
theorem dX0_startOf_30 : decode cX0_startOf 30 = .ok (.iload_n 2, 1) := by decide +kernel
theorem dX0_startOf_31 : decode cX0_startOf 31 = .ok (.iaload, 1) := by decide +kernel
theorem dX0_startOf_32 : decode cX0_startOf 32 = .ok (.ireturn, 1) := by decide +kernel
theorem dX0_startOf_33 : decode cX0_startOf 33 = .ok (.iinc 2 1, 3) := by decide +kernel
theorem dX0_startOf_36 : decode cX0_startOf 36 = .ok (.goto (-34), 3) := by decide +kernel
theorem dX0_startOf_39 : decode cX0_startOf 39 = .ok (.bipush (-4), 2) := by decide +kernel
theorem dX0_startOf_41 : decode cX0_startOf 41 = .ok (.ireturn, 1) := by decide +kernel
theorem dX0_doneBy_0 : decode cX0_doneBy 0 = .ok (.aload_n 0, 1) := by decide +kernel
theorem dX0_doneBy_1 : decode cX0_doneBy 1 = .ok (.getfield 12, 3) := by decide +kernel
theorem dX0_doneBy_4 : decode cX0_doneBy 4 = .ok (.aload_n 1, 1) := by decide +kernel
theorem dX0_doneBy_5 : decode cX0_doneBy 5 = .ok (.invokevirtual 45, 3) := by decide +kernel
theorem dX0_doneBy_8 : decode cX0_doneBy 8 = .ok (.aload_n 0, 1) := by decide +kernel
theorem dX0_doneBy_9 : decode cX0_doneBy 9 = .ok (.getfield 12, 3) := by decide +kernel
theorem dX0_doneBy_12 : decode cX0_doneBy 12 = .ok (.iload_n 2, 1) := by decide +kernel
theorem dX0_doneBy_13 : decode cX0_doneBy 13 = .ok (.iload_n 3, 1) := by decide +kernel
theorem dX0_doneBy_14 : decode cX0_doneBy 14 = .ok (.invokevirtual 67, 3) := by decide +kernel
theorem dX0_doneBy_17 : decode cX0_doneBy 17 = .ok (.iconst 0, 1) := by decide +kernel
theorem dX0_doneBy_18 : decode cX0_doneBy 18 = .ok (.istore 4, 2) := by decide +kernel
theorem dX0_doneBy_20 : decode cX0_doneBy 20 = .ok (.iload 4, 2) := by decide +kernel
theorem dX0_doneBy_22 : decode cX0_doneBy 22 = .ok (.sipush 1000, 3) := by decide +kernel
theorem dX0_doneBy_25 : decode cX0_doneBy 25 = .ok (.if_icmp .ge 29, 3) := by decide +kernel
theorem dX0_doneBy_28 : decode cX0_doneBy 28 = .ok (.aload_n 0, 1) := by decide +kernel
theorem dX0_doneBy_29 : decode cX0_doneBy 29 = .ok (.getfield 12, 3) := by decide +kernel
theorem dX0_doneBy_32 : decode cX0_doneBy 32 = .ok (.invokevirtual 49, 3) := by decide +kernel
theorem dX0_doneBy_35 : decode cX0_doneBy 35 = .ok (.ifCond .ne 19, 3) := by decide +kernel
theorem dX0_doneBy_38 : decode cX0_doneBy 38 = .ok (.aload_n 0, 1) := by decide +kernel
theorem dX0_doneBy_39 : decode cX0_doneBy 39 = .ok (.getfield 12, 3) := by decide +kernel
theorem dX0_doneBy_42 : decode cX0_doneBy 42 = .ok (.bipush 120, 2) := by decide +kernel
theorem dX0_doneBy_44 : decode cX0_doneBy 44 = .ok (.invokevirtual 56, 3) := by decide +kernel
theorem dX0_doneBy_47 : decode cX0_doneBy 47 = .ok (.pop, 1) := by decide +kernel
theorem dX0_doneBy_48 : decode cX0_doneBy 48 = .ok (.iinc 4 1, 3) := by decide +kernel
theorem dX0_doneBy_51 : decode cX0_doneBy 51 = .ok (.goto (-31), 3) := by decide +kernel
theorem dX0_doneBy_54 : decode cX0_doneBy 54 = .ok (.aload_n 0, 1) := by decide +kernel
theorem dX0_doneBy_55 : decode cX0_doneBy 55 = .ok (.getfield 12, 3) := by decide +kernel
theorem dX0_doneBy_58 : decode cX0_doneBy 58 = .ok (.getfield 64, 3) := by decide +kernel
theorem dX0_doneBy_61 : decode cX0_doneBy 61 = .ok (.aload_n 1, 1) := by decide +kernel
theorem dX0_doneBy_62 : decode cX0_doneBy 62 = .ok (.getfield 64, 3) := by decide +kernel
theorem dX0_doneBy_65 : decode cX0_doneBy 65 = .ok (.isub, 1) := by decide +kernel
theorem dX0_doneBy_66 : decode cX0_doneBy 66 = .ok (.ireturn, 1) := by decide +kernel
theorem dX0_seekPair_0 : decode cX0_seekPair 0 = .ok (.aload_n 0, 1) := by decide +kernel
theorem dX0_seekPair_1 : decode cX0_seekPair 1 = .ok (.getfield 42, 3) := by decide +kernel
theorem dX0_seekPair_4 : decode cX0_seekPair 4 = .ok (.ifCond .eq 4, 3) := by decide +kernel
theorem dX0_seekPair_7 : decode cX0_seekPair 7 = .ok (.return_, 1) := by decide +kernel
theorem dX0_seekPair_8 : decode cX0_seekPair 8 = .ok (.aload_n 0, 1) := by decide +kernel
theorem dX0_seekPair_9 : decode cX0_seekPair 9 = .ok (.iconst 1, 1) := by decide +kernel
theorem dX0_seekPair_10 : decode cX0_seekPair 10 = .ok (.putfield 42, 3) := by decide +kernel
theorem dX0_seekPair_13 : decode cX0_seekPair 13 = .ok (.aload_n 0, 1) := by decide +kernel
theorem dX0_seekPair_14 : decode cX0_seekPair 14 = .ok (.bipush (-4), 2) := by decide +kernel
theorem dX0_seekPair_16 : decode cX0_seekPair 16 = .ok (.putfield 33, 3) := by decide +kernel
theorem dX0_seekPair_19 : decode cX0_seekPair 19 = .ok (.aload_n 0, 1) := by decide +kernel
theorem dX0_seekPair_20 : decode cX0_seekPair 20 = .ok (.bipush (-4), 2) := by decide +kernel
theorem dX0_seekPair_22 : decode cX0_seekPair 22 = .ok (.putfield 36, 3) := by decide +kernel
theorem dX0_seekPair_25 : decode cX0_seekPair 25 = .ok (.aload_n 0, 1) := by decide +kernel
theorem dX0_seekPair_26 : decode cX0_seekPair 26 = .ok (.bipush (-4), 2) := by decide +kernel
theorem dX0_seekPair_28 : decode cX0_seekPair 28 = .ok (.putfield 39, 3) := by decide +kernel
theorem dX0_seekPair_31 : decode cX0_seekPair 31 = .ok (.aload_n 0, 1) := by decide +kernel
theorem dX0_seekPair_32 : decode cX0_seekPair 32 = .ok (.aload_n 1, 1) := by decide +kernel
theorem dX0_seekPair_33 : decode cX0_seekPair 33 = .ok (.iconst 0, 1) := by decide +kernel
theorem dX0_seekPair_34 : decode cX0_seekPair 34 = .ok (.iconst 0, 1) := by decide +kernel
theorem dX0_seekPair_35 : decode cX0_seekPair 35 = .ok (.invokevirtual 71, 3) := by decide +kernel
theorem dX0_seekPair_38 : decode cX0_seekPair 38 = .ok (.istore_n 2, 1) := by decide +kernel
theorem dX0_seekPair_39 : decode cX0_seekPair 39 = .ok (.iconst 0, 1) := by decide +kernel
theorem dX0_seekPair_40 : decode cX0_seekPair 40 = .ok (.istore_n 3, 1) := by decide +kernel
theorem dX0_seekPair_41 : decode cX0_seekPair 41 = .ok (.iload_n 3, 1) := by decide +kernel
theorem dX0_seekPair_42 : decode cX0_seekPair 42 = .ok (.bipush 10, 2) := by decide +kernel
theorem dX0_seekPair_44 : decode cX0_seekPair 44 = .ok (.if_icmp .ge 77, 3) := by decide +kernel
theorem dX0_seekPair_47 : decode cX0_seekPair 47 = .ok (.iload_n 3, 1) := by decide +kernel
theorem dX0_seekPair_48 : decode cX0_seekPair 48 = .ok (.iconst 1, 1) := by decide +kernel
theorem dX0_seekPair_49 : decode cX0_seekPair 49 = .ok (.iadd, 1) := by decide +kernel
theorem dX0_seekPair_50 : decode cX0_seekPair 50 = .ok (.istore 4, 2) := by decide +kernel
theorem dX0_seekPair_52 : decode cX0_seekPair 52 = .ok (.iload 4, 2) := by decide +kernel
theorem dX0_seekPair_54 : decode cX0_seekPair 54 = .ok (.bipush 10, 2) := by decide +kernel
theorem dX0_seekPair_56 : decode cX0_seekPair 56 = .ok (.if_icmp .ge 59, 3) := by decide +kernel
theorem dX0_seekPair_59 : decode cX0_seekPair 59 = .ok (.aload_n 1, 1) := by decide +kernel
theorem dX0_seekPair_60 : decode cX0_seekPair 60 = .ok (.iload_n 3, 1) := by decide +kernel
theorem dX0_seekPair_61 : decode cX0_seekPair 61 = .ok (.iload 4, 2) := by decide +kernel
theorem dX0_seekPair_63 : decode cX0_seekPair 63 = .ok (.invokestatic 75, 3) := by decide +kernel
theorem dX0_seekPair_66 : decode cX0_seekPair 66 = .ok (.ifCond .eq 14, 3) := by decide +kernel
theorem dX0_seekPair_69 : decode cX0_seekPair 69 = .ok (.aload_n 0, 1) := by decide +kernel
theorem dX0_seekPair_70 : decode cX0_seekPair 70 = .ok (.aload_n 1, 1) := by decide +kernel
theorem dX0_seekPair_71 : decode cX0_seekPair 71 = .ok (.iload_n 3, 1) := by decide +kernel
theorem dX0_seekPair_72 : decode cX0_seekPair 72 = .ok (.iload 4, 2) := by decide +kernel
theorem dX0_seekPair_74 : decode cX0_seekPair 74 = .ok (.invokevirtual 71, 3) := by decide +kernel
theorem dX0_seekPair_77 : decode cX0_seekPair 77 = .ok (.goto 4, 3) := by decide +kernel
theorem dX0_seekPair_80 : decode cX0_seekPair 80 = .ok (.iload_n 2, 1) := by decide +kernel
theorem dX0_seekPair_81 : decode cX0_seekPair 81 = .ok (.istore 5, 2) := by decide +kernel
theorem dX0_seekPair_83 : decode cX0_seekPair 83 = .ok (.iload 5, 2) := by decide +kernel
theorem dX0_seekPair_85 : decode cX0_seekPair 85 = .ok (.iload_n 2, 1) := by decide +kernel
theorem dX0_seekPair_86 : decode cX0_seekPair 86 = .ok (.if_icmp .ge 23, 3) := by decide +kernel
theorem dX0_seekPair_89 : decode cX0_seekPair 89 = .ok (.iload 5, 2) := by decide +kernel
theorem dX0_seekPair_91 : decode cX0_seekPair 91 = .ok (.istore_n 2, 1) := by decide +kernel
theorem dX0_seekPair_92 : decode cX0_seekPair 92 = .ok (.aload_n 0, 1) := by decide +kernel
theorem dX0_seekPair_93 : decode cX0_seekPair 93 = .ok (.iload_n 3, 1) := by decide +kernel
theorem dX0_seekPair_94 : decode cX0_seekPair 94 = .ok (.putfield 33, 3) := by decide +kernel
theorem dX0_seekPair_97 : decode cX0_seekPair 97 = .ok (.aload_n 0, 1) := by decide +kernel
theorem dX0_seekPair_98 : decode cX0_seekPair 98 = .ok (.iload 4, 2) := by decide +kernel
theorem dX0_seekPair_100 : decode cX0_seekPair 100 = .ok (.putfield 36, 3) := by decide +kernel
theorem dX0_seekPair_103 : decode cX0_seekPair 103 = .ok (.aload_n 0, 1) := by decide +kernel
theorem dX0_seekPair_104 : decode cX0_seekPair 104 = .ok (.iload 5, 2) := by decide +kernel
theorem dX0_seekPair_106 : decode cX0_seekPair 106 = .ok (.putfield 39, 3) := by decide +kernel
theorem dX0_seekPair_109 : decode cX0_seekPair 109 = .ok (.iinc 4 1, 3) := by decide +kernel
theorem dX0_seekPair_112 : decode cX0_seekPair 112 = .ok (.goto (-60), 3) := by decide +kernel
theorem dX0_seekPair_115 : decode cX0_seekPair 115 = .ok (.iinc 3 1, 3) := by decide +kernel
theorem dX0_seekPair_118 : decode cX0_seekPair 118 = .ok (.goto (-77), 3) := by decide +kernel
theorem dX0_seekPair_121 : decode cX0_seekPair 121 = .ok (.return_, 1) := by decide +kernel
theorem dX0_mayHelp_0 : decode cX0_mayHelp 0 = .ok (.aload_n 0, 1) := by decide +kernel
theorem dX0_mayHelp_1 : decode cX0_mayHelp 1 = .ok (.iload_n 1, 1) := by decide +kernel
theorem dX0_mayHelp_2 : decode cX0_mayHelp 2 = .ok (.invokevirtual 79, 3) := by decide +kernel
theorem dX0_mayHelp_5 : decode cX0_mayHelp 5 = .ok (.ifCond .ne 31, 3) := by decide +kernel
theorem dX0_mayHelp_8 : decode cX0_mayHelp 8 = .ok (.aload_n 0, 1) := by decide +kernel
theorem dX0_mayHelp_9 : decode cX0_mayHelp 9 = .ok (.iload_n 2, 1) := by decide +kernel
theorem dX0_mayHelp_10 : decode cX0_mayHelp 10 = .ok (.invokevirtual 79, 3) := by decide +kernel
theorem dX0_mayHelp_13 : decode cX0_mayHelp 13 = .ok (.ifCond .ne 23, 3) := by decide +kernel
theorem dX0_mayHelp_16 : decode cX0_mayHelp 16 = .ok (.aload_n 0, 1) := by decide +kernel
theorem dX0_mayHelp_17 : decode cX0_mayHelp 17 = .ok (.iload_n 1, 1) := by decide +kernel
theorem dX0_mayHelp_18 : decode cX0_mayHelp 18 = .ok (.invokevirtual 83, 3) := by decide +kernel
theorem dX0_mayHelp_21 : decode cX0_mayHelp 21 = .ok (.ifCond .ne 11, 3) := by decide +kernel
theorem dX0_mayHelp_24 : decode cX0_mayHelp 24 = .ok (.aload_n 0, 1) := by decide +kernel
theorem dX0_mayHelp_25 : decode cX0_mayHelp 25 = .ok (.iload_n 2, 1) := by decide +kernel
theorem dX0_mayHelp_26 : decode cX0_mayHelp 26 = .ok (.invokevirtual 83, 3) := by decide +kernel
theorem dX0_mayHelp_29 : decode cX0_mayHelp 29 = .ok (.ifCond .eq 7, 3) := by decide +kernel
theorem dX0_mayHelp_32 : decode cX0_mayHelp 32 = .ok (.iconst 1, 1) := by decide +kernel
theorem dX0_mayHelp_33 : decode cX0_mayHelp 33 = .ok (.goto 4, 3) := by decide +kernel
theorem dX0_mayHelp_36 : decode cX0_mayHelp 36 = .ok (.iconst 0, 1) := by decide +kernel
theorem dX0_mayHelp_37 : decode cX0_mayHelp 37 = .ok (.ireturn, 1) := by decide +kernel
theorem dX1_init_0 : decode cX1_init 0 = .ok (.aload_n 0, 1) := by decide +kernel
theorem dX1_init_1 : decode cX1_init 1 = .ok (.invokespecial 3, 3) := by decide +kernel
theorem dX1_init_4 : decode cX1_init 4 = .ok (.aload_n 0, 1) := by decide +kernel
theorem dX1_init_5 : decode cX1_init 5 = .ok (.bipush (-4), 2) := by decide +kernel
theorem dX1_init_7 : decode cX1_init 7 = .ok (.putfield 9, 3) := by decide +kernel
theorem dX1_init_10 : decode cX1_init 10 = .ok (.aload_n 0, 1) := by decide +kernel
theorem dX1_init_11 : decode cX1_init 11 = .ok (.iconst 0, 1) := by decide +kernel
theorem dX1_init_12 : decode cX1_init 12 = .ok (.putfield 15, 3) := by decide +kernel
theorem dX1_init_15 : decode cX1_init 15 = .ok (.aload_n 0, 1) := by decide +kernel
theorem dX1_init_16 : decode cX1_init 16 = .ok (.bipush 24, 2) := by decide +kernel
theorem dX1_init_18 : decode cX1_init 18 = .ok (.newarray .int, 2) := by decide +kernel
theorem dX1_init_20 : decode cX1_init 20 = .ok (.putfield 18, 3) := by decide +kernel
theorem dX1_init_23 : decode cX1_init 23 = .ok (.return_, 1) := by decide +kernel
theorem dX1_hold_0 : decode cX1_hold 0 = .ok (.aload_n 0, 1) := by decide +kernel
theorem dX1_hold_1 : decode cX1_hold 1 = .ok (.iload_n 1, 1) := by decide +kernel
theorem dX1_hold_2 : decode cX1_hold 2 = .ok (.putfield 9, 3) := by decide +kernel
theorem dX1_hold_5 : decode cX1_hold 5 = .ok (.aload_n 0, 1) := by decide +kernel
theorem dX1_hold_6 : decode cX1_hold 6 = .ok (.iload_n 2, 1) := by decide +kernel
theorem dX1_hold_7 : decode cX1_hold 7 = .ok (.putfield 15, 3) := by decide +kernel
theorem dX1_hold_10 : decode cX1_hold 10 = .ok (.iconst 0, 1) := by decide +kernel
theorem dX1_hold_11 : decode cX1_hold 11 = .ok (.istore_n 3, 1) := by decide +kernel
theorem dX1_hold_12 : decode cX1_hold 12 = .ok (.iload_n 3, 1) := by decide +kernel
theorem dX1_hold_13 : decode cX1_hold 13 = .ok (.bipush 24, 2) := by decide +kernel
theorem dX1_hold_15 : decode cX1_hold 15 = .ok (.if_icmp .ge 16, 3) := by decide +kernel
theorem dX1_hold_18 : decode cX1_hold 18 = .ok (.aload_n 0, 1) := by decide +kernel
theorem dX1_hold_19 : decode cX1_hold 19 = .ok (.getfield 18, 3) := by decide +kernel
theorem dX1_hold_22 : decode cX1_hold 22 = .ok (.iload_n 3, 1) := by decide +kernel
theorem dX1_hold_23 : decode cX1_hold 23 = .ok (.iconst 0, 1) := by decide +kernel
theorem dX1_hold_24 : decode cX1_hold 24 = .ok (.iastore, 1) := by decide +kernel
theorem dX1_hold_25 : decode cX1_hold 25 = .ok (.iinc 3 1, 3) := by decide +kernel
theorem dX1_hold_28 : decode cX1_hold 28 = .ok (.goto (-16), 3) := by decide +kernel
theorem dX1_hold_31 : decode cX1_hold 31 = .ok (.return_, 1) := by decide +kernel
theorem dX1_refusalAs_0 : decode cX1_refusalAs 0 = .ok (.aload_n 0, 1) := by decide +kernel
theorem dX1_refusalAs_1 : decode cX1_refusalAs 1 = .ok (.getfield 9, 3) := by decide +kernel
theorem dX1_refusalAs_4 : decode cX1_refusalAs 4 = .ok (.bipush (-4), 2) := by decide +kernel
theorem dX1_refusalAs_6 : decode cX1_refusalAs 6 = .ok (.if_icmp .ne 6, 3) := by decide +kernel
theorem dX1_refusalAs_9 : decode cX1_refusalAs 9 = .ok (.bipush (-11), 2) := by decide +kernel
theorem dX1_refusalAs_11 : decode cX1_refusalAs 11 = .ok (.ireturn, 1) := by decide +kernel
theorem dX1_refusalAs_12 : decode cX1_refusalAs 12 = .ok (.aload_n 0, 1) := by decide +kernel
theorem dX1_refusalAs_13 : decode cX1_refusalAs 13 = .ok (.getfield 9, 3) := by decide +kernel
theorem dX1_refusalAs_16 : decode cX1_refusalAs 16 = .ok (.iload_n 1, 1) := by decide +kernel
theorem dX1_refusalAs_17 : decode cX1_refusalAs 17 = .ok (.if_icmp .ne 7, 3) := by decide +kernel
theorem dX1_refusalAs_20 : decode cX1_refusalAs 20 = .ok (.iconst 0, 1) := by decide +kernel
theorem dX1_refusalAs_21 : decode cX1_refusalAs 21 = .ok (.goto 5, 3) := by decide +kernel
theorem dX1_refusalAs_24 : decode cX1_refusalAs 24 = .ok (.bipush (-12), 2) := by decide +kernel
theorem dX1_refusalAs_26 : decode cX1_refusalAs 26 = .ok (.ireturn, 1) := by decide +kernel
theorem dX1_write_0 : decode cX1_write 0 = .ok (.aload_n 0, 1) := by decide +kernel
theorem dX1_write_1 : decode cX1_write 1 = .ok (.getfield 9, 3) := by decide +kernel
theorem dX1_write_4 : decode cX1_write 4 = .ok (.ifCond .ne 14, 3) := by decide +kernel
theorem dX1_write_7 : decode cX1_write 7 = .ok (.aload_n 0, 1) := by decide +kernel
theorem dX1_write_8 : decode cX1_write 8 = .ok (.getfield 18, 3) := by decide +kernel
theorem dX1_write_11 : decode cX1_write 11 = .ok (.iload_n 1, 1) := by decide +kernel
theorem dX1_write_12 : decode cX1_write 12 = .ok (.iload_n 2, 1) := by decide +kernel
theorem dX1_write_13 : decode cX1_write 13 = .ok (.i2b, 1) := by decide +kernel
theorem dX1_write_14 : decode cX1_write 14 = .ok (.iastore, 1) := by decide +kernel
theorem dX1_write_15 : decode cX1_write 15 = .ok (.goto 29, 3) := by decide +kernel
theorem dX1_write_18 : decode cX1_write 18 = .ok (.aload_n 0, 1) := by decide +kernel
theorem dX1_write_19 : decode cX1_write 19 = .ok (.getfield 9, 3) := by decide +kernel
theorem dX1_write_22 : decode cX1_write 22 = .ok (.iconst 1, 1) := by decide +kernel
theorem dX1_write_23 : decode cX1_write 23 = .ok (.if_icmp .ne 14, 3) := by decide +kernel
theorem dX1_write_26 : decode cX1_write 26 = .ok (.aload_n 0, 1) := by decide +kernel
theorem dX1_write_27 : decode cX1_write 27 = .ok (.getfield 18, 3) := by decide +kernel
theorem dX1_write_30 : decode cX1_write 30 = .ok (.iload_n 1, 1) := by decide +kernel
theorem dX1_write_31 : decode cX1_write 31 = .ok (.iload_n 2, 1) := by decide +kernel
theorem dX1_write_32 : decode cX1_write 32 = .ok (.i2s, 1) := by decide +kernel
theorem dX1_write_33 : decode cX1_write 33 = .ok (.iastore, 1) := by decide +kernel
theorem dX1_write_34 : decode cX1_write 34 = .ok (.goto 10, 3) := by decide +kernel
theorem dX1_write_37 : decode cX1_write 37 = .ok (.aload_n 0, 1) := by decide +kernel
theorem dX1_write_38 : decode cX1_write 38 = .ok (.getfield 18, 3) := by decide +kernel
theorem dX1_write_41 : decode cX1_write 41 = .ok (.iload_n 1, 1) := by decide +kernel
theorem dX1_write_42 : decode cX1_write 42 = .ok (.iload_n 2, 1) := by decide +kernel
theorem dX1_write_43 : decode cX1_write 43 = .ok (.iastore, 1) := by decide +kernel
theorem dX1_write_44 : decode cX1_write 44 = .ok (.return_, 1) := by decide +kernel
theorem dX1_areTimes_0 : decode cX1_areTimes 0 = .ok (.iconst 0, 1) := by decide +kernel
theorem dX1_areTimes_1 : decode cX1_areTimes 1 = .ok (.istore_n 3, 1) := by decide +kernel
theorem dX1_areTimes_2 : decode cX1_areTimes 2 = .ok (.iload_n 3, 1) := by decide +kernel
theorem dX1_areTimes_3 : decode cX1_areTimes 3 = .ok (.iload_n 2, 1) := by decide +kernel
theorem dX1_areTimes_4 : decode cX1_areTimes 4 = .ok (.if_icmp .ge 23, 3) := by decide +kernel
theorem dX1_areTimes_7 : decode cX1_areTimes 7 = .ok (.aload_n 0, 1) := by decide +kernel
theorem dX1_areTimes_8 : decode cX1_areTimes 8 = .ok (.getfield 18, 3) := by decide +kernel
theorem dX1_areTimes_11 : decode cX1_areTimes 11 = .ok (.iload_n 1, 1) := by decide +kernel
theorem dX1_areTimes_12 : decode cX1_areTimes 12 = .ok (.iload_n 3, 1) := by decide +kernel
theorem dX1_areTimes_13 : decode cX1_areTimes 13 = .ok (.iadd, 1) := by decide +kernel
theorem dX1_areTimes_14 : decode cX1_areTimes 14 = .ok (.iaload, 1) := by decide +kernel
theorem dX1_areTimes_15 : decode cX1_areTimes 15 = .ok (.iconst 1, 1) := by decide +kernel
theorem dX1_areTimes_16 : decode cX1_areTimes 16 = .ok (.if_icmp .ge 5, 3) := by decide +kernel
theorem dX1_areTimes_19 : decode cX1_areTimes 19 = .ok (.iconst 0, 1) := by decide +kernel
theorem dX1_areTimes_20 : decode cX1_areTimes 20 = .ok (.ireturn, 1) := by decide +kernel
theorem dX1_areTimes_21 : decode cX1_areTimes 21 = .ok (.iinc 3 1, 3) := by decide +kernel
theorem dX1_areTimes_24 : decode cX1_areTimes 24 = .ok (.goto (-22), 3) := by decide +kernel
theorem dX1_areTimes_27 : decode cX1_areTimes 27 = .ok (.iconst 1, 1) := by decide +kernel
theorem dX1_areTimes_28 : decode cX1_areTimes 28 = .ok (.ireturn, 1) := by decide +kernel
theorem dX1_onlyGap_0 : decode cX1_onlyGap 0 = .ok (.bipush (-4), 2) := by decide +kernel
theorem dX1_onlyGap_2 : decode cX1_onlyGap 2 = .ok (.istore 4, 2) := by decide +kernel
theorem dX1_onlyGap_4 : decode cX1_onlyGap 4 = .ok (.iconst 0, 1) := by decide +kernel
theorem dX1_onlyGap_5 : decode cX1_onlyGap 5 = .ok (.istore 5, 2) := by decide +kernel
theorem dX1_onlyGap_7 : decode cX1_onlyGap 7 = .ok (.iload 5, 2) := by decide +kernel
theorem dX1_onlyGap_9 : decode cX1_onlyGap 9 = .ok (.iload_n 2, 1) := by decide +kernel
theorem dX1_onlyGap_10 : decode cX1_onlyGap 10 = .ok (.if_icmp .ge 36, 3) := by decide +kernel
theorem dX1_onlyGap_13 : decode cX1_onlyGap 13 = .ok (.aload_n 0, 1) := by decide +kernel
theorem dX1_onlyGap_14 : decode cX1_onlyGap 14 = .ok (.getfield 18, 3) := by decide +kernel
theorem dX1_onlyGap_17 : decode cX1_onlyGap 17 = .ok (.iload_n 1, 1) := by decide +kernel
theorem dX1_onlyGap_18 : decode cX1_onlyGap 18 = .ok (.iload 5, 2) := by decide +kernel
theorem dX1_onlyGap_20 : decode cX1_onlyGap 20 = .ok (.iadd, 1) := by decide +kernel
theorem dX1_onlyGap_21 : decode cX1_onlyGap 21 = .ok (.iaload, 1) := by decide +kernel
theorem dX1_onlyGap_22 : decode cX1_onlyGap 22 = .ok (.iload_n 3, 1) := by decide +kernel
theorem dX1_onlyGap_23 : decode cX1_onlyGap 23 = .ok (.if_icmp .lt 17, 3) := by decide +kernel
theorem dX1_onlyGap_26 : decode cX1_onlyGap 26 = .ok (.iload 4, 2) := by decide +kernel
theorem dX1_onlyGap_28 : decode cX1_onlyGap 28 = .ok (.bipush (-4), 2) := by decide +kernel
theorem dX1_onlyGap_30 : decode cX1_onlyGap 30 = .ok (.if_icmp .eq 6, 3) := by decide +kernel
theorem dX1_onlyGap_33 : decode cX1_onlyGap 33 = .ok (.bipush (-4), 2) := by decide +kernel
theorem dX1_onlyGap_35 : decode cX1_onlyGap 35 = .ok (.ireturn, 1) := by decide +kernel
theorem dX1_onlyGap_36 : decode cX1_onlyGap 36 = .ok (.iload 5, 2) := by decide +kernel
theorem dX1_onlyGap_38 : decode cX1_onlyGap 38 = .ok (.istore 4, 2) := by decide +kernel
theorem dX1_onlyGap_40 : decode cX1_onlyGap 40 = .ok (.iinc 5 1, 3) := by decide +kernel
theorem dX1_onlyGap_43 : decode cX1_onlyGap 43 = .ok (.goto (-36), 3) := by decide +kernel
theorem dX1_onlyGap_46 : decode cX1_onlyGap 46 = .ok (.iload 4, 2) := by decide +kernel
theorem dX1_onlyGap_48 : decode cX1_onlyGap 48 = .ok (.ireturn, 1) := by decide +kernel
theorem dX2_init_0 : decode cX2_init 0 = .ok (.aload_n 0, 1) := by decide +kernel
theorem dX2_init_1 : decode cX2_init 1 = .ok (.invokespecial 3, 3) := by decide +kernel
theorem dX2_init_4 : decode cX2_init 4 = .ok (.aload_n 0, 1) := by decide +kernel
theorem dX2_init_5 : decode cX2_init 5 = .ok (.bipush 80, 2) := by decide +kernel
theorem dX2_init_7 : decode cX2_init 7 = .ok (.newarray .byte, 2) := by decide +kernel
theorem dX2_init_9 : decode cX2_init 9 = .ok (.putfield 9, 3) := by decide +kernel
theorem dX2_init_12 : decode cX2_init 12 = .ok (.aload_n 0, 1) := by decide +kernel
theorem dX2_init_13 : decode cX2_init 13 = .ok (.iconst 0, 1) := by decide +kernel
theorem dX2_init_14 : decode cX2_init 14 = .ok (.putfield 15, 3) := by decide +kernel
theorem dX2_init_17 : decode cX2_init 17 = .ok (.aload_n 0, 1) := by decide +kernel
theorem dX2_init_18 : decode cX2_init 18 = .ok (.iconst 0, 1) := by decide +kernel
theorem dX2_init_19 : decode cX2_init 19 = .ok (.putfield 19, 3) := by decide +kernel
theorem dX2_init_22 : decode cX2_init 22 = .ok (.aload_n 0, 1) := by decide +kernel
theorem dX2_init_23 : decode cX2_init 23 = .ok (.bipush 40, 2) := by decide +kernel
theorem dX2_init_25 : decode cX2_init 25 = .ok (.newarray .int, 2) := by decide +kernel
theorem dX2_init_27 : decode cX2_init 27 = .ok (.putfield 22, 3) := by decide +kernel
theorem dX2_init_30 : decode cX2_init 30 = .ok (.aload_n 0, 1) := by decide +kernel
theorem dX2_init_31 : decode cX2_init 31 = .ok (.bipush 40, 2) := by decide +kernel
theorem dX2_init_33 : decode cX2_init 33 = .ok (.newarray .int, 2) := by decide +kernel
theorem dX2_init_35 : decode cX2_init 35 = .ok (.putfield 26, 3) := by decide +kernel
theorem dX2_init_38 : decode cX2_init 38 = .ok (.aload_n 0, 1) := by decide +kernel
theorem dX2_init_39 : decode cX2_init 39 = .ok (.iconst 0, 1) := by decide +kernel
theorem dX2_init_40 : decode cX2_init 40 = .ok (.putfield 29, 3) := by decide +kernel
theorem dX2_init_43 : decode cX2_init 43 = .ok (.return_, 1) := by decide +kernel
theorem dX2_append_0 : decode cX2_append 0 = .ok (.aload_n 0, 1) := by decide +kernel
theorem dX2_append_1 : decode cX2_append 1 = .ok (.getfield 15, 3) := by decide +kernel
theorem dX2_append_4 : decode cX2_append 4 = .ok (.bipush 80, 2) := by decide +kernel
theorem dX2_append_6 : decode cX2_append 6 = .ok (.if_icmp .ge 24, 3) := by decide +kernel
theorem dX2_append_9 : decode cX2_append 9 = .ok (.aload_n 0, 1) := by decide +kernel
theorem dX2_append_10 : decode cX2_append 10 = .ok (.getfield 9, 3) := by decide +kernel
theorem dX2_append_13 : decode cX2_append 13 = .ok (.aload_n 0, 1) := by decide +kernel
theorem dX2_append_14 : decode cX2_append 14 = .ok (.getfield 15, 3) := by decide +kernel
theorem dX2_append_17 : decode cX2_append 17 = .ok (.iload_n 1, 1) := by decide +kernel
theorem dX2_append_18 : decode cX2_append 18 = .ok (.i2b, 1) := by decide +kernel
theorem dX2_append_19 : decode cX2_append 19 = .ok (.bastore, 1) := by decide +kernel
theorem dX2_append_20 : decode cX2_append 20 = .ok (.aload_n 0, 1) := by decide +kernel
theorem dX2_append_21 : decode cX2_append 21 = .ok (.dup, 1) := by decide +kernel
theorem dX2_append_22 : decode cX2_append 22 = .ok (.getfield 15, 3) := by decide +kernel
theorem dX2_append_25 : decode cX2_append 25 = .ok (.iconst 1, 1) := by decide +kernel
theorem dX2_append_26 : decode cX2_append 26 = .ok (.iadd, 1) := by decide +kernel
theorem dX2_append_27 : decode cX2_append 27 = .ok (.putfield 15, 3) := by decide +kernel
theorem dX2_append_30 : decode cX2_append 30 = .ok (.return_, 1) := by decide +kernel
theorem dX2_readActs_0 : decode cX2_readActs 0 = .ok (.aload_n 0, 1) := by decide +kernel
theorem dX2_readActs_1 : decode cX2_readActs 1 = .ok (.iconst 0, 1) := by decide +kernel
theorem dX2_readActs_2 : decode cX2_readActs 2 = .ok (.putfield 19, 3) := by decide +kernel
theorem dX2_readActs_5 : decode cX2_readActs 5 = .ok (.aload_n 0, 1) := by decide +kernel
theorem dX2_readActs_6 : decode cX2_readActs 6 = .ok (.iconst 0, 1) := by decide +kernel
theorem dX2_readActs_7 : decode cX2_readActs 7 = .ok (.putfield 29, 3) := by decide +kernel
theorem dX2_readActs_10 : decode cX2_readActs 10 = .ok (.aload_n 0, 1) := by decide +kernel
theorem dX2_readActs_11 : decode cX2_readActs 11 = .ok (.invokevirtual 32, 3) := by decide +kernel
theorem dX2_readActs_14 : decode cX2_readActs 14 = .ok (.istore_n 1, 1) := by decide +kernel
theorem dX2_readActs_15 : decode cX2_readActs 15 = .ok (.iconst 0, 1) := by decide +kernel
theorem dX2_readActs_16 : decode cX2_readActs 16 = .ok (.istore_n 2, 1) := by decide +kernel
theorem dX2_readActs_17 : decode cX2_readActs 17 = .ok (.iload_n 2, 1) := by decide +kernel
theorem dX2_readActs_18 : decode cX2_readActs 18 = .ok (.bipush 80, 2) := by decide +kernel
theorem dX2_readActs_20 : decode cX2_readActs 20 = .ok (.if_icmp .ge 26, 3) := by decide +kernel
theorem dX2_readActs_23 : decode cX2_readActs 23 = .ok (.iload_n 1, 1) := by decide +kernel
theorem dX2_readActs_24 : decode cX2_readActs 24 = .ok (.ifCond .ne 22, 3) := by decide +kernel
theorem dX2_readActs_27 : decode cX2_readActs 27 = .ok (.aload_n 0, 1) := by decide +kernel
theorem dX2_readActs_28 : decode cX2_readActs 28 = .ok (.invokevirtual 36, 3) := by decide +kernel
theorem dX2_readActs_31 : decode cX2_readActs 31 = .ok (.iconst (-1), 1) := by decide +kernel
theorem dX2_readActs_32 : decode cX2_readActs 32 = .ok (.if_icmp .eq 14, 3) := by decide +kernel
theorem dX2_readActs_35 : decode cX2_readActs 35 = .ok (.aload_n 0, 1) := by decide +kernel
theorem dX2_readActs_36 : decode cX2_readActs 36 = .ok (.invokevirtual 32, 3) := by decide +kernel
theorem dX2_readActs_39 : decode cX2_readActs 39 = .ok (.istore_n 1, 1) := by decide +kernel
theorem dX2_readActs_40 : decode cX2_readActs 40 = .ok (.iinc 2 1, 3) := by decide +kernel
theorem dX2_readActs_43 : decode cX2_readActs 43 = .ok (.goto (-26), 3) := by decide +kernel
theorem dX2_readActs_46 : decode cX2_readActs 46 = .ok (.iload_n 1, 1) := by decide +kernel
theorem dX2_readActs_47 : decode cX2_readActs 47 = .ok (.ireturn, 1) := by decide +kernel
theorem dX2_readAct_0 : decode cX2_readAct 0 = .ok (.aload_n 0, 1) := by decide +kernel
theorem dX2_readAct_1 : decode cX2_readAct 1 = .ok (.invokevirtual 36, 3) := by decide +kernel
theorem dX2_readAct_4 : decode cX2_readAct 4 = .ok (.istore_n 1, 1) := by decide +kernel
theorem dX2_readAct_5 : decode cX2_readAct 5 = .ok (.iload_n 1, 1) := by decide +kernel
theorem dX2_readAct_6 : decode cX2_readAct 6 = .ok (.bipush 97, 2) := by decide +kernel
theorem dX2_readAct_8 : decode cX2_readAct 8 = .ok (.if_icmp .lt 28, 3) := by decide +kernel
theorem dX2_readAct_11 : decode cX2_readAct 11 = .ok (.iload_n 1, 1) := by decide +kernel
theorem dX2_readAct_12 : decode cX2_readAct 12 = .ok (.bipush 106, 2) := by decide +kernel
theorem dX2_readAct_14 : decode cX2_readAct 14 = .ok (.if_icmp .gt 22, 3) := by decide +kernel
theorem dX2_readAct_17 : decode cX2_readAct 17 = .ok (.aload_n 0, 1) := by decide +kernel
theorem dX2_readAct_18 : decode cX2_readAct 18 = .ok (.dup, 1) := by decide +kernel
theorem dX2_readAct_19 : decode cX2_readAct 19 = .ok (.getfield 19, 3) := by decide +kernel
theorem dX2_readAct_22 : decode cX2_readAct 22 = .ok (.iconst 1, 1) := by decide +kernel
theorem dX2_readAct_23 : decode cX2_readAct 23 = .ok (.iadd, 1) := by decide +kernel
theorem dX2_readAct_24 : decode cX2_readAct 24 = .ok (.putfield 19, 3) := by decide +kernel
theorem dX2_readAct_27 : decode cX2_readAct 27 = .ok (.aload_n 0, 1) := by decide +kernel
theorem dX2_readAct_28 : decode cX2_readAct 28 = .ok (.iload_n 1, 1) := by decide +kernel
theorem dX2_readAct_29 : decode cX2_readAct 29 = .ok (.bipush 97, 2) := by decide +kernel
theorem dX2_readAct_31 : decode cX2_readAct 31 = .ok (.isub, 1) := by decide +kernel
theorem dX2_readAct_32 : decode cX2_readAct 32 = .ok (.invokevirtual 39, 3) := by decide +kernel
theorem dX2_readAct_35 : decode cX2_readAct 35 = .ok (.ireturn, 1) := by decide +kernel
theorem dX2_readAct_36 : decode cX2_readAct 36 = .ok (.iload_n 1, 1) := by decide +kernel
theorem dX2_readAct_37 : decode cX2_readAct 37 = .ok (.bipush 43, 2) := by decide +kernel
theorem dX2_readAct_39 : decode cX2_readAct 39 = .ok (.if_icmp .ne 21, 3) := by decide +kernel
theorem dX2_readAct_42 : decode cX2_readAct 42 = .ok (.aload_n 0, 1) := by decide +kernel
theorem dX2_readAct_43 : decode cX2_readAct 43 = .ok (.dup, 1) := by decide +kernel
theorem dX2_readAct_44 : decode cX2_readAct 44 = .ok (.getfield 19, 3) := by decide +kernel
theorem dX2_readAct_47 : decode cX2_readAct 47 = .ok (.iconst 1, 1) := by decide +kernel
theorem dX2_readAct_48 : decode cX2_readAct 48 = .ok (.iadd, 1) := by decide +kernel
theorem dX2_readAct_49 : decode cX2_readAct 49 = .ok (.putfield 19, 3) := by decide +kernel
theorem dX2_readAct_52 : decode cX2_readAct 52 = .ok (.aload_n 0, 1) := by decide +kernel
theorem dX2_readAct_53 : decode cX2_readAct 53 = .ok (.iconst 1, 1) := by decide +kernel
theorem dX2_readAct_54 : decode cX2_readAct 54 = .ok (.bipush 99, 2) := by decide +kernel
theorem dX2_readAct_56 : decode cX2_readAct 56 = .ok (.invokevirtual 43, 3) := by decide +kernel
theorem dX2_readAct_59 : decode cX2_readAct 59 = .ok (.ireturn, 1) := by decide +kernel
theorem dX2_readAct_60 : decode cX2_readAct 60 = .ok (.iload_n 1, 1) := by decide +kernel
theorem dX2_readAct_61 : decode cX2_readAct 61 = .ok (.bipush 116, 2) := by decide +kernel
theorem dX2_readAct_63 : decode cX2_readAct 63 = .ok (.if_icmp .ne 22, 3) := by decide +kernel
theorem dX2_readAct_66 : decode cX2_readAct 66 = .ok (.aload_n 0, 1) := by decide +kernel
theorem dX2_readAct_67 : decode cX2_readAct 67 = .ok (.dup, 1) := by decide +kernel
theorem dX2_readAct_68 : decode cX2_readAct 68 = .ok (.getfield 19, 3) := by decide +kernel
theorem dX2_readAct_71 : decode cX2_readAct 71 = .ok (.iconst 1, 1) := by decide +kernel
theorem dX2_readAct_72 : decode cX2_readAct 72 = .ok (.iadd, 1) := by decide +kernel
theorem dX2_readAct_73 : decode cX2_readAct 73 = .ok (.putfield 19, 3) := by decide +kernel
theorem dX2_readAct_76 : decode cX2_readAct 76 = .ok (.aload_n 0, 1) := by decide +kernel
theorem dX2_readAct_77 : decode cX2_readAct 77 = .ok (.iconst 2, 1) := by decide +kernel
theorem dX2_readAct_78 : decode cX2_readAct 78 = .ok (.sipush 999, 3) := by decide +kernel
theorem dX2_readAct_81 : decode cX2_readAct 81 = .ok (.invokevirtual 43, 3) := by decide +kernel
theorem dX2_readAct_84 : decode cX2_readAct 84 = .ok (.ireturn, 1) := by decide +kernel
theorem dX2_readAct_85 : decode cX2_readAct 85 = .ok (.bipush (-20), 2) := by decide +kernel
theorem dX2_readAct_87 : decode cX2_readAct 87 = .ok (.aload_n 0, 1) := by decide +kernel
theorem dX2_readAct_88 : decode cX2_readAct 88 = .ok (.getfield 19, 3) := by decide +kernel
theorem dX2_readAct_91 : decode cX2_readAct 91 = .ok (.isub, 1) := by decide +kernel
theorem dX2_readAct_92 : decode cX2_readAct 92 = .ok (.ireturn, 1) := by decide +kernel
theorem dX2_readSide_0 : decode cX2_readSide 0 = .ok (.aload_n 0, 1) := by decide +kernel
theorem dX2_readSide_1 : decode cX2_readSide 1 = .ok (.invokevirtual 36, 3) := by decide +kernel
theorem dX2_readSide_4 : decode cX2_readSide 4 = .ok (.istore_n 2, 1) := by decide +kernel
theorem dX2_readSide_5 : decode cX2_readSide 5 = .ok (.iload_n 2, 1) := by decide +kernel
theorem dX2_readSide_6 : decode cX2_readSide 6 = .ok (.bipush 49, 2) := by decide +kernel
theorem dX2_readSide_8 : decode cX2_readSide 8 = .ok (.if_icmp .eq 17, 3) := by decide +kernel
theorem dX2_readSide_11 : decode cX2_readSide 11 = .ok (.iload_n 2, 1) := by decide +kernel
theorem dX2_readSide_12 : decode cX2_readSide 12 = .ok (.bipush 50, 2) := by decide +kernel
theorem dX2_readSide_14 : decode cX2_readSide 14 = .ok (.if_icmp .eq 11, 3) := by decide +kernel
theorem dX2_readSide_17 : decode cX2_readSide 17 = .ok (.bipush (-20), 2) := by decide +kernel
theorem dX2_readSide_19 : decode cX2_readSide 19 = .ok (.aload_n 0, 1) := by decide +kernel
theorem dX2_readSide_20 : decode cX2_readSide 20 = .ok (.getfield 19, 3) := by decide +kernel
theorem dX2_readSide_23 : decode cX2_readSide 23 = .ok (.isub, 1) := by decide +kernel
theorem dX2_readSide_24 : decode cX2_readSide 24 = .ok (.ireturn, 1) := by decide +kernel
theorem dX2_readSide_25 : decode cX2_readSide 25 = .ok (.aload_n 0, 1) := by decide +kernel
theorem dX2_readSide_26 : decode cX2_readSide 26 = .ok (.dup, 1) := by decide +kernel
theorem dX2_readSide_27 : decode cX2_readSide 27 = .ok (.getfield 19, 3) := by decide +kernel
theorem dX2_readSide_30 : decode cX2_readSide 30 = .ok (.iconst 1, 1) := by decide +kernel
theorem dX2_readSide_31 : decode cX2_readSide 31 = .ok (.iadd, 1) := by decide +kernel
theorem dX2_readSide_32 : decode cX2_readSide 32 = .ok (.putfield 19, 3) := by decide +kernel
theorem dX2_readSide_35 : decode cX2_readSide 35 = .ok (.aload_n 0, 1) := by decide +kernel
theorem dX2_readSide_36 : decode cX2_readSide 36 = .ok (.iconst 0, 1) := by decide +kernel
theorem dX2_readSide_37 : decode cX2_readSide 37 = .ok (.iconst 2, 1) := by decide +kernel
theorem dX2_readSide_38 : decode cX2_readSide 38 = .ok (.iload_n 1, 1) := by decide +kernel
theorem dX2_readSide_39 : decode cX2_readSide 39 = .ok (.imul, 1) := by decide +kernel
theorem dX2_readSide_40 : decode cX2_readSide 40 = .ok (.iload_n 2, 1) := by decide +kernel
theorem dX2_readSide_41 : decode cX2_readSide 41 = .ok (.iadd, 1) := by decide +kernel
theorem dX2_readSide_42 : decode cX2_readSide 42 = .ok (.bipush 49, 2) := by decide +kernel
theorem dX2_readSide_44 : decode cX2_readSide 44 = .ok (.isub, 1) := by decide +kernel
theorem dX2_readSide_45 : decode cX2_readSide 45 = .ok (.invokevirtual 47, 3) := by decide +kernel
theorem dX2_readSide_48 : decode cX2_readSide 48 = .ok (.iconst 0, 1) := by decide +kernel
theorem dX2_readSide_49 : decode cX2_readSide 49 = .ok (.ireturn, 1) := by decide +kernel
theorem dX2_readNumber_0 : decode cX2_readNumber 0 = .ok (.aload_n 0, 1) := by decide +kernel
theorem dX2_readNumber_1 : decode cX2_readNumber 1 = .ok (.invokevirtual 36, 3) := by decide +kernel
theorem dX2_readNumber_4 : decode cX2_readNumber 4 = .ok (.pop, 1) := by decide +kernel
theorem dX2_readNumber_5 : decode cX2_readNumber 5 = .ok (.aload_n 0, 1) := by decide +kernel
theorem dX2_readNumber_6 : decode cX2_readNumber 6 = .ok (.getfield 19, 3) := by decide +kernel
theorem dX2_readNumber_9 : decode cX2_readNumber 9 = .ok (.istore_n 3, 1) := by decide +kernel
theorem dX2_readNumber_10 : decode cX2_readNumber 10 = .ok (.iconst 0, 1) := by decide +kernel
theorem dX2_readNumber_11 : decode cX2_readNumber 11 = .ok (.istore 4, 2) := by decide +kernel
theorem dX2_readNumber_13 : decode cX2_readNumber 13 = .ok (.aload_n 0, 1) := by decide +kernel
theorem dX2_readNumber_14 : decode cX2_readNumber 14 = .ok (.getfield 19, 3) := by decide +kernel
theorem dX2_readNumber_17 : decode cX2_readNumber 17 = .ok (.aload_n 0, 1) := by decide +kernel
theorem dX2_readNumber_18 : decode cX2_readNumber 18 = .ok (.getfield 15, 3) := by decide +kernel
theorem dX2_readNumber_21 : decode cX2_readNumber 21 = .ok (.if_icmp .ge 79, 3) := by decide +kernel
theorem dX2_readNumber_24 : decode cX2_readNumber 24 = .ok (.aload_n 0, 1) := by decide +kernel
theorem dX2_readNumber_25 : decode cX2_readNumber 25 = .ok (.getfield 19, 3) := by decide +kernel
theorem dX2_readNumber_28 : decode cX2_readNumber 28 = .ok (.bipush 80, 2) := by decide +kernel
theorem dX2_readNumber_30 : decode cX2_readNumber 30 = .ok (.if_icmp .ge 70, 3) := by decide +kernel
theorem dX2_readNumber_33 : decode cX2_readNumber 33 = .ok (.aload_n 0, 1) := by decide +kernel
theorem dX2_readNumber_34 : decode cX2_readNumber 34 = .ok (.getfield 9, 3) := by decide +kernel
theorem dX2_readNumber_37 : decode cX2_readNumber 37 = .ok (.aload_n 0, 1) := by decide +kernel
theorem dX2_readNumber_38 : decode cX2_readNumber 38 = .ok (.getfield 19, 3) := by decide +kernel
theorem dX2_readNumber_41 : decode cX2_readNumber 41 = .ok (.baload, 1) := by decide +kernel
theorem dX2_readNumber_42 : decode cX2_readNumber 42 = .ok (.bipush 48, 2) := by decide +kernel
theorem dX2_readNumber_44 : decode cX2_readNumber 44 = .ok (.if_icmp .lt 56, 3) := by decide +kernel
theorem dX2_readNumber_47 : decode cX2_readNumber 47 = .ok (.aload_n 0, 1) := by decide +kernel
theorem dX2_readNumber_48 : decode cX2_readNumber 48 = .ok (.getfield 9, 3) := by decide +kernel
theorem dX2_readNumber_51 : decode cX2_readNumber 51 = .ok (.aload_n 0, 1) := by decide +kernel
theorem dX2_readNumber_52 : decode cX2_readNumber 52 = .ok (.getfield 19, 3) := by decide +kernel
theorem dX2_readNumber_55 : decode cX2_readNumber 55 = .ok (.baload, 1) := by decide +kernel
theorem dX2_readNumber_56 : decode cX2_readNumber 56 = .ok (.bipush 57, 2) := by decide +kernel
theorem dX2_readNumber_58 : decode cX2_readNumber 58 = .ok (.if_icmp .gt 42, 3) := by decide +kernel
theorem dX2_readNumber_61 : decode cX2_readNumber 61 = .ok (.bipush 10, 2) := by decide +kernel
theorem dX2_readNumber_63 : decode cX2_readNumber 63 = .ok (.iload 4, 2) := by decide +kernel
theorem dX2_readNumber_65 : decode cX2_readNumber 65 = .ok (.imul, 1) := by decide +kernel
theorem dX2_readNumber_66 : decode cX2_readNumber 66 = .ok (.aload_n 0, 1) := by decide +kernel
theorem dX2_readNumber_67 : decode cX2_readNumber 67 = .ok (.getfield 9, 3) := by decide +kernel
theorem dX2_readNumber_70 : decode cX2_readNumber 70 = .ok (.aload_n 0, 1) := by decide +kernel
theorem dX2_readNumber_71 : decode cX2_readNumber 71 = .ok (.getfield 19, 3) := by decide +kernel
theorem dX2_readNumber_74 : decode cX2_readNumber 74 = .ok (.baload, 1) := by decide +kernel
theorem dX2_readNumber_75 : decode cX2_readNumber 75 = .ok (.iadd, 1) := by decide +kernel
theorem dX2_readNumber_76 : decode cX2_readNumber 76 = .ok (.bipush 48, 2) := by decide +kernel
theorem dX2_readNumber_78 : decode cX2_readNumber 78 = .ok (.isub, 1) := by decide +kernel
theorem dX2_readNumber_79 : decode cX2_readNumber 79 = .ok (.sipush 1000, 3) := by decide +kernel
theorem dX2_readNumber_82 : decode cX2_readNumber 82 = .ok (.invokestatic 51, 3) := by decide +kernel
theorem dX2_readNumber_85 : decode cX2_readNumber 85 = .ok (.istore 4, 2) := by decide +kernel
theorem dX2_readNumber_87 : decode cX2_readNumber 87 = .ok (.aload_n 0, 1) := by decide +kernel
theorem dX2_readNumber_88 : decode cX2_readNumber 88 = .ok (.dup, 1) := by decide +kernel
theorem dX2_readNumber_89 : decode cX2_readNumber 89 = .ok (.getfield 19, 3) := by decide +kernel
theorem dX2_readNumber_92 : decode cX2_readNumber 92 = .ok (.iconst 1, 1) := by decide +kernel
theorem dX2_readNumber_93 : decode cX2_readNumber 93 = .ok (.iadd, 1) := by decide +kernel
theorem dX2_readNumber_94 : decode cX2_readNumber 94 = .ok (.putfield 19, 3) := by decide +kernel
theorem dX2_readNumber_97 : decode cX2_readNumber 97 = .ok (.goto (-84), 3) := by decide +kernel
theorem dX2_readNumber_100 : decode cX2_readNumber 100 = .ok (.iload 4, 2) := by decide +kernel
theorem dX2_readNumber_102 : decode cX2_readNumber 102 = .ok (.iconst 1, 1) := by decide +kernel
theorem dX2_readNumber_103 : decode cX2_readNumber 103 = .ok (.if_icmp .lt 9, 3) := by decide +kernel
theorem dX2_readNumber_106 : decode cX2_readNumber 106 = .ok (.iload 4, 2) := by decide +kernel
theorem dX2_readNumber_108 : decode cX2_readNumber 108 = .ok (.iload_n 2, 1) := by decide +kernel
theorem dX2_readNumber_109 : decode cX2_readNumber 109 = .ok (.if_icmp .le 8, 3) := by decide +kernel
theorem dX2_readNumber_112 : decode cX2_readNumber 112 = .ok (.bipush (-20), 2) := by decide +kernel
theorem dX2_readNumber_114 : decode cX2_readNumber 114 = .ok (.iload_n 3, 1) := by decide +kernel
theorem dX2_readNumber_115 : decode cX2_readNumber 115 = .ok (.isub, 1) := by decide +kernel
theorem dX2_readNumber_116 : decode cX2_readNumber 116 = .ok (.ireturn, 1) := by decide +kernel
theorem dX2_readNumber_117 : decode cX2_readNumber 117 = .ok (.aload_n 0, 1) := by decide +kernel
theorem dX2_readNumber_118 : decode cX2_readNumber 118 = .ok (.iload_n 1, 1) := by decide +kernel
theorem dX2_readNumber_119 : decode cX2_readNumber 119 = .ok (.iload 4, 2) := by decide +kernel
theorem dX2_readNumber_121 : decode cX2_readNumber 121 = .ok (.invokevirtual 47, 3) := by decide +kernel
theorem dX2_readNumber_124 : decode cX2_readNumber 124 = .ok (.iconst 0, 1) := by decide +kernel
theorem dX2_readNumber_125 : decode cX2_readNumber 125 = .ok (.ireturn, 1) := by decide +kernel
theorem dX2_peek_0 : decode cX2_peek 0 = .ok (.aload_n 0, 1) := by decide +kernel
theorem dX2_peek_1 : decode cX2_peek 1 = .ok (.getfield 19, 3) := by decide +kernel
theorem dX2_peek_4 : decode cX2_peek 4 = .ok (.aload_n 0, 1) := by decide +kernel
theorem dX2_peek_5 : decode cX2_peek 5 = .ok (.getfield 15, 3) := by decide +kernel
theorem dX2_peek_8 : decode cX2_peek 8 = .ok (.if_icmp .ge 39, 3) := by decide +kernel
theorem dX2_peek_11 : decode cX2_peek 11 = .ok (.aload_n 0, 1) := by decide +kernel
theorem dX2_peek_12 : decode cX2_peek 12 = .ok (.getfield 19, 3) := by decide +kernel
theorem dX2_peek_15 : decode cX2_peek 15 = .ok (.bipush 80, 2) := by decide +kernel
theorem dX2_peek_17 : decode cX2_peek 17 = .ok (.if_icmp .ge 30, 3) := by decide +kernel
theorem dX2_peek_20 : decode cX2_peek 20 = .ok (.aload_n 0, 1) := by decide +kernel
theorem dX2_peek_21 : decode cX2_peek 21 = .ok (.getfield 9, 3) := by decide +kernel
theorem dX2_peek_24 : decode cX2_peek 24 = .ok (.aload_n 0, 1) := by decide +kernel
theorem dX2_peek_25 : decode cX2_peek 25 = .ok (.getfield 19, 3) := by decide +kernel
theorem dX2_peek_28 : decode cX2_peek 28 = .ok (.baload, 1) := by decide +kernel
theorem dX2_peek_29 : decode cX2_peek 29 = .ok (.bipush 32, 2) := by decide +kernel
theorem dX2_peek_31 : decode cX2_peek 31 = .ok (.if_icmp .ne 16, 3) := by decide +kernel
theorem dX2_peek_34 : decode cX2_peek 34 = .ok (.aload_n 0, 1) := by decide +kernel
theorem dX2_peek_35 : decode cX2_peek 35 = .ok (.dup, 1) := by decide +kernel
theorem dX2_peek_36 : decode cX2_peek 36 = .ok (.getfield 19, 3) := by decide +kernel
theorem dX2_peek_39 : decode cX2_peek 39 = .ok (.iconst 1, 1) := by decide +kernel
theorem dX2_peek_40 : decode cX2_peek 40 = .ok (.iadd, 1) := by decide +kernel
theorem dX2_peek_41 : decode cX2_peek 41 = .ok (.putfield 19, 3) := by decide +kernel
theorem dX2_peek_44 : decode cX2_peek 44 = .ok (.goto (-44), 3) := by decide +kernel
theorem dX2_peek_47 : decode cX2_peek 47 = .ok (.aload_n 0, 1) := by decide +kernel
theorem dX2_peek_48 : decode cX2_peek 48 = .ok (.getfield 19, 3) := by decide +kernel
theorem dX2_peek_51 : decode cX2_peek 51 = .ok (.aload_n 0, 1) := by decide +kernel
theorem dX2_peek_52 : decode cX2_peek 52 = .ok (.getfield 15, 3) := by decide +kernel
theorem dX2_peek_55 : decode cX2_peek 55 = .ok (.if_icmp .ge 24, 3) := by decide +kernel
theorem dX2_peek_58 : decode cX2_peek 58 = .ok (.aload_n 0, 1) := by decide +kernel
theorem dX2_peek_59 : decode cX2_peek 59 = .ok (.getfield 19, 3) := by decide +kernel
theorem dX2_peek_62 : decode cX2_peek 62 = .ok (.bipush 80, 2) := by decide +kernel
theorem dX2_peek_64 : decode cX2_peek 64 = .ok (.if_icmp .ge 15, 3) := by decide +kernel
theorem dX2_peek_67 : decode cX2_peek 67 = .ok (.aload_n 0, 1) := by decide +kernel
theorem dX2_peek_68 : decode cX2_peek 68 = .ok (.getfield 9, 3) := by decide +kernel
theorem dX2_peek_71 : decode cX2_peek 71 = .ok (.aload_n 0, 1) := by decide +kernel
theorem dX2_peek_72 : decode cX2_peek 72 = .ok (.getfield 19, 3) := by decide +kernel
theorem dX2_peek_75 : decode cX2_peek 75 = .ok (.baload, 1) := by decide +kernel
theorem dX2_peek_76 : decode cX2_peek 76 = .ok (.goto 4, 3) := by decide +kernel
theorem dX2_peek_79 : decode cX2_peek 79 = .ok (.iconst (-1), 1) := by decide +kernel
theorem dX2_peek_80 : decode cX2_peek 80 = .ok (.ireturn, 1) := by decide +kernel
theorem dX2_addAct_0 : decode cX2_addAct 0 = .ok (.aload_n 0, 1) := by decide +kernel
theorem dX2_addAct_1 : decode cX2_addAct 1 = .ok (.getfield 29, 3) := by decide +kernel
theorem dX2_addAct_4 : decode cX2_addAct 4 = .ok (.bipush 40, 2) := by decide +kernel
theorem dX2_addAct_6 : decode cX2_addAct 6 = .ok (.if_icmp .ge 33, 3) := by decide +kernel
theorem dX2_addAct_9 : decode cX2_addAct 9 = .ok (.aload_n 0, 1) := by decide +kernel
theorem dX2_addAct_10 : decode cX2_addAct 10 = .ok (.getfield 22, 3) := by decide +kernel
theorem dX2_addAct_13 : decode cX2_addAct 13 = .ok (.aload_n 0, 1) := by decide +kernel
theorem dX2_addAct_14 : decode cX2_addAct 14 = .ok (.getfield 29, 3) := by decide +kernel
theorem dX2_addAct_17 : decode cX2_addAct 17 = .ok (.iload_n 1, 1) := by decide +kernel
theorem dX2_addAct_18 : decode cX2_addAct 18 = .ok (.iastore, 1) := by decide +kernel
theorem dX2_addAct_19 : decode cX2_addAct 19 = .ok (.aload_n 0, 1) := by decide +kernel
theorem dX2_addAct_20 : decode cX2_addAct 20 = .ok (.getfield 26, 3) := by decide +kernel
theorem dX2_addAct_23 : decode cX2_addAct 23 = .ok (.aload_n 0, 1) := by decide +kernel
theorem dX2_addAct_24 : decode cX2_addAct 24 = .ok (.getfield 29, 3) := by decide +kernel
theorem dX2_addAct_27 : decode cX2_addAct 27 = .ok (.iload_n 2, 1) := by decide +kernel
theorem dX2_addAct_28 : decode cX2_addAct 28 = .ok (.iastore, 1) := by decide +kernel
theorem dX2_addAct_29 : decode cX2_addAct 29 = .ok (.aload_n 0, 1) := by decide +kernel
theorem dX2_addAct_30 : decode cX2_addAct 30 = .ok (.dup, 1) := by decide +kernel
theorem dX2_addAct_31 : decode cX2_addAct 31 = .ok (.getfield 29, 3) := by decide +kernel
theorem dX2_addAct_34 : decode cX2_addAct 34 = .ok (.iconst 1, 1) := by decide +kernel
theorem dX2_addAct_35 : decode cX2_addAct 35 = .ok (.iadd, 1) := by decide +kernel
theorem dX2_addAct_36 : decode cX2_addAct 36 = .ok (.putfield 29, 3) := by decide +kernel
theorem dX2_addAct_39 : decode cX2_addAct 39 = .ok (.return_, 1) := by decide +kernel
theorem dX3_init_0 : decode cX3_init 0 = .ok (.aload_n 0, 1) := by decide +kernel
theorem dX3_init_1 : decode cX3_init 1 = .ok (.invokespecial 1, 3) := by decide +kernel
theorem dX3_init_4 : decode cX3_init 4 = .ok (.aload_n 0, 1) := by decide +kernel
theorem dX3_init_5 : decode cX3_init 5 = .ok (.bipush 10, 2) := by decide +kernel
theorem dX3_init_7 : decode cX3_init 7 = .ok (.putfield 7, 3) := by decide +kernel
theorem dX3_init_10 : decode cX3_init 10 = .ok (.aload_n 0, 1) := by decide +kernel
theorem dX3_init_11 : decode cX3_init 11 = .ok (.bipush 25, 2) := by decide +kernel
theorem dX3_init_13 : decode cX3_init 13 = .ok (.putfield 13, 3) := by decide +kernel
theorem dX3_init_16 : decode cX3_init 16 = .ok (.aload_n 0, 1) := by decide +kernel
theorem dX3_init_17 : decode cX3_init 17 = .ok (.iconst 3, 1) := by decide +kernel
theorem dX3_init_18 : decode cX3_init 18 = .ok (.putfield 16, 3) := by decide +kernel
theorem dX3_init_21 : decode cX3_init 21 = .ok (.aload_n 0, 1) := by decide +kernel
theorem dX3_init_22 : decode cX3_init 22 = .ok (.iconst 0, 1) := by decide +kernel
theorem dX3_init_23 : decode cX3_init 23 = .ok (.putfield 19, 3) := by decide +kernel
theorem dX3_init_26 : decode cX3_init 26 = .ok (.aload_n 0, 1) := by decide +kernel
theorem dX3_init_27 : decode cX3_init 27 = .ok (.iconst 0, 1) := by decide +kernel
theorem dX3_init_28 : decode cX3_init 28 = .ok (.putfield 22, 3) := by decide +kernel
theorem dX3_init_31 : decode cX3_init 31 = .ok (.aload_n 0, 1) := by decide +kernel
theorem dX3_init_32 : decode cX3_init 32 = .ok (.iconst 0, 1) := by decide +kernel
theorem dX3_init_33 : decode cX3_init 33 = .ok (.putfield 25, 3) := by decide +kernel
theorem dX3_init_36 : decode cX3_init 36 = .ok (.aload_n 0, 1) := by decide +kernel
theorem dX3_init_37 : decode cX3_init 37 = .ok (.iconst 0, 1) := by decide +kernel
theorem dX3_init_38 : decode cX3_init 38 = .ok (.putfield 28, 3) := by decide +kernel
theorem dX3_init_41 : decode cX3_init 41 = .ok (.aload_n 0, 1) := by decide +kernel
theorem dX3_init_42 : decode cX3_init 42 = .ok (.iconst 1, 1) := by decide +kernel
theorem dX3_init_43 : decode cX3_init 43 = .ok (.putfield 31, 3) := by decide +kernel
theorem dX3_init_46 : decode cX3_init 46 = .ok (.return_, 1) := by decide +kernel
theorem dX3_copyFrom_0 : decode cX3_copyFrom 0 = .ok (.aload_n 0, 1) := by decide +kernel
theorem dX3_copyFrom_1 : decode cX3_copyFrom 1 = .ok (.aload_n 1, 1) := by decide +kernel
theorem dX3_copyFrom_2 : decode cX3_copyFrom 2 = .ok (.getfield 7, 3) := by decide +kernel
theorem dX3_copyFrom_5 : decode cX3_copyFrom 5 = .ok (.putfield 7, 3) := by decide +kernel
theorem dX3_copyFrom_8 : decode cX3_copyFrom 8 = .ok (.aload_n 0, 1) := by decide +kernel
theorem dX3_copyFrom_9 : decode cX3_copyFrom 9 = .ok (.aload_n 1, 1) := by decide +kernel
theorem dX3_copyFrom_10 : decode cX3_copyFrom 10 = .ok (.getfield 13, 3) := by decide +kernel
theorem dX3_copyFrom_13 : decode cX3_copyFrom 13 = .ok (.putfield 13, 3) := by decide +kernel
theorem dX3_copyFrom_16 : decode cX3_copyFrom 16 = .ok (.aload_n 0, 1) := by decide +kernel
theorem dX3_copyFrom_17 : decode cX3_copyFrom 17 = .ok (.aload_n 1, 1) := by decide +kernel
theorem dX3_copyFrom_18 : decode cX3_copyFrom 18 = .ok (.getfield 16, 3) := by decide +kernel
theorem dX3_copyFrom_21 : decode cX3_copyFrom 21 = .ok (.putfield 16, 3) := by decide +kernel
theorem dX3_copyFrom_24 : decode cX3_copyFrom 24 = .ok (.aload_n 0, 1) := by decide +kernel
theorem dX3_copyFrom_25 : decode cX3_copyFrom 25 = .ok (.aload_n 1, 1) := by decide +kernel
theorem dX3_copyFrom_26 : decode cX3_copyFrom 26 = .ok (.getfield 19, 3) := by decide +kernel
theorem dX3_copyFrom_29 : decode cX3_copyFrom 29 = .ok (.putfield 19, 3) := by decide +kernel
theorem dX3_copyFrom_32 : decode cX3_copyFrom 32 = .ok (.aload_n 0, 1) := by decide +kernel
theorem dX3_copyFrom_33 : decode cX3_copyFrom 33 = .ok (.aload_n 1, 1) := by decide +kernel
theorem dX3_copyFrom_34 : decode cX3_copyFrom 34 = .ok (.getfield 22, 3) := by decide +kernel
theorem dX3_copyFrom_37 : decode cX3_copyFrom 37 = .ok (.putfield 22, 3) := by decide +kernel
theorem dX3_copyFrom_40 : decode cX3_copyFrom 40 = .ok (.aload_n 0, 1) := by decide +kernel
theorem dX3_copyFrom_41 : decode cX3_copyFrom 41 = .ok (.aload_n 1, 1) := by decide +kernel
theorem dX3_copyFrom_42 : decode cX3_copyFrom 42 = .ok (.getfield 25, 3) := by decide +kernel
theorem dX3_copyFrom_45 : decode cX3_copyFrom 45 = .ok (.putfield 25, 3) := by decide +kernel
theorem dX3_copyFrom_48 : decode cX3_copyFrom 48 = .ok (.aload_n 0, 1) := by decide +kernel
theorem dX3_copyFrom_49 : decode cX3_copyFrom 49 = .ok (.aload_n 1, 1) := by decide +kernel
theorem dX3_copyFrom_50 : decode cX3_copyFrom 50 = .ok (.getfield 28, 3) := by decide +kernel
theorem dX3_copyFrom_53 : decode cX3_copyFrom 53 = .ok (.putfield 28, 3) := by decide +kernel
theorem dX3_copyFrom_56 : decode cX3_copyFrom 56 = .ok (.aload_n 0, 1) := by decide +kernel
theorem dX3_copyFrom_57 : decode cX3_copyFrom 57 = .ok (.aload_n 1, 1) := by decide +kernel
theorem dX3_copyFrom_58 : decode cX3_copyFrom 58 = .ok (.getfield 31, 3) := by decide +kernel
theorem dX3_copyFrom_61 : decode cX3_copyFrom 61 = .ok (.putfield 31, 3) := by decide +kernel
theorem dX3_copyFrom_64 : decode cX3_copyFrom 64 = .ok (.return_, 1) := by decide +kernel
theorem dX3_newPrices_0 : decode cX3_newPrices 0 = .ok (.aload_n 0, 1) := by decide +kernel
theorem dX3_newPrices_1 : decode cX3_newPrices 1 = .ok (.iload_n 1, 1) := by decide +kernel
theorem dX3_newPrices_2 : decode cX3_newPrices 2 = .ok (.putfield 7, 3) := by decide +kernel
theorem dX3_newPrices_5 : decode cX3_newPrices 5 = .ok (.aload_n 0, 1) := by decide +kernel
theorem dX3_newPrices_6 : decode cX3_newPrices 6 = .ok (.iload_n 2, 1) := by decide +kernel
theorem dX3_newPrices_7 : decode cX3_newPrices 7 = .ok (.putfield 13, 3) := by decide +kernel
theorem dX3_newPrices_10 : decode cX3_newPrices 10 = .ok (.aload_n 0, 1) := by decide +kernel
theorem dX3_newPrices_11 : decode cX3_newPrices 11 = .ok (.iload_n 3, 1) := by decide +kernel
theorem dX3_newPrices_12 : decode cX3_newPrices 12 = .ok (.putfield 16, 3) := by decide +kernel
theorem dX3_newPrices_15 : decode cX3_newPrices 15 = .ok (.aload_n 0, 1) := by decide +kernel
theorem dX3_newPrices_16 : decode cX3_newPrices 16 = .ok (.iconst 0, 1) := by decide +kernel
theorem dX3_newPrices_17 : decode cX3_newPrices 17 = .ok (.putfield 19, 3) := by decide +kernel
theorem dX3_newPrices_20 : decode cX3_newPrices 20 = .ok (.return_, 1) := by decide +kernel
theorem dX3_take_0 : decode cX3_take 0 = .ok (.aload_n 0, 1) := by decide +kernel
theorem dX3_take_1 : decode cX3_take 1 = .ok (.invokevirtual 34, 3) := by decide +kernel
theorem dX3_take_4 : decode cX3_take 4 = .ok (.istore_n 2, 1) := by decide +kernel
theorem dX3_take_5 : decode cX3_take 5 = .ok (.aload_n 0, 1) := by decide +kernel
theorem dX3_take_6 : decode cX3_take 6 = .ok (.dup, 1) := by decide +kernel
theorem dX3_take_7 : decode cX3_take 7 = .ok (.getfield 19, 3) := by decide +kernel
theorem dX3_take_10 : decode cX3_take 10 = .ok (.iload_n 1, 1) := by decide +kernel
theorem dX3_take_11 : decode cX3_take 11 = .ok (.iadd, 1) := by decide +kernel
theorem dX3_take_12 : decode cX3_take 12 = .ok (.putfield 19, 3) := by decide +kernel
theorem dX3_take_15 : decode cX3_take 15 = .ok (.aload_n 0, 1) := by decide +kernel
theorem dX3_take_16 : decode cX3_take 16 = .ok (.dup, 1) := by decide +kernel
theorem dX3_take_17 : decode cX3_take 17 = .ok (.getfield 28, 3) := by decide +kernel
theorem dX3_take_20 : decode cX3_take 20 = .ok (.iload_n 1, 1) := by decide +kernel
theorem dX3_take_21 : decode cX3_take 21 = .ok (.iadd, 1) := by decide +kernel
theorem dX3_take_22 : decode cX3_take 22 = .ok (.putfield 28, 3) := by decide +kernel
theorem dX3_take_25 : decode cX3_take 25 = .ok (.aload_n 0, 1) := by decide +kernel
theorem dX3_take_26 : decode cX3_take 26 = .ok (.dup, 1) := by decide +kernel
theorem dX3_take_27 : decode cX3_take 27 = .ok (.getfield 22, 3) := by decide +kernel
theorem dX3_take_30 : decode cX3_take 30 = .ok (.iconst 0, 1) := by decide +kernel
theorem dX3_take_31 : decode cX3_take 31 = .ok (.aload_n 0, 1) := by decide +kernel
theorem dX3_take_32 : decode cX3_take 32 = .ok (.invokevirtual 34, 3) := by decide +kernel
theorem dX3_take_35 : decode cX3_take 35 = .ok (.iload_n 2, 1) := by decide +kernel
theorem dX3_take_36 : decode cX3_take 36 = .ok (.isub, 1) := by decide +kernel
theorem dX3_take_37 : decode cX3_take 37 = .ok (.invokestatic 38, 3) := by decide +kernel
theorem dX3_take_40 : decode cX3_take 40 = .ok (.iadd, 1) := by decide +kernel
theorem dX3_take_41 : decode cX3_take 41 = .ok (.putfield 22, 3) := by decide +kernel
theorem dX3_take_44 : decode cX3_take 44 = .ok (.return_, 1) := by decide +kernel
theorem dX3_owed_0 : decode cX3_owed 0 = .ok (.aload_n 0, 1) := by decide +kernel
theorem dX3_owed_1 : decode cX3_owed 1 = .ok (.getfield 7, 3) := by decide +kernel
theorem dX3_owed_4 : decode cX3_owed 4 = .ok (.iconst 1, 1) := by decide +kernel
theorem dX3_owed_5 : decode cX3_owed 5 = .ok (.if_icmp .lt 11, 3) := by decide +kernel
theorem dX3_owed_8 : decode cX3_owed 8 = .ok (.aload_n 0, 1) := by decide +kernel
theorem dX3_owed_9 : decode cX3_owed 9 = .ok (.getfield 13, 3) := by decide +kernel
theorem dX3_owed_12 : decode cX3_owed 12 = .ok (.iconst 1, 1) := by decide +kernel
theorem dX3_owed_13 : decode cX3_owed 13 = .ok (.if_icmp .ge 5, 3) := by decide +kernel
theorem dX3_owed_16 : decode cX3_owed 16 = .ok (.iconst 0, 1) := by decide +kernel
theorem dX3_owed_17 : decode cX3_owed 17 = .ok (.ireturn, 1) := by decide +kernel
theorem dX3_owed_18 : decode cX3_owed 18 = .ok (.aload_n 0, 1) := by decide +kernel
theorem dX3_owed_19 : decode cX3_owed 19 = .ok (.getfield 16, 3) := by decide +kernel
theorem dX3_owed_22 : decode cX3_owed 22 = .ok (.aload_n 0, 1) := by decide +kernel
theorem dX3_owed_23 : decode cX3_owed 23 = .ok (.getfield 19, 3) := by decide +kernel
theorem dX3_owed_26 : decode cX3_owed 26 = .ok (.aload_n 0, 1) := by decide +kernel
theorem dX3_owed_27 : decode cX3_owed 27 = .ok (.getfield 13, 3) := by decide +kernel
theorem dX3_owed_30 : decode cX3_owed 30 = .ok (.idiv, 1) := by decide +kernel
theorem dX3_owed_31 : decode cX3_owed 31 = .ok (.imul, 1) := by decide +kernel
theorem dX3_owed_32 : decode cX3_owed 32 = .ok (.aload_n 0, 1) := by decide +kernel
theorem dX3_owed_33 : decode cX3_owed 33 = .ok (.getfield 19, 3) := by decide +kernel
theorem dX3_owed_36 : decode cX3_owed 36 = .ok (.aload_n 0, 1) := by decide +kernel
theorem dX3_owed_37 : decode cX3_owed 37 = .ok (.getfield 13, 3) := by decide +kernel
theorem dX3_owed_40 : decode cX3_owed 40 = .ok (.irem, 1) := by decide +kernel
theorem dX3_owed_41 : decode cX3_owed 41 = .ok (.aload_n 0, 1) := by decide +kernel
theorem dX3_owed_42 : decode cX3_owed 42 = .ok (.getfield 7, 3) := by decide +kernel
theorem dX3_owed_45 : decode cX3_owed 45 = .ok (.idiv, 1) := by decide +kernel
theorem dX3_owed_46 : decode cX3_owed 46 = .ok (.iadd, 1) := by decide +kernel
theorem dX3_owed_47 : decode cX3_owed 47 = .ok (.ireturn, 1) := by decide +kernel
theorem dX4_init_0 : decode cX4_init 0 = .ok (.aload_n 0, 1) := by decide +kernel
theorem dX4_init_1 : decode cX4_init 1 = .ok (.invokespecial 3, 3) := by decide +kernel
theorem dX4_init_4 : decode cX4_init 4 = .ok (.aload_n 0, 1) := by decide +kernel
theorem dX4_init_5 : decode cX4_init 5 = .ok (.iconst 0, 1) := by decide +kernel
theorem dX4_init_6 : decode cX4_init 6 = .ok (.putfield 9, 3) := by decide +kernel
theorem dX4_init_9 : decode cX4_init 9 = .ok (.aload_n 0, 1) := by decide +kernel
theorem dX4_init_10 : decode cX4_init 10 = .ok (.bipush 32, 2) := by decide +kernel
theorem dX4_init_12 : decode cX4_init 12 = .ok (.newarray .int, 2) := by decide +kernel
theorem dX4_init_14 : decode cX4_init 14 = .ok (.putfield 15, 3) := by decide +kernel
theorem dX4_init_17 : decode cX4_init 17 = .ok (.aload_n 0, 1) := by decide +kernel
theorem dX4_init_18 : decode cX4_init 18 = .ok (.bipush 32, 2) := by decide +kernel
theorem dX4_init_20 : decode cX4_init 20 = .ok (.newarray .int, 2) := by decide +kernel
theorem dX4_init_22 : decode cX4_init 22 = .ok (.putfield 19, 3) := by decide +kernel
theorem dX4_init_25 : decode cX4_init 25 = .ok (.aload_n 0, 1) := by decide +kernel
theorem dX4_init_26 : decode cX4_init 26 = .ok (.bipush 10, 2) := by decide +kernel
theorem dX4_init_28 : decode cX4_init 28 = .ok (.newarray .int, 2) := by decide +kernel
theorem dX4_init_30 : decode cX4_init 30 = .ok (.putfield 22, 3) := by decide +kernel
theorem dX4_init_33 : decode cX4_init 33 = .ok (.aload_n 0, 1) := by decide +kernel
theorem dX4_init_34 : decode cX4_init 34 = .ok (.bipush 20, 2) := by decide +kernel
theorem dX4_init_36 : decode cX4_init 36 = .ok (.newarray .int, 2) := by decide +kernel
theorem dX4_init_38 : decode cX4_init 38 = .ok (.putfield 25, 3) := by decide +kernel
theorem dX4_init_41 : decode cX4_init 41 = .ok (.aload_n 0, 1) := by decide +kernel
theorem dX4_init_42 : decode cX4_init 42 = .ok (.iconst 0, 1) := by decide +kernel
theorem dX4_init_43 : decode cX4_init 43 = .ok (.putfield 28, 3) := by decide +kernel
theorem dX4_init_46 : decode cX4_init 46 = .ok (.aload_n 0, 1) := by decide +kernel
theorem dX4_init_47 : decode cX4_init 47 = .ok (.iconst 0, 1) := by decide +kernel
theorem dX4_init_48 : decode cX4_init 48 = .ok (.putfield 31, 3) := by decide +kernel
theorem dX4_init_51 : decode cX4_init 51 = .ok (.aload_n 0, 1) := by decide +kernel
theorem dX4_init_52 : decode cX4_init 52 = .ok (.iconst 0, 1) := by decide +kernel
theorem dX4_init_53 : decode cX4_init 53 = .ok (.putfield 34, 3) := by decide +kernel
theorem dX4_init_56 : decode cX4_init 56 = .ok (.aload_n 0, 1) := by decide +kernel
theorem dX4_init_57 : decode cX4_init 57 = .ok (.bipush 99, 2) := by decide +kernel
theorem dX4_init_59 : decode cX4_init 59 = .ok (.putfield 37, 3) := by decide +kernel
theorem dX4_init_62 : decode cX4_init 62 = .ok (.aload_n 0, 1) := by decide +kernel
theorem dX4_init_63 : decode cX4_init 63 = .ok (.iconst 0, 1) := by decide +kernel
theorem dX4_init_64 : decode cX4_init 64 = .ok (.putfield 40, 3) := by decide +kernel
theorem dX4_init_67 : decode cX4_init 67 = .ok (.aload_n 0, 1) := by decide +kernel
theorem dX4_init_68 : decode cX4_init 68 = .ok (.iconst 0, 1) := by decide +kernel
theorem dX4_init_69 : decode cX4_init 69 = .ok (.putfield 43, 3) := by decide +kernel
theorem dX4_init_72 : decode cX4_init 72 = .ok (.aload_n 0, 1) := by decide +kernel
theorem dX4_init_73 : decode cX4_init 73 = .ok (.iconst 1, 1) := by decide +kernel
theorem dX4_init_74 : decode cX4_init 74 = .ok (.putfield 46, 3) := by decide +kernel
theorem dX4_init_77 : decode cX4_init 77 = .ok (.aload_n 0, 1) := by decide +kernel
theorem dX4_init_78 : decode cX4_init 78 = .ok (.iconst 0, 1) := by decide +kernel
theorem dX4_init_79 : decode cX4_init 79 = .ok (.putfield 50, 3) := by decide +kernel
theorem dX4_init_82 : decode cX4_init 82 = .ok (.aload_n 0, 1) := by decide +kernel
theorem dX4_init_83 : decode cX4_init 83 = .ok (.iconst 0, 1) := by decide +kernel
theorem dX4_init_84 : decode cX4_init 84 = .ok (.putfield 53, 3) := by decide +kernel
theorem dX4_init_87 : decode cX4_init 87 = .ok (.aload_n 0, 1) := by decide +kernel
theorem dX4_init_88 : decode cX4_init 88 = .ok (.iconst 0, 1) := by decide +kernel
theorem dX4_init_89 : decode cX4_init 89 = .ok (.putfield 56, 3) := by decide +kernel
theorem dX4_init_92 : decode cX4_init 92 = .ok (.aload_n 0, 1) := by decide +kernel
theorem dX4_init_93 : decode cX4_init 93 = .ok (.iconst 0, 1) := by decide +kernel
theorem dX4_init_94 : decode cX4_init 94 = .ok (.putfield 59, 3) := by decide +kernel
theorem dX4_init_97 : decode cX4_init 97 = .ok (.iconst 0, 1) := by decide +kernel
theorem dX4_init_98 : decode cX4_init 98 = .ok (.istore_n 1, 1) := by decide +kernel
theorem dX4_init_99 : decode cX4_init 99 = .ok (.iload_n 1, 1) := by decide +kernel
theorem dX4_init_100 : decode cX4_init 100 = .ok (.bipush 10, 2) := by decide +kernel
theorem dX4_init_102 : decode cX4_init 102 = .ok (.if_icmp .ge 17, 3) := by decide +kernel
theorem dX4_init_105 : decode cX4_init 105 = .ok (.aload_n 0, 1) := by decide +kernel
theorem dX4_init_106 : decode cX4_init 106 = .ok (.getfield 22, 3) := by decide +kernel
theorem dX4_init_109 : decode cX4_init 109 = .ok (.iload_n 1, 1) := by decide +kernel
theorem dX4_init_110 : decode cX4_init 110 = .ok (.bipush (-4), 2) := by decide +kernel
theorem dX4_init_112 : decode cX4_init 112 = .ok (.iastore, 1) := by decide +kernel
theorem dX4_init_113 : decode cX4_init 113 = .ok (.iinc 1 1, 3) := by decide +kernel
theorem dX4_init_116 : decode cX4_init 116 = .ok (.goto (-17), 3) := by decide +kernel
theorem dX4_init_119 : decode cX4_init 119 = .ok (.return_, 1) := by decide +kernel
theorem dX4_copyFrom_0 : decode cX4_copyFrom 0 = .ok (.aload_n 1, 1) := by decide +kernel
theorem dX4_copyFrom_1 : decode cX4_copyFrom 1 = .ok (.getfield 15, 3) := by decide +kernel
theorem dX4_copyFrom_4 : decode cX4_copyFrom 4 = .ok (.iconst 0, 1) := by decide +kernel
theorem dX4_copyFrom_5 : decode cX4_copyFrom 5 = .ok (.aload_n 0, 1) := by decide +kernel
theorem dX4_copyFrom_6 : decode cX4_copyFrom 6 = .ok (.getfield 15, 3) := by decide +kernel
theorem dX4_copyFrom_9 : decode cX4_copyFrom 9 = .ok (.iconst 0, 1) := by decide +kernel
theorem dX4_copyFrom_10 : decode cX4_copyFrom 10 = .ok (.bipush 32, 2) := by decide +kernel
theorem dX4_copyFrom_12 : decode cX4_copyFrom 12 = .ok (.invokestatic 62, 3) := by decide +kernel
theorem dX4_copyFrom_15 : decode cX4_copyFrom 15 = .ok (.aload_n 1, 1) := by decide +kernel
theorem dX4_copyFrom_16 : decode cX4_copyFrom 16 = .ok (.getfield 19, 3) := by decide +kernel
theorem dX4_copyFrom_19 : decode cX4_copyFrom 19 = .ok (.iconst 0, 1) := by decide +kernel
theorem dX4_copyFrom_20 : decode cX4_copyFrom 20 = .ok (.aload_n 0, 1) := by decide +kernel
theorem dX4_copyFrom_21 : decode cX4_copyFrom 21 = .ok (.getfield 19, 3) := by decide +kernel
theorem dX4_copyFrom_24 : decode cX4_copyFrom 24 = .ok (.iconst 0, 1) := by decide +kernel
theorem dX4_copyFrom_25 : decode cX4_copyFrom 25 = .ok (.bipush 32, 2) := by decide +kernel
theorem dX4_copyFrom_27 : decode cX4_copyFrom 27 = .ok (.invokestatic 62, 3) := by decide +kernel
theorem dX4_copyFrom_30 : decode cX4_copyFrom 30 = .ok (.aload_n 1, 1) := by decide +kernel
theorem dX4_copyFrom_31 : decode cX4_copyFrom 31 = .ok (.getfield 22, 3) := by decide +kernel
theorem dX4_copyFrom_34 : decode cX4_copyFrom 34 = .ok (.iconst 0, 1) := by decide +kernel
theorem dX4_copyFrom_35 : decode cX4_copyFrom 35 = .ok (.aload_n 0, 1) := by decide +kernel
theorem dX4_copyFrom_36 : decode cX4_copyFrom 36 = .ok (.getfield 22, 3) := by decide +kernel
theorem dX4_copyFrom_39 : decode cX4_copyFrom 39 = .ok (.iconst 0, 1) := by decide +kernel
theorem dX4_copyFrom_40 : decode cX4_copyFrom 40 = .ok (.bipush 10, 2) := by decide +kernel
theorem dX4_copyFrom_42 : decode cX4_copyFrom 42 = .ok (.invokestatic 62, 3) := by decide +kernel
theorem dX4_copyFrom_45 : decode cX4_copyFrom 45 = .ok (.aload_n 1, 1) := by decide +kernel
theorem dX4_copyFrom_46 : decode cX4_copyFrom 46 = .ok (.getfield 25, 3) := by decide +kernel
theorem dX4_copyFrom_49 : decode cX4_copyFrom 49 = .ok (.iconst 0, 1) := by decide +kernel
theorem dX4_copyFrom_50 : decode cX4_copyFrom 50 = .ok (.aload_n 0, 1) := by decide +kernel
theorem dX4_copyFrom_51 : decode cX4_copyFrom 51 = .ok (.getfield 25, 3) := by decide +kernel
theorem dX4_copyFrom_54 : decode cX4_copyFrom 54 = .ok (.iconst 0, 1) := by decide +kernel
theorem dX4_copyFrom_55 : decode cX4_copyFrom 55 = .ok (.bipush 20, 2) := by decide +kernel
theorem dX4_copyFrom_57 : decode cX4_copyFrom 57 = .ok (.invokestatic 62, 3) := by decide +kernel
theorem dX4_copyFrom_60 : decode cX4_copyFrom 60 = .ok (.aload_n 0, 1) := by decide +kernel
theorem dX4_copyFrom_61 : decode cX4_copyFrom 61 = .ok (.aload_n 1, 1) := by decide +kernel
theorem dX4_copyFrom_62 : decode cX4_copyFrom 62 = .ok (.getfield 9, 3) := by decide +kernel
theorem dX4_copyFrom_65 : decode cX4_copyFrom 65 = .ok (.putfield 9, 3) := by decide +kernel
theorem dX4_copyFrom_68 : decode cX4_copyFrom 68 = .ok (.aload_n 0, 1) := by decide +kernel
theorem dX4_copyFrom_69 : decode cX4_copyFrom 69 = .ok (.aload_n 1, 1) := by decide +kernel
theorem dX4_copyFrom_70 : decode cX4_copyFrom 70 = .ok (.getfield 28, 3) := by decide +kernel
theorem dX4_copyFrom_73 : decode cX4_copyFrom 73 = .ok (.putfield 28, 3) := by decide +kernel
theorem dX4_copyFrom_76 : decode cX4_copyFrom 76 = .ok (.aload_n 0, 1) := by decide +kernel
theorem dX4_copyFrom_77 : decode cX4_copyFrom 77 = .ok (.aload_n 1, 1) := by decide +kernel
theorem dX4_copyFrom_78 : decode cX4_copyFrom 78 = .ok (.getfield 31, 3) := by decide +kernel
theorem dX4_copyFrom_81 : decode cX4_copyFrom 81 = .ok (.putfield 31, 3) := by decide +kernel
theorem dX4_copyFrom_84 : decode cX4_copyFrom 84 = .ok (.aload_n 0, 1) := by decide +kernel
theorem dX4_copyFrom_85 : decode cX4_copyFrom 85 = .ok (.aload_n 1, 1) := by decide +kernel
theorem dX4_copyFrom_86 : decode cX4_copyFrom 86 = .ok (.getfield 34, 3) := by decide +kernel
theorem dX4_copyFrom_89 : decode cX4_copyFrom 89 = .ok (.putfield 34, 3) := by decide +kernel
theorem dX4_copyFrom_92 : decode cX4_copyFrom 92 = .ok (.aload_n 0, 1) := by decide +kernel
theorem dX4_copyFrom_93 : decode cX4_copyFrom 93 = .ok (.aload_n 1, 1) := by decide +kernel
theorem dX4_copyFrom_94 : decode cX4_copyFrom 94 = .ok (.getfield 37, 3) := by decide +kernel
theorem dX4_copyFrom_97 : decode cX4_copyFrom 97 = .ok (.putfield 37, 3) := by decide +kernel
theorem dX4_copyFrom_100 : decode cX4_copyFrom 100 = .ok (.aload_n 0, 1) := by decide +kernel
theorem dX4_copyFrom_101 : decode cX4_copyFrom 101 = .ok (.aload_n 1, 1) := by decide +kernel
theorem dX4_copyFrom_102 : decode cX4_copyFrom 102 = .ok (.getfield 40, 3) := by decide +kernel
theorem dX4_copyFrom_105 : decode cX4_copyFrom 105 = .ok (.putfield 40, 3) := by decide +kernel
theorem dX4_copyFrom_108 : decode cX4_copyFrom 108 = .ok (.aload_n 0, 1) := by decide +kernel
theorem dX4_copyFrom_109 : decode cX4_copyFrom 109 = .ok (.aload_n 1, 1) := by decide +kernel
theorem dX4_copyFrom_110 : decode cX4_copyFrom 110 = .ok (.getfield 43, 3) := by decide +kernel
theorem dX4_copyFrom_113 : decode cX4_copyFrom 113 = .ok (.putfield 43, 3) := by decide +kernel
theorem dX4_copyFrom_116 : decode cX4_copyFrom 116 = .ok (.aload_n 0, 1) := by decide +kernel
theorem dX4_copyFrom_117 : decode cX4_copyFrom 117 = .ok (.aload_n 1, 1) := by decide +kernel
theorem dX4_copyFrom_118 : decode cX4_copyFrom 118 = .ok (.getfield 46, 3) := by decide +kernel
theorem dX4_copyFrom_121 : decode cX4_copyFrom 121 = .ok (.putfield 46, 3) := by decide +kernel
theorem dX4_copyFrom_124 : decode cX4_copyFrom 124 = .ok (.aload_n 0, 1) := by decide +kernel
theorem dX4_copyFrom_125 : decode cX4_copyFrom 125 = .ok (.aload_n 1, 1) := by decide +kernel
theorem dX4_copyFrom_126 : decode cX4_copyFrom 126 = .ok (.getfield 50, 3) := by decide +kernel
theorem dX4_copyFrom_129 : decode cX4_copyFrom 129 = .ok (.putfield 50, 3) := by decide +kernel
theorem dX4_copyFrom_132 : decode cX4_copyFrom 132 = .ok (.aload_n 0, 1) := by decide +kernel
theorem dX4_copyFrom_133 : decode cX4_copyFrom 133 = .ok (.aload_n 1, 1) := by decide +kernel
theorem dX4_copyFrom_134 : decode cX4_copyFrom 134 = .ok (.getfield 53, 3) := by decide +kernel
theorem dX4_copyFrom_137 : decode cX4_copyFrom 137 = .ok (.putfield 53, 3) := by decide +kernel
theorem dX4_copyFrom_140 : decode cX4_copyFrom 140 = .ok (.aload_n 0, 1) := by decide +kernel
theorem dX4_copyFrom_141 : decode cX4_copyFrom 141 = .ok (.aload_n 1, 1) := by decide +kernel
theorem dX4_copyFrom_142 : decode cX4_copyFrom 142 = .ok (.getfield 56, 3) := by decide +kernel
theorem dX4_copyFrom_145 : decode cX4_copyFrom 145 = .ok (.putfield 56, 3) := by decide +kernel
theorem dX4_copyFrom_148 : decode cX4_copyFrom 148 = .ok (.aload_n 0, 1) := by decide +kernel
theorem dX4_copyFrom_149 : decode cX4_copyFrom 149 = .ok (.aload_n 1, 1) := by decide +kernel
theorem dX4_copyFrom_150 : decode cX4_copyFrom 150 = .ok (.getfield 59, 3) := by decide +kernel
theorem dX4_copyFrom_153 : decode cX4_copyFrom 153 = .ok (.putfield 59, 3) := by decide +kernel
theorem dX4_copyFrom_156 : decode cX4_copyFrom 156 = .ok (.return_, 1) := by decide +kernel
theorem dX4_addRecord_0 : decode cX4_addRecord 0 = .ok (.aload_n 0, 1) := by decide +kernel
theorem dX4_addRecord_1 : decode cX4_addRecord 1 = .ok (.getfield 9, 3) := by decide +kernel
theorem dX4_addRecord_4 : decode cX4_addRecord 4 = .ok (.istore_n 3, 1) := by decide +kernel
theorem dX4_addRecord_5 : decode cX4_addRecord 5 = .ok (.aload_n 0, 1) := by decide +kernel
theorem dX4_addRecord_6 : decode cX4_addRecord 6 = .ok (.getfield 15, 3) := by decide +kernel
theorem dX4_addRecord_9 : decode cX4_addRecord 9 = .ok (.iconst 2, 1) := by decide +kernel
theorem dX4_addRecord_10 : decode cX4_addRecord 10 = .ok (.iload_n 3, 1) := by decide +kernel
theorem dX4_addRecord_11 : decode cX4_addRecord 11 = .ok (.imul, 1) := by decide +kernel
theorem dX4_addRecord_12 : decode cX4_addRecord 12 = .ok (.iload_n 1, 1) := by decide +kernel
theorem dX4_addRecord_13 : decode cX4_addRecord 13 = .ok (.iastore, 1) := by decide +kernel
theorem dX4_addRecord_14 : decode cX4_addRecord 14 = .ok (.aload_n 0, 1) := by decide +kernel
theorem dX4_addRecord_15 : decode cX4_addRecord 15 = .ok (.getfield 15, 3) := by decide +kernel
theorem dX4_addRecord_18 : decode cX4_addRecord 18 = .ok (.iconst 2, 1) := by decide +kernel
theorem dX4_addRecord_19 : decode cX4_addRecord 19 = .ok (.iload_n 3, 1) := by decide +kernel
theorem dX4_addRecord_20 : decode cX4_addRecord 20 = .ok (.imul, 1) := by decide +kernel
theorem dX4_addRecord_21 : decode cX4_addRecord 21 = .ok (.iconst 1, 1) := by decide +kernel
theorem dX4_addRecord_22 : decode cX4_addRecord 22 = .ok (.iadd, 1) := by decide +kernel
theorem dX4_addRecord_23 : decode cX4_addRecord 23 = .ok (.iload_n 2, 1) := by decide +kernel
theorem dX4_addRecord_24 : decode cX4_addRecord 24 = .ok (.iastore, 1) := by decide +kernel
theorem dX4_addRecord_25 : decode cX4_addRecord 25 = .ok (.aload_n 0, 1) := by decide +kernel
theorem dX4_addRecord_26 : decode cX4_addRecord 26 = .ok (.dup, 1) := by decide +kernel
theorem dX4_addRecord_27 : decode cX4_addRecord 27 = .ok (.getfield 9, 3) := by decide +kernel
theorem dX4_addRecord_30 : decode cX4_addRecord 30 = .ok (.iconst 1, 1) := by decide +kernel
theorem dX4_addRecord_31 : decode cX4_addRecord 31 = .ok (.iadd, 1) := by decide +kernel
theorem dX4_addRecord_32 : decode cX4_addRecord 32 = .ok (.putfield 9, 3) := by decide +kernel
theorem dX4_addRecord_35 : decode cX4_addRecord 35 = .ok (.iload_n 3, 1) := by decide +kernel
theorem dX4_addRecord_36 : decode cX4_addRecord 36 = .ok (.ireturn, 1) := by decide +kernel
theorem dX4_placeOf_0 : decode cX4_placeOf 0 = .ok (.iconst 0, 1) := by decide +kernel
theorem dX4_placeOf_1 : decode cX4_placeOf 1 = .ok (.istore_n 2, 1) := by decide +kernel
theorem dX4_placeOf_2 : decode cX4_placeOf 2 = .ok (.iload_n 2, 1) := by decide +kernel
theorem dX4_placeOf_3 : decode cX4_placeOf 3 = .ok (.bipush 10, 2) := by decide +kernel
theorem dX4_placeOf_5 : decode cX4_placeOf 5 = .ok (.if_icmp .ge 21, 3) := by decide +kernel
theorem dX4_placeOf_8 : decode cX4_placeOf 8 = .ok (.aload_n 0, 1) := by decide +kernel
theorem dX4_placeOf_9 : decode cX4_placeOf 9 = .ok (.getfield 22, 3) := by decide +kernel
theorem dX4_placeOf_12 : decode cX4_placeOf 12 = .ok (.iload_n 2, 1) := by decide +kernel
theorem dX4_placeOf_13 : decode cX4_placeOf 13 = .ok (.iaload, 1) := by decide +kernel
theorem dX4_placeOf_14 : decode cX4_placeOf 14 = .ok (.iload_n 1, 1) := by decide +kernel
theorem dX4_placeOf_15 : decode cX4_placeOf 15 = .ok (.if_icmp .ne 5, 3) := by decide +kernel
theorem dX4_placeOf_18 : decode cX4_placeOf 18 = .ok (.iload_n 2, 1) := by decide +kernel
theorem dX4_placeOf_19 : decode cX4_placeOf 19 = .ok (.ireturn, 1) := by decide +kernel
theorem dX4_placeOf_20 : decode cX4_placeOf 20 = .ok (.iinc 2 1, 3) := by decide +kernel
theorem dX4_placeOf_23 : decode cX4_placeOf 23 = .ok (.goto (-21), 3) := by decide +kernel
theorem dX4_placeOf_26 : decode cX4_placeOf 26 = .ok (.bipush (-4), 2) := by decide +kernel
theorem dX4_placeOf_28 : decode cX4_placeOf 28 = .ok (.ireturn, 1) := by decide +kernel
theorem dX4_emptyPlaces_0 : decode cX4_emptyPlaces 0 = .ok (.iconst 0, 1) := by decide +kernel
theorem dX4_emptyPlaces_1 : decode cX4_emptyPlaces 1 = .ok (.istore_n 1, 1) := by decide +kernel
theorem dX4_emptyPlaces_2 : decode cX4_emptyPlaces 2 = .ok (.iconst 0, 1) := by decide +kernel
theorem dX4_emptyPlaces_3 : decode cX4_emptyPlaces 3 = .ok (.istore_n 2, 1) := by decide +kernel
theorem dX4_emptyPlaces_4 : decode cX4_emptyPlaces 4 = .ok (.iload_n 2, 1) := by decide +kernel
theorem dX4_emptyPlaces_5 : decode cX4_emptyPlaces 5 = .ok (.bipush 10, 2) := by decide +kernel
theorem dX4_emptyPlaces_7 : decode cX4_emptyPlaces 7 = .ok (.if_icmp .ge 23, 3) := by decide +kernel
theorem dX4_emptyPlaces_10 : decode cX4_emptyPlaces 10 = .ok (.aload_n 0, 1) := by decide +kernel
theorem dX4_emptyPlaces_11 : decode cX4_emptyPlaces 11 = .ok (.getfield 22, 3) := by decide +kernel
theorem dX4_emptyPlaces_14 : decode cX4_emptyPlaces 14 = .ok (.iload_n 2, 1) := by decide +kernel
theorem dX4_emptyPlaces_15 : decode cX4_emptyPlaces 15 = .ok (.iaload, 1) := by decide +kernel
theorem dX4_emptyPlaces_16 : decode cX4_emptyPlaces 16 = .ok (.bipush (-4), 2) := by decide +kernel
theorem dX4_emptyPlaces_18 : decode cX4_emptyPlaces 18 = .ok (.if_icmp .ne 6, 3) := by decide +kernel
theorem dX4_emptyPlaces_21 : decode cX4_emptyPlaces 21 = .ok (.iinc 1 1, 3) := by decide +kernel
theorem dX4_emptyPlaces_24 : decode cX4_emptyPlaces 24 = .ok (.iinc 2 1, 3) := by decide +kernel
theorem dX4_emptyPlaces_27 : decode cX4_emptyPlaces 27 = .ok (.goto (-23), 3) := by decide +kernel
theorem dX4_emptyPlaces_30 : decode cX4_emptyPlaces 30 = .ok (.iload_n 1, 1) := by decide +kernel
theorem dX4_emptyPlaces_31 : decode cX4_emptyPlaces 31 = .ok (.ireturn, 1) := by decide +kernel
theorem dX4_swap_0 : decode cX4_swap 0 = .ok (.aload_n 0, 1) := by decide +kernel
theorem dX4_swap_1 : decode cX4_swap 1 = .ok (.getfield 22, 3) := by decide +kernel
theorem dX4_swap_4 : decode cX4_swap 4 = .ok (.iload_n 1, 1) := by decide +kernel
theorem dX4_swap_5 : decode cX4_swap 5 = .ok (.iaload, 1) := by decide +kernel
theorem dX4_swap_6 : decode cX4_swap 6 = .ok (.istore_n 3, 1) := by decide +kernel
theorem dX4_swap_7 : decode cX4_swap 7 = .ok (.aload_n 0, 1) := by decide +kernel
theorem dX4_swap_8 : decode cX4_swap 8 = .ok (.getfield 22, 3) := by decide +kernel
theorem dX4_swap_11 : decode cX4_swap 11 = .ok (.iload_n 1, 1) := by decide +kernel
theorem dX4_swap_12 : decode cX4_swap 12 = .ok (.aload_n 0, 1) := by decide +kernel
theorem dX4_swap_13 : decode cX4_swap 13 = .ok (.getfield 22, 3) := by decide +kernel
theorem dX4_swap_16 : decode cX4_swap 16 = .ok (.iload_n 2, 1) := by decide +kernel
theorem dX4_swap_17 : decode cX4_swap 17 = .ok (.iaload, 1) := by decide +kernel
theorem dX4_swap_18 : decode cX4_swap 18 = .ok (.iastore, 1) := by decide +kernel
theorem dX4_swap_19 : decode cX4_swap 19 = .ok (.aload_n 0, 1) := by decide +kernel
theorem dX4_swap_20 : decode cX4_swap 20 = .ok (.getfield 22, 3) := by decide +kernel
theorem dX4_swap_23 : decode cX4_swap 23 = .ok (.iload_n 2, 1) := by decide +kernel
theorem dX4_swap_24 : decode cX4_swap 24 = .ok (.iload_n 3, 1) := by decide +kernel
theorem dX4_swap_25 : decode cX4_swap 25 = .ok (.iastore, 1) := by decide +kernel
theorem dX4_swap_26 : decode cX4_swap 26 = .ok (.return_, 1) := by decide +kernel
theorem dX4_isIn_0 : decode cX4_isIn 0 = .ok (.aload_n 0, 1) := by decide +kernel
theorem dX4_isIn_1 : decode cX4_isIn 1 = .ok (.getfield 28, 3) := by decide +kernel
theorem dX4_isIn_4 : decode cX4_isIn 4 = .ok (.iload_n 1, 1) := by decide +kernel
theorem dX4_isIn_5 : decode cX4_isIn 5 = .ok (.ishr, 1) := by decide +kernel
theorem dX4_isIn_6 : decode cX4_isIn 6 = .ok (.iconst 1, 1) := by decide +kernel
theorem dX4_isIn_7 : decode cX4_isIn 7 = .ok (.iand, 1) := by decide +kernel
theorem dX4_isIn_8 : decode cX4_isIn 8 = .ok (.iconst 1, 1) := by decide +kernel
theorem dX4_isIn_9 : decode cX4_isIn 9 = .ok (.if_icmp .ne 7, 3) := by decide +kernel
theorem dX4_isIn_12 : decode cX4_isIn 12 = .ok (.iconst 1, 1) := by decide +kernel
theorem dX4_isIn_13 : decode cX4_isIn 13 = .ok (.goto 4, 3) := by decide +kernel
theorem dX4_isIn_16 : decode cX4_isIn 16 = .ok (.iconst 0, 1) := by decide +kernel
theorem dX4_isIn_17 : decode cX4_isIn 17 = .ok (.ireturn, 1) := by decide +kernel
theorem dX4_howIs_0 : decode cX4_howIs 0 = .ok (.aload_n 0, 1) := by decide +kernel
theorem dX4_howIs_1 : decode cX4_howIs 1 = .ok (.getfield 31, 3) := by decide +kernel
theorem dX4_howIs_4 : decode cX4_howIs 4 = .ok (.iload_n 1, 1) := by decide +kernel
theorem dX4_howIs_5 : decode cX4_howIs 5 = .ok (.ishr, 1) := by decide +kernel
theorem dX4_howIs_6 : decode cX4_howIs 6 = .ok (.iconst 1, 1) := by decide +kernel
theorem dX4_howIs_7 : decode cX4_howIs 7 = .ok (.iand, 1) := by decide +kernel
theorem dX4_howIs_8 : decode cX4_howIs 8 = .ok (.iconst 1, 1) := by decide +kernel
theorem dX4_howIs_9 : decode cX4_howIs 9 = .ok (.if_icmp .ne 5, 3) := by decide +kernel
theorem dX4_howIs_12 : decode cX4_howIs 12 = .ok (.iconst 1, 1) := by decide +kernel
theorem dX4_howIs_13 : decode cX4_howIs 13 = .ok (.ireturn, 1) := by decide +kernel
theorem dX4_howIs_14 : decode cX4_howIs 14 = .ok (.aload_n 0, 1) := by decide +kernel
theorem dX4_howIs_15 : decode cX4_howIs 15 = .ok (.getfield 34, 3) := by decide +kernel
theorem dX4_howIs_18 : decode cX4_howIs 18 = .ok (.iload_n 1, 1) := by decide +kernel
theorem dX4_howIs_19 : decode cX4_howIs 19 = .ok (.ishr, 1) := by decide +kernel
theorem dX4_howIs_20 : decode cX4_howIs 20 = .ok (.iconst 1, 1) := by decide +kernel
theorem dX4_howIs_21 : decode cX4_howIs 21 = .ok (.iand, 1) := by decide +kernel
theorem dX4_howIs_22 : decode cX4_howIs 22 = .ok (.iconst 1, 1) := by decide +kernel
theorem dX4_howIs_23 : decode cX4_howIs 23 = .ok (.if_icmp .ne 7, 3) := by decide +kernel
theorem dX4_howIs_26 : decode cX4_howIs 26 = .ok (.iconst 2, 1) := by decide +kernel
theorem dX4_howIs_27 : decode cX4_howIs 27 = .ok (.goto 4, 3) := by decide +kernel
theorem dX4_howIs_30 : decode cX4_howIs 30 = .ok (.iconst 0, 1) := by decide +kernel
theorem dX4_howIs_31 : decode cX4_howIs 31 = .ok (.ireturn, 1) := by decide +kernel
theorem dX4_makePin_0 : decode cX4_makePin 0 = .ok (.iconst 1, 1) := by decide +kernel
theorem dX4_makePin_1 : decode cX4_makePin 1 = .ok (.iload_n 1, 1) := by decide +kernel
theorem dX4_makePin_2 : decode cX4_makePin 2 = .ok (.ishl, 1) := by decide +kernel
theorem dX4_makePin_3 : decode cX4_makePin 3 = .ok (.istore_n 3, 1) := by decide +kernel
theorem dX4_makePin_4 : decode cX4_makePin 4 = .ok (.aload_n 0, 1) := by decide +kernel
theorem dX4_makePin_5 : decode cX4_makePin 5 = .ok (.dup, 1) := by decide +kernel
theorem dX4_makePin_6 : decode cX4_makePin 6 = .ok (.getfield 31, 3) := by decide +kernel
theorem dX4_makePin_9 : decode cX4_makePin 9 = .ok (.iload_n 3, 1) := by decide +kernel
theorem dX4_makePin_10 : decode cX4_makePin 10 = .ok (.iconst (-1), 1) := by decide +kernel
theorem dX4_makePin_11 : decode cX4_makePin 11 = .ok (.ixor, 1) := by decide +kernel
theorem dX4_makePin_12 : decode cX4_makePin 12 = .ok (.iand, 1) := by decide +kernel
theorem dX4_makePin_13 : decode cX4_makePin 13 = .ok (.putfield 31, 3) := by decide +kernel
theorem dX4_makePin_16 : decode cX4_makePin 16 = .ok (.aload_n 0, 1) := by decide +kernel
theorem dX4_makePin_17 : decode cX4_makePin 17 = .ok (.dup, 1) := by decide +kernel
theorem dX4_makePin_18 : decode cX4_makePin 18 = .ok (.getfield 34, 3) := by decide +kernel
theorem dX4_makePin_21 : decode cX4_makePin 21 = .ok (.iload_n 3, 1) := by decide +kernel
theorem dX4_makePin_22 : decode cX4_makePin 22 = .ok (.iconst (-1), 1) := by decide +kernel
theorem dX4_makePin_23 : decode cX4_makePin 23 = .ok (.ixor, 1) := by decide +kernel
theorem dX4_makePin_24 : decode cX4_makePin 24 = .ok (.iand, 1) := by decide +kernel
theorem dX4_makePin_25 : decode cX4_makePin 25 = .ok (.putfield 34, 3) := by decide +kernel
theorem dX4_makePin_28 : decode cX4_makePin 28 = .ok (.iload_n 2, 1) := by decide +kernel
theorem dX4_makePin_29 : decode cX4_makePin 29 = .ok (.iconst 1, 1) := by decide +kernel
theorem dX4_makePin_30 : decode cX4_makePin 30 = .ok (.if_icmp .ne 26, 3) := by decide +kernel
theorem dX4_makePin_33 : decode cX4_makePin 33 = .ok (.aload_n 0, 1) := by decide +kernel
theorem dX4_makePin_34 : decode cX4_makePin 34 = .ok (.dup, 1) := by decide +kernel
theorem dX4_makePin_35 : decode cX4_makePin 35 = .ok (.getfield 31, 3) := by decide +kernel
theorem dX4_makePin_38 : decode cX4_makePin 38 = .ok (.iload_n 3, 1) := by decide +kernel
theorem dX4_makePin_39 : decode cX4_makePin 39 = .ok (.ior, 1) := by decide +kernel
theorem dX4_makePin_40 : decode cX4_makePin 40 = .ok (.putfield 31, 3) := by decide +kernel
theorem dX4_makePin_43 : decode cX4_makePin 43 = .ok (.aload_n 0, 1) := by decide +kernel
theorem dX4_makePin_44 : decode cX4_makePin 44 = .ok (.dup, 1) := by decide +kernel
theorem dX4_makePin_45 : decode cX4_makePin 45 = .ok (.getfield 28, 3) := by decide +kernel
theorem dX4_makePin_48 : decode cX4_makePin 48 = .ok (.iload_n 3, 1) := by decide +kernel
theorem dX4_makePin_49 : decode cX4_makePin 49 = .ok (.ior, 1) := by decide +kernel
theorem dX4_makePin_50 : decode cX4_makePin 50 = .ok (.putfield 28, 3) := by decide +kernel
theorem dX4_makePin_53 : decode cX4_makePin 53 = .ok (.goto 30, 3) := by decide +kernel
theorem dX4_makePin_56 : decode cX4_makePin 56 = .ok (.iload_n 2, 1) := by decide +kernel
theorem dX4_makePin_57 : decode cX4_makePin 57 = .ok (.iconst 2, 1) := by decide +kernel
theorem dX4_makePin_58 : decode cX4_makePin 58 = .ok (.if_icmp .ne 25, 3) := by decide +kernel
theorem dX4_makePin_61 : decode cX4_makePin 61 = .ok (.aload_n 0, 1) := by decide +kernel
theorem dX4_makePin_62 : decode cX4_makePin 62 = .ok (.dup, 1) := by decide +kernel
theorem dX4_makePin_63 : decode cX4_makePin 63 = .ok (.getfield 34, 3) := by decide +kernel
theorem dX4_makePin_66 : decode cX4_makePin 66 = .ok (.iload_n 3, 1) := by decide +kernel
theorem dX4_makePin_67 : decode cX4_makePin 67 = .ok (.ior, 1) := by decide +kernel
theorem dX4_makePin_68 : decode cX4_makePin 68 = .ok (.putfield 34, 3) := by decide +kernel
theorem dX4_makePin_71 : decode cX4_makePin 71 = .ok (.aload_n 0, 1) := by decide +kernel
theorem dX4_makePin_72 : decode cX4_makePin 72 = .ok (.dup, 1) := by decide +kernel
theorem dX4_makePin_73 : decode cX4_makePin 73 = .ok (.getfield 28, 3) := by decide +kernel
theorem dX4_makePin_76 : decode cX4_makePin 76 = .ok (.iload_n 3, 1) := by decide +kernel
theorem dX4_makePin_77 : decode cX4_makePin 77 = .ok (.iconst (-1), 1) := by decide +kernel
theorem dX4_makePin_78 : decode cX4_makePin 78 = .ok (.ixor, 1) := by decide +kernel
theorem dX4_makePin_79 : decode cX4_makePin 79 = .ok (.iand, 1) := by decide +kernel
theorem dX4_makePin_80 : decode cX4_makePin 80 = .ok (.putfield 28, 3) := by decide +kernel
theorem dX4_makePin_83 : decode cX4_makePin 83 = .ok (.return_, 1) := by decide +kernel
theorem dX4_isAsked_0 : decode cX4_isAsked 0 = .ok (.aload_n 0, 1) := by decide +kernel
theorem dX4_isAsked_1 : decode cX4_isAsked 1 = .ok (.iconst 2, 1) := by decide +kernel
theorem dX4_isAsked_2 : decode cX4_isAsked 2 = .ok (.iload_n 1, 1) := by decide +kernel
theorem dX4_isAsked_3 : decode cX4_isAsked 3 = .ok (.imul, 1) := by decide +kernel
theorem dX4_isAsked_4 : decode cX4_isAsked 4 = .ok (.invokevirtual 68, 3) := by decide +kernel
theorem dX4_isAsked_7 : decode cX4_isAsked 7 = .ok (.ifCond .ne 15, 3) := by decide +kernel
theorem dX4_isAsked_10 : decode cX4_isAsked 10 = .ok (.aload_n 0, 1) := by decide +kernel
theorem dX4_isAsked_11 : decode cX4_isAsked 11 = .ok (.iconst 2, 1) := by decide +kernel
theorem dX4_isAsked_12 : decode cX4_isAsked 12 = .ok (.iload_n 1, 1) := by decide +kernel
theorem dX4_isAsked_13 : decode cX4_isAsked 13 = .ok (.imul, 1) := by decide +kernel
theorem dX4_isAsked_14 : decode cX4_isAsked 14 = .ok (.iconst 1, 1) := by decide +kernel
theorem dX4_isAsked_15 : decode cX4_isAsked 15 = .ok (.iadd, 1) := by decide +kernel
theorem dX4_isAsked_16 : decode cX4_isAsked 16 = .ok (.invokevirtual 68, 3) := by decide +kernel
theorem dX4_isAsked_19 : decode cX4_isAsked 19 = .ok (.ifCond .eq 7, 3) := by decide +kernel
theorem dX4_isAsked_22 : decode cX4_isAsked 22 = .ok (.iconst 1, 1) := by decide +kernel
theorem dX4_isAsked_23 : decode cX4_isAsked 23 = .ok (.goto 4, 3) := by decide +kernel
theorem dX4_isAsked_26 : decode cX4_isAsked 26 = .ok (.iconst 0, 1) := by decide +kernel
theorem dX4_isAsked_27 : decode cX4_isAsked 27 = .ok (.ireturn, 1) := by decide +kernel
theorem dX4_isOut_0 : decode cX4_isOut 0 = .ok (.iload_n 1, 1) := by decide +kernel
theorem dX4_isOut_1 : decode cX4_isOut 1 = .ok (.aload_n 0, 1) := by decide +kernel
theorem dX4_isOut_2 : decode cX4_isOut 2 = .ok (.getfield 43, 3) := by decide +kernel
theorem dX4_isOut_5 : decode cX4_isOut 5 = .ok (.if_icmp .ne 15, 3) := by decide +kernel
theorem dX4_isOut_8 : decode cX4_isOut 8 = .ok (.aload_n 0, 1) := by decide +kernel
theorem dX4_isOut_9 : decode cX4_isOut 9 = .ok (.getfield 50, 3) := by decide +kernel
theorem dX4_isOut_12 : decode cX4_isOut 12 = .ok (.iconst 3, 1) := by decide +kernel
theorem dX4_isOut_13 : decode cX4_isOut 13 = .ok (.if_icmp .lt 7, 3) := by decide +kernel
theorem dX4_isOut_16 : decode cX4_isOut 16 = .ok (.iconst 1, 1) := by decide +kernel
theorem dX4_isOut_17 : decode cX4_isOut 17 = .ok (.goto 4, 3) := by decide +kernel
theorem dX4_isOut_20 : decode cX4_isOut 20 = .ok (.iconst 0, 1) := by decide +kernel
theorem dX4_isOut_21 : decode cX4_isOut 21 = .ok (.ireturn, 1) := by decide +kernel
theorem dX4_isDone_0 : decode cX4_isDone 0 = .ok (.aload_n 0, 1) := by decide +kernel
theorem dX4_isDone_1 : decode cX4_isDone 1 = .ok (.getfield 50, 3) := by decide +kernel
theorem dX4_isDone_4 : decode cX4_isDone 4 = .ok (.ifCond .ne 14, 3) := by decide +kernel
theorem dX4_isDone_7 : decode cX4_isDone 7 = .ok (.aload_n 0, 1) := by decide +kernel
theorem dX4_isDone_8 : decode cX4_isDone 8 = .ok (.getfield 28, 3) := by decide +kernel
theorem dX4_isDone_11 : decode cX4_isDone 11 = .ok (.ifCond .ne 7, 3) := by decide +kernel
theorem dX4_isDone_14 : decode cX4_isDone 14 = .ok (.iconst 1, 1) := by decide +kernel
theorem dX4_isDone_15 : decode cX4_isDone 15 = .ok (.goto 4, 3) := by decide +kernel
theorem dX4_isDone_18 : decode cX4_isDone 18 = .ok (.iconst 0, 1) := by decide +kernel
theorem dX4_isDone_19 : decode cX4_isDone 19 = .ok (.ireturn, 1) := by decide +kernel
theorem dX4_ownSong_0 : decode cX4_ownSong 0 = .ok (.aload_n 0, 1) := by decide +kernel
theorem dX4_ownSong_1 : decode cX4_ownSong 1 = .ok (.getfield 46, 3) := by decide +kernel
theorem dX4_ownSong_4 : decode cX4_ownSong 4 = .ok (.ifCond .eq 12, 3) := by decide +kernel
theorem dX4_ownSong_7 : decode cX4_ownSong 7 = .ok (.iconst 2, 1) := by decide +kernel
theorem dX4_ownSong_8 : decode cX4_ownSong 8 = .ok (.aload_n 0, 1) := by decide +kernel
theorem dX4_ownSong_9 : decode cX4_ownSong 9 = .ok (.getfield 43, 3) := by decide +kernel
theorem dX4_ownSong_12 : decode cX4_ownSong 12 = .ok (.imul, 1) := by decide +kernel
theorem dX4_ownSong_13 : decode cX4_ownSong 13 = .ok (.goto 11, 3) := by decide +kernel
theorem dX4_ownSong_16 : decode cX4_ownSong 16 = .ok (.iconst 2, 1) := by decide +kernel
theorem dX4_ownSong_17 : decode cX4_ownSong 17 = .ok (.aload_n 0, 1) := by decide +kernel
theorem dX4_ownSong_18 : decode cX4_ownSong 18 = .ok (.getfield 43, 3) := by decide +kernel
theorem dX4_ownSong_21 : decode cX4_ownSong 21 = .ok (.imul, 1) := by decide +kernel
theorem dX4_ownSong_22 : decode cX4_ownSong 22 = .ok (.iconst 1, 1) := by decide +kernel
theorem dX4_ownSong_23 : decode cX4_ownSong 23 = .ok (.iadd, 1) := by decide +kernel
theorem dX4_ownSong_24 : decode cX4_ownSong 24 = .ok (.ireturn, 1) := by decide +kernel
theorem dX4_pass_0 : decode cX4_pass 0 = .ok (.aload_n 0, 1) := by decide +kernel
theorem dX4_pass_1 : decode cX4_pass 1 = .ok (.invokevirtual 72, 3) := by decide +kernel
theorem dX4_pass_4 : decode cX4_pass 4 = .ok (.ifCond .eq 15, 3) := by decide +kernel
theorem dX4_pass_7 : decode cX4_pass 7 = .ok (.aload_n 0, 1) := by decide +kernel
theorem dX4_pass_8 : decode cX4_pass 8 = .ok (.dup, 1) := by decide +kernel
theorem dX4_pass_9 : decode cX4_pass 9 = .ok (.getfield 40, 3) := by decide +kernel
theorem dX4_pass_12 : decode cX4_pass 12 = .ok (.iload_n 1, 1) := by decide +kernel
theorem dX4_pass_13 : decode cX4_pass 13 = .ok (.iadd, 1) := by decide +kernel
theorem dX4_pass_14 : decode cX4_pass 14 = .ok (.putfield 40, 3) := by decide +kernel
theorem dX4_pass_17 : decode cX4_pass 17 = .ok (.iload_n 1, 1) := by decide +kernel
theorem dX4_pass_18 : decode cX4_pass 18 = .ok (.ireturn, 1) := by decide +kernel
theorem dX4_pass_19 : decode cX4_pass 19 = .ok (.aload_n 0, 1) := by decide +kernel
theorem dX4_pass_20 : decode cX4_pass 20 = .ok (.getfield 50, 3) := by decide +kernel
theorem dX4_pass_23 : decode cX4_pass 23 = .ok (.ifCond .ne 19, 3) := by decide +kernel
theorem dX4_pass_26 : decode cX4_pass 26 = .ok (.aload_n 0, 1) := by decide +kernel
theorem dX4_pass_27 : decode cX4_pass 27 = .ok (.dup, 1) := by decide +kernel
theorem dX4_pass_28 : decode cX4_pass 28 = .ok (.getfield 40, 3) := by decide +kernel
theorem dX4_pass_31 : decode cX4_pass 31 = .ok (.iconst 1, 1) := by decide +kernel
theorem dX4_pass_32 : decode cX4_pass 32 = .ok (.iadd, 1) := by decide +kernel
theorem dX4_pass_33 : decode cX4_pass 33 = .ok (.putfield 40, 3) := by decide +kernel
theorem dX4_pass_36 : decode cX4_pass 36 = .ok (.aload_n 0, 1) := by decide +kernel
theorem dX4_pass_37 : decode cX4_pass 37 = .ok (.invokevirtual 76, 3) := by decide +kernel
theorem dX4_pass_40 : decode cX4_pass 40 = .ok (.iconst 1, 1) := by decide +kernel
theorem dX4_pass_41 : decode cX4_pass 41 = .ok (.ireturn, 1) := by decide +kernel
theorem dX4_pass_42 : decode cX4_pass 42 = .ok (.iload_n 1, 1) := by decide +kernel
theorem dX4_pass_43 : decode cX4_pass 43 = .ok (.aload_n 0, 1) := by decide +kernel
theorem dX4_pass_44 : decode cX4_pass 44 = .ok (.getfield 53, 3) := by decide +kernel
theorem dX4_pass_47 : decode cX4_pass 47 = .ok (.invokestatic 79, 3) := by decide +kernel
theorem dX4_pass_50 : decode cX4_pass 50 = .ok (.istore_n 2, 1) := by decide +kernel
theorem dX4_pass_51 : decode cX4_pass 51 = .ok (.aload_n 0, 1) := by decide +kernel
theorem dX4_pass_52 : decode cX4_pass 52 = .ok (.dup, 1) := by decide +kernel
theorem dX4_pass_53 : decode cX4_pass 53 = .ok (.getfield 40, 3) := by decide +kernel
theorem dX4_pass_56 : decode cX4_pass 56 = .ok (.iload_n 2, 1) := by decide +kernel
theorem dX4_pass_57 : decode cX4_pass 57 = .ok (.iadd, 1) := by decide +kernel
theorem dX4_pass_58 : decode cX4_pass 58 = .ok (.putfield 40, 3) := by decide +kernel
theorem dX4_pass_61 : decode cX4_pass 61 = .ok (.aload_n 0, 1) := by decide +kernel
theorem dX4_pass_62 : decode cX4_pass 62 = .ok (.dup, 1) := by decide +kernel
theorem dX4_pass_63 : decode cX4_pass 63 = .ok (.getfield 53, 3) := by decide +kernel
theorem dX4_pass_66 : decode cX4_pass 66 = .ok (.iload_n 2, 1) := by decide +kernel
theorem dX4_pass_67 : decode cX4_pass 67 = .ok (.isub, 1) := by decide +kernel
theorem dX4_pass_68 : decode cX4_pass 68 = .ok (.putfield 53, 3) := by decide +kernel
theorem dX4_pass_71 : decode cX4_pass 71 = .ok (.aload_n 0, 1) := by decide +kernel
theorem dX4_pass_72 : decode cX4_pass 72 = .ok (.getfield 53, 3) := by decide +kernel
theorem dX4_pass_75 : decode cX4_pass 75 = .ok (.ifCond .ne 7, 3) := by decide +kernel
theorem dX4_pass_78 : decode cX4_pass 78 = .ok (.aload_n 0, 1) := by decide +kernel
theorem dX4_pass_79 : decode cX4_pass 79 = .ok (.invokevirtual 85, 3) := by decide +kernel
theorem dX4_pass_82 : decode cX4_pass 82 = .ok (.iload_n 2, 1) := by decide +kernel
theorem dX4_pass_83 : decode cX4_pass 83 = .ok (.ireturn, 1) := by decide +kernel
theorem dX4_endStep_0 : decode cX4_endStep 0 = .ok (.aload_n 0, 1) := by decide +kernel
theorem dX4_endStep_1 : decode cX4_endStep 1 = .ok (.getfield 50, 3) := by decide +kernel
theorem dX4_endStep_4 : decode cX4_endStep 4 = .ok (.tableswitch 117 1 4 #[32, 74, 97, 104], 32) := by decide +kernel
theorem dX4_endStep_36 : decode cX4_endStep 36 = .ok (.aload_n 0, 1) := by decide +kernel
theorem dX4_endStep_37 : decode cX4_endStep 37 = .ok (.aload_n 0, 1) := by decide +kernel
theorem dX4_endStep_38 : decode cX4_endStep 38 = .ok (.getfield 46, 3) := by decide +kernel
theorem dX4_endStep_41 : decode cX4_endStep 41 = .ok (.ifCond .eq 17, 3) := by decide +kernel
theorem dX4_endStep_44 : decode cX4_endStep 44 = .ok (.aload_n 0, 1) := by decide +kernel
theorem dX4_endStep_45 : decode cX4_endStep 45 = .ok (.getfield 43, 3) := by decide +kernel
theorem dX4_endStep_48 : decode cX4_endStep 48 = .ok (.iconst 1, 1) := by decide +kernel
theorem dX4_endStep_49 : decode cX4_endStep 49 = .ok (.iadd, 1) := by decide +kernel
theorem dX4_endStep_50 : decode cX4_endStep 50 = .ok (.bipush 9, 2) := by decide +kernel
theorem dX4_endStep_52 : decode cX4_endStep 52 = .ok (.invokestatic 79, 3) := by decide +kernel
theorem dX4_endStep_55 : decode cX4_endStep 55 = .ok (.goto 13, 3) := by decide +kernel
theorem dX4_endStep_58 : decode cX4_endStep 58 = .ok (.aload_n 0, 1) := by decide +kernel
theorem dX4_endStep_59 : decode cX4_endStep 59 = .ok (.getfield 43, 3) := by decide +kernel
theorem dX4_endStep_62 : decode cX4_endStep 62 = .ok (.iconst 1, 1) := by decide +kernel
theorem dX4_endStep_63 : decode cX4_endStep 63 = .ok (.isub, 1) := by decide +kernel
theorem dX4_endStep_64 : decode cX4_endStep 64 = .ok (.iconst 0, 1) := by decide +kernel
theorem dX4_endStep_65 : decode cX4_endStep 65 = .ok (.invokestatic 88, 3) := by decide +kernel
theorem dX4_endStep_68 : decode cX4_endStep 68 = .ok (.putfield 43, 3) := by decide +kernel
theorem dX4_endStep_71 : decode cX4_endStep 71 = .ok (.aload_n 0, 1) := by decide +kernel
theorem dX4_endStep_72 : decode cX4_endStep 72 = .ok (.invokevirtual 76, 3) := by decide +kernel
theorem dX4_endStep_75 : decode cX4_endStep 75 = .ok (.goto 50, 3) := by decide +kernel
theorem dX4_endStep_78 : decode cX4_endStep 78 = .ok (.aload_n 0, 1) := by decide +kernel
theorem dX4_endStep_79 : decode cX4_endStep 79 = .ok (.aload_n 0, 1) := by decide +kernel
theorem dX4_endStep_80 : decode cX4_endStep 80 = .ok (.getfield 46, 3) := by decide +kernel
theorem dX4_endStep_83 : decode cX4_endStep 83 = .ok (.ifCond .ne 7, 3) := by decide +kernel
theorem dX4_endStep_86 : decode cX4_endStep 86 = .ok (.iconst 1, 1) := by decide +kernel
theorem dX4_endStep_87 : decode cX4_endStep 87 = .ok (.goto 4, 3) := by decide +kernel
theorem dX4_endStep_90 : decode cX4_endStep 90 = .ok (.iconst 0, 1) := by decide +kernel
theorem dX4_endStep_91 : decode cX4_endStep 91 = .ok (.putfield 46, 3) := by decide +kernel
theorem dX4_endStep_94 : decode cX4_endStep 94 = .ok (.aload_n 0, 1) := by decide +kernel
theorem dX4_endStep_95 : decode cX4_endStep 95 = .ok (.invokevirtual 76, 3) := by decide +kernel
theorem dX4_endStep_98 : decode cX4_endStep 98 = .ok (.goto 27, 3) := by decide +kernel
theorem dX4_endStep_101 : decode cX4_endStep 101 = .ok (.aload_n 0, 1) := by decide +kernel
theorem dX4_endStep_102 : decode cX4_endStep 102 = .ok (.invokevirtual 91, 3) := by decide +kernel
theorem dX4_endStep_105 : decode cX4_endStep 105 = .ok (.goto 20, 3) := by decide +kernel
theorem dX4_endStep_108 : decode cX4_endStep 108 = .ok (.aload_n 0, 1) := by decide +kernel
theorem dX4_endStep_109 : decode cX4_endStep 109 = .ok (.iconst 5, 1) := by decide +kernel
theorem dX4_endStep_110 : decode cX4_endStep 110 = .ok (.putfield 50, 3) := by decide +kernel
theorem dX4_endStep_113 : decode cX4_endStep 113 = .ok (.aload_n 0, 1) := by decide +kernel
theorem dX4_endStep_114 : decode cX4_endStep 114 = .ok (.iconst 4, 1) := by decide +kernel
theorem dX4_endStep_115 : decode cX4_endStep 115 = .ok (.putfield 53, 3) := by decide +kernel
theorem dX4_endStep_118 : decode cX4_endStep 118 = .ok (.goto 7, 3) := by decide +kernel
theorem dX4_endStep_121 : decode cX4_endStep 121 = .ok (.aload_n 0, 1) := by decide +kernel
theorem dX4_endStep_122 : decode cX4_endStep 122 = .ok (.invokevirtual 94, 3) := by decide +kernel
theorem dX4_endStep_125 : decode cX4_endStep 125 = .ok (.return_, 1) := by decide +kernel
theorem dX4_look_0 : decode cX4_look 0 = .ok (.iconst 1, 1) := by decide +kernel
theorem dX4_look_1 : decode cX4_look 1 = .ok (.aload_n 0, 1) := by decide +kernel
theorem dX4_look_2 : decode cX4_look 2 = .ok (.invokevirtual 97, 3) := by decide +kernel
theorem dX4_look_5 : decode cX4_look 5 = .ok (.ishl, 1) := by decide +kernel
theorem dX4_look_6 : decode cX4_look 6 = .ok (.istore_n 1, 1) := by decide +kernel
theorem dX4_look_7 : decode cX4_look 7 = .ok (.aload_n 0, 1) := by decide +kernel
theorem dX4_look_8 : decode cX4_look 8 = .ok (.getfield 28, 3) := by decide +kernel
theorem dX4_look_11 : decode cX4_look 11 = .ok (.iload_n 1, 1) := by decide +kernel
theorem dX4_look_12 : decode cX4_look 12 = .ok (.iand, 1) := by decide +kernel
theorem dX4_look_13 : decode cX4_look 13 = .ok (.ifCond .ne 8, 3) := by decide +kernel
theorem dX4_look_16 : decode cX4_look 16 = .ok (.aload_n 0, 1) := by decide +kernel
theorem dX4_look_17 : decode cX4_look 17 = .ok (.invokevirtual 94, 3) := by decide +kernel
theorem dX4_look_20 : decode cX4_look 20 = .ok (.return_, 1) := by decide +kernel
theorem dX4_look_21 : decode cX4_look 21 = .ok (.aload_n 0, 1) := by decide +kernel
theorem dX4_look_22 : decode cX4_look 22 = .ok (.dup, 1) := by decide +kernel
theorem dX4_look_23 : decode cX4_look 23 = .ok (.getfield 28, 3) := by decide +kernel
theorem dX4_look_26 : decode cX4_look 26 = .ok (.iload_n 1, 1) := by decide +kernel
theorem dX4_look_27 : decode cX4_look 27 = .ok (.iconst (-1), 1) := by decide +kernel
theorem dX4_look_28 : decode cX4_look 28 = .ok (.ixor, 1) := by decide +kernel
theorem dX4_look_29 : decode cX4_look 29 = .ok (.aload_n 0, 1) := by decide +kernel
theorem dX4_look_30 : decode cX4_look 30 = .ok (.getfield 31, 3) := by decide +kernel
theorem dX4_look_33 : decode cX4_look 33 = .ok (.ior, 1) := by decide +kernel
theorem dX4_look_34 : decode cX4_look 34 = .ok (.iand, 1) := by decide +kernel
theorem dX4_look_35 : decode cX4_look 35 = .ok (.putfield 28, 3) := by decide +kernel
theorem dX4_look_38 : decode cX4_look 38 = .ok (.aload_n 0, 1) := by decide +kernel
theorem dX4_look_39 : decode cX4_look 39 = .ok (.getfield 22, 3) := by decide +kernel
theorem dX4_look_42 : decode cX4_look 42 = .ok (.aload_n 0, 1) := by decide +kernel
theorem dX4_look_43 : decode cX4_look 43 = .ok (.getfield 43, 3) := by decide +kernel
theorem dX4_look_46 : decode cX4_look 46 = .ok (.iaload, 1) := by decide +kernel
theorem dX4_look_47 : decode cX4_look 47 = .ok (.bipush (-4), 2) := by decide +kernel
theorem dX4_look_49 : decode cX4_look 49 = .ok (.if_icmp .ne 20, 3) := by decide +kernel
theorem dX4_look_52 : decode cX4_look 52 = .ok (.aload_n 0, 1) := by decide +kernel
theorem dX4_look_53 : decode cX4_look 53 = .ok (.dup, 1) := by decide +kernel
theorem dX4_look_54 : decode cX4_look 54 = .ok (.getfield 59, 3) := by decide +kernel
theorem dX4_look_57 : decode cX4_look 57 = .ok (.iconst 1, 1) := by decide +kernel
theorem dX4_look_58 : decode cX4_look 58 = .ok (.iadd, 1) := by decide +kernel
theorem dX4_look_59 : decode cX4_look 59 = .ok (.putfield 59, 3) := by decide +kernel
theorem dX4_look_62 : decode cX4_look 62 = .ok (.aload_n 0, 1) := by decide +kernel
theorem dX4_look_63 : decode cX4_look 63 = .ok (.invokevirtual 94, 3) := by decide +kernel
theorem dX4_look_66 : decode cX4_look 66 = .ok (.goto 13, 3) := by decide +kernel
theorem dX4_look_69 : decode cX4_look 69 = .ok (.aload_n 0, 1) := by decide +kernel
theorem dX4_look_70 : decode cX4_look 70 = .ok (.iconst 3, 1) := by decide +kernel
theorem dX4_look_71 : decode cX4_look 71 = .ok (.putfield 50, 3) := by decide +kernel
theorem dX4_look_74 : decode cX4_look 74 = .ok (.aload_n 0, 1) := by decide +kernel
theorem dX4_look_75 : decode cX4_look 75 = .ok (.iconst 4, 1) := by decide +kernel
theorem dX4_look_76 : decode cX4_look 76 = .ok (.putfield 53, 3) := by decide +kernel
theorem dX4_look_79 : decode cX4_look 79 = .ok (.return_, 1) := by decide +kernel
theorem dX4_goOn_0 : decode cX4_goOn 0 = .ok (.aload_n 0, 1) := by decide +kernel
theorem dX4_goOn_1 : decode cX4_goOn 1 = .ok (.getfield 43, 3) := by decide +kernel
theorem dX4_goOn_4 : decode cX4_goOn 4 = .ok (.aload_n 0, 1) := by decide +kernel
theorem dX4_goOn_5 : decode cX4_goOn 5 = .ok (.getfield 46, 3) := by decide +kernel
theorem dX4_goOn_8 : decode cX4_goOn 8 = .ok (.ifCond .eq 8, 3) := by decide +kernel
theorem dX4_goOn_11 : decode cX4_goOn 11 = .ok (.bipush 9, 2) := by decide +kernel
theorem dX4_goOn_13 : decode cX4_goOn 13 = .ok (.goto 4, 3) := by decide +kernel
theorem dX4_goOn_16 : decode cX4_goOn 16 = .ok (.iconst 0, 1) := by decide +kernel
theorem dX4_goOn_17 : decode cX4_goOn 17 = .ok (.if_icmp .ne 7, 3) := by decide +kernel
theorem dX4_goOn_20 : decode cX4_goOn 20 = .ok (.iconst 1, 1) := by decide +kernel
theorem dX4_goOn_21 : decode cX4_goOn 21 = .ok (.goto 4, 3) := by decide +kernel
theorem dX4_goOn_24 : decode cX4_goOn 24 = .ok (.iconst 0, 1) := by decide +kernel
theorem dX4_goOn_25 : decode cX4_goOn 25 = .ok (.istore_n 1, 1) := by decide +kernel
theorem dX4_goOn_26 : decode cX4_goOn 26 = .ok (.aload_n 0, 1) := by decide +kernel
theorem dX4_goOn_27 : decode cX4_goOn 27 = .ok (.getfield 28, 3) := by decide +kernel
theorem dX4_goOn_30 : decode cX4_goOn 30 = .ok (.ifCond .ne 16, 3) := by decide +kernel
theorem dX4_goOn_33 : decode cX4_goOn 33 = .ok (.aload_n 0, 1) := by decide +kernel
theorem dX4_goOn_34 : decode cX4_goOn 34 = .ok (.iconst 0, 1) := by decide +kernel
theorem dX4_goOn_35 : decode cX4_goOn 35 = .ok (.putfield 50, 3) := by decide +kernel
theorem dX4_goOn_38 : decode cX4_goOn 38 = .ok (.aload_n 0, 1) := by decide +kernel
theorem dX4_goOn_39 : decode cX4_goOn 39 = .ok (.iconst 0, 1) := by decide +kernel
theorem dX4_goOn_40 : decode cX4_goOn 40 = .ok (.putfield 53, 3) := by decide +kernel
theorem dX4_goOn_43 : decode cX4_goOn 43 = .ok (.goto 29, 3) := by decide +kernel
theorem dX4_goOn_46 : decode cX4_goOn 46 = .ok (.aload_n 0, 1) := by decide +kernel
theorem dX4_goOn_47 : decode cX4_goOn 47 = .ok (.iload_n 1, 1) := by decide +kernel
theorem dX4_goOn_48 : decode cX4_goOn 48 = .ok (.ifCond .eq 7, 3) := by decide +kernel
theorem dX4_goOn_51 : decode cX4_goOn 51 = .ok (.iconst 2, 1) := by decide +kernel
theorem dX4_goOn_52 : decode cX4_goOn 52 = .ok (.goto 4, 3) := by decide +kernel
theorem dX4_goOn_55 : decode cX4_goOn 55 = .ok (.iconst 1, 1) := by decide +kernel
theorem dX4_goOn_56 : decode cX4_goOn 56 = .ok (.putfield 50, 3) := by decide +kernel
theorem dX4_goOn_59 : decode cX4_goOn 59 = .ok (.aload_n 0, 1) := by decide +kernel
theorem dX4_goOn_60 : decode cX4_goOn 60 = .ok (.iload_n 1, 1) := by decide +kernel
theorem dX4_goOn_61 : decode cX4_goOn 61 = .ok (.ifCond .eq 7, 3) := by decide +kernel
theorem dX4_goOn_64 : decode cX4_goOn 64 = .ok (.iconst 2, 1) := by decide +kernel
theorem dX4_goOn_65 : decode cX4_goOn 65 = .ok (.goto 4, 3) := by decide +kernel
theorem dX4_goOn_68 : decode cX4_goOn 68 = .ok (.iconst 3, 1) := by decide +kernel
theorem dX4_goOn_69 : decode cX4_goOn 69 = .ok (.putfield 53, 3) := by decide +kernel
theorem dX4_goOn_72 : decode cX4_goOn 72 = .ok (.return_, 1) := by decide +kernel
theorem dX4_play_0 : decode cX4_play 0 = .ok (.aload_n 0, 1) := by decide +kernel
theorem dX4_play_1 : decode cX4_play 1 = .ok (.getfield 22, 3) := by decide +kernel
theorem dX4_play_4 : decode cX4_play 4 = .ok (.aload_n 0, 1) := by decide +kernel
theorem dX4_play_5 : decode cX4_play 5 = .ok (.getfield 43, 3) := by decide +kernel
theorem dX4_play_8 : decode cX4_play 8 = .ok (.iaload, 1) := by decide +kernel
theorem dX4_play_9 : decode cX4_play 9 = .ok (.istore_n 1, 1) := by decide +kernel
theorem dX4_play_10 : decode cX4_play 10 = .ok (.iload_n 1, 1) := by decide +kernel
theorem dX4_play_11 : decode cX4_play 11 = .ok (.iconst 0, 1) := by decide +kernel
theorem dX4_play_12 : decode cX4_play 12 = .ok (.bipush 15, 2) := by decide +kernel
theorem dX4_play_14 : decode cX4_play 14 = .ok (.invokestatic 101, 3) := by decide +kernel
theorem dX4_play_17 : decode cX4_play 17 = .ok (.ifCond .ne 8, 3) := by decide +kernel
theorem dX4_play_20 : decode cX4_play 20 = .ok (.aload_n 0, 1) := by decide +kernel
theorem dX4_play_21 : decode cX4_play 21 = .ok (.invokevirtual 94, 3) := by decide +kernel
theorem dX4_play_24 : decode cX4_play 24 = .ok (.return_, 1) := by decide +kernel
theorem dX4_play_25 : decode cX4_play 25 = .ok (.aload_n 0, 1) := by decide +kernel
theorem dX4_play_26 : decode cX4_play 26 = .ok (.getfield 46, 3) := by decide +kernel
theorem dX4_play_29 : decode cX4_play 29 = .ok (.ifCond .eq 9, 3) := by decide +kernel
theorem dX4_play_32 : decode cX4_play 32 = .ok (.iconst 2, 1) := by decide +kernel
theorem dX4_play_33 : decode cX4_play 33 = .ok (.iload_n 1, 1) := by decide +kernel
theorem dX4_play_34 : decode cX4_play 34 = .ok (.imul, 1) := by decide +kernel
theorem dX4_play_35 : decode cX4_play 35 = .ok (.goto 8, 3) := by decide +kernel
theorem dX4_play_38 : decode cX4_play 38 = .ok (.iconst 2, 1) := by decide +kernel
theorem dX4_play_39 : decode cX4_play 39 = .ok (.iload_n 1, 1) := by decide +kernel
theorem dX4_play_40 : decode cX4_play 40 = .ok (.imul, 1) := by decide +kernel
theorem dX4_play_41 : decode cX4_play 41 = .ok (.iconst 1, 1) := by decide +kernel
theorem dX4_play_42 : decode cX4_play 42 = .ok (.iadd, 1) := by decide +kernel
theorem dX4_play_43 : decode cX4_play 43 = .ok (.istore_n 2, 1) := by decide +kernel
theorem dX4_play_44 : decode cX4_play 44 = .ok (.aload_n 0, 1) := by decide +kernel
theorem dX4_play_45 : decode cX4_play 45 = .ok (.invokevirtual 97, 3) := by decide +kernel
theorem dX4_play_48 : decode cX4_play 48 = .ok (.istore_n 3, 1) := by decide +kernel
theorem dX4_play_49 : decode cX4_play 49 = .ok (.aload_n 0, 1) := by decide +kernel
theorem dX4_play_50 : decode cX4_play 50 = .ok (.getfield 25, 3) := by decide +kernel
theorem dX4_play_53 : decode cX4_play 53 = .ok (.iload_n 3, 1) := by decide +kernel
theorem dX4_play_54 : decode cX4_play 54 = .ok (.aload_n 0, 1) := by decide +kernel
theorem dX4_play_55 : decode cX4_play 55 = .ok (.getfield 25, 3) := by decide +kernel
theorem dX4_play_58 : decode cX4_play 58 = .ok (.iload_n 3, 1) := by decide +kernel
theorem dX4_play_59 : decode cX4_play 59 = .ok (.iaload, 1) := by decide +kernel
theorem dX4_play_60 : decode cX4_play 60 = .ok (.iconst 1, 1) := by decide +kernel
theorem dX4_play_61 : decode cX4_play 61 = .ok (.iadd, 1) := by decide +kernel
theorem dX4_play_62 : decode cX4_play 62 = .ok (.bipush 100, 2) := by decide +kernel
theorem dX4_play_64 : decode cX4_play 64 = .ok (.irem, 1) := by decide +kernel
theorem dX4_play_65 : decode cX4_play 65 = .ok (.iastore, 1) := by decide +kernel
theorem dX4_play_66 : decode cX4_play 66 = .ok (.aload_n 0, 1) := by decide +kernel
theorem dX4_play_67 : decode cX4_play 67 = .ok (.getfield 19, 3) := by decide +kernel
theorem dX4_play_70 : decode cX4_play 70 = .ok (.iload_n 2, 1) := by decide +kernel
theorem dX4_play_71 : decode cX4_play 71 = .ok (.aload_n 0, 1) := by decide +kernel
theorem dX4_play_72 : decode cX4_play 72 = .ok (.getfield 19, 3) := by decide +kernel
theorem dX4_play_75 : decode cX4_play 75 = .ok (.iload_n 2, 1) := by decide +kernel
theorem dX4_play_76 : decode cX4_play 76 = .ok (.iaload, 1) := by decide +kernel
theorem dX4_play_77 : decode cX4_play 77 = .ok (.iconst 1, 1) := by decide +kernel
theorem dX4_play_78 : decode cX4_play 78 = .ok (.iadd, 1) := by decide +kernel
theorem dX4_play_79 : decode cX4_play 79 = .ok (.bipush 99, 2) := by decide +kernel
theorem dX4_play_81 : decode cX4_play 81 = .ok (.invokestatic 79, 3) := by decide +kernel
theorem dX4_play_84 : decode cX4_play 84 = .ok (.iastore, 1) := by decide +kernel
theorem dX4_play_85 : decode cX4_play 85 = .ok (.aload_n 0, 1) := by decide +kernel
theorem dX4_play_86 : decode cX4_play 86 = .ok (.dup, 1) := by decide +kernel
theorem dX4_play_87 : decode cX4_play 87 = .ok (.getfield 56, 3) := by decide +kernel
theorem dX4_play_90 : decode cX4_play 90 = .ok (.iconst 1, 1) := by decide +kernel
theorem dX4_play_91 : decode cX4_play 91 = .ok (.iadd, 1) := by decide +kernel
theorem dX4_play_92 : decode cX4_play 92 = .ok (.putfield 56, 3) := by decide +kernel
theorem dX4_play_95 : decode cX4_play 95 = .ok (.aload_n 0, 1) := by decide +kernel
theorem dX4_play_96 : decode cX4_play 96 = .ok (.iconst 4, 1) := by decide +kernel
theorem dX4_play_97 : decode cX4_play 97 = .ok (.putfield 50, 3) := by decide +kernel
theorem dX4_play_100 : decode cX4_play 100 = .ok (.aload_n 0, 1) := by decide +kernel
theorem dX4_play_101 : decode cX4_play 101 = .ok (.aload_n 0, 1) := by decide +kernel
theorem dX4_play_102 : decode cX4_play 102 = .ok (.getfield 19, 3) := by decide +kernel
theorem dX4_play_105 : decode cX4_play 105 = .ok (.iload_n 2, 1) := by decide +kernel
theorem dX4_play_106 : decode cX4_play 106 = .ok (.iaload, 1) := by decide +kernel
theorem dX4_play_107 : decode cX4_play 107 = .ok (.aload_n 0, 1) := by decide +kernel
theorem dX4_play_108 : decode cX4_play 108 = .ok (.getfield 37, 3) := by decide +kernel
theorem dX4_play_111 : decode cX4_play 111 = .ok (.if_icmp .le 14, 3) := by decide +kernel
theorem dX4_play_114 : decode cX4_play 114 = .ok (.iconst 2, 1) := by decide +kernel
theorem dX4_play_115 : decode cX4_play 115 = .ok (.aload_n 0, 1) := by decide +kernel
theorem dX4_play_116 : decode cX4_play 116 = .ok (.getfield 15, 3) := by decide +kernel
theorem dX4_play_119 : decode cX4_play 119 = .ok (.iload_n 2, 1) := by decide +kernel
theorem dX4_play_120 : decode cX4_play 120 = .ok (.iaload, 1) := by decide +kernel
theorem dX4_play_121 : decode cX4_play 121 = .ok (.imul, 1) := by decide +kernel
theorem dX4_play_122 : decode cX4_play 122 = .ok (.goto 9, 3) := by decide +kernel
theorem dX4_play_125 : decode cX4_play 125 = .ok (.aload_n 0, 1) := by decide +kernel
theorem dX4_play_126 : decode cX4_play 126 = .ok (.getfield 15, 3) := by decide +kernel
theorem dX4_play_129 : decode cX4_play 129 = .ok (.iload_n 2, 1) := by decide +kernel
theorem dX4_play_130 : decode cX4_play 130 = .ok (.iaload, 1) := by decide +kernel
theorem dX4_play_131 : decode cX4_play 131 = .ok (.putfield 53, 3) := by decide +kernel
theorem dX4_play_134 : decode cX4_play 134 = .ok (.return_, 1) := by decide +kernel
theorem dX5_init_0 : decode cX5_init 0 = .ok (.aload_n 0, 1) := by decide +kernel
theorem dX5_init_1 : decode cX5_init 1 = .ok (.invokespecial 3, 3) := by decide +kernel
theorem dX5_init_4 : decode cX5_init 4 = .ok (.aload_n 0, 1) := by decide +kernel
theorem dX5_init_5 : decode cX5_init 5 = .ok (.new 9, 3) := by decide +kernel
theorem dX5_init_8 : decode cX5_init 8 = .ok (.dup, 1) := by decide +kernel
theorem dX5_init_9 : decode cX5_init 9 = .ok (.invokespecial 11, 3) := by decide +kernel
theorem dX5_init_12 : decode cX5_init 12 = .ok (.putfield 12, 3) := by decide +kernel
theorem dX5_init_15 : decode cX5_init 15 = .ok (.aload_n 0, 1) := by decide +kernel
theorem dX5_init_16 : decode cX5_init 16 = .ok (.new 16, 3) := by decide +kernel
theorem dX5_init_19 : decode cX5_init 19 = .ok (.dup, 1) := by decide +kernel
theorem dX5_init_20 : decode cX5_init 20 = .ok (.invokespecial 18, 3) := by decide +kernel
theorem dX5_init_23 : decode cX5_init 23 = .ok (.putfield 19, 3) := by decide +kernel
theorem dX5_init_26 : decode cX5_init 26 = .ok (.aload_n 0, 1) := by decide +kernel
theorem dX5_init_27 : decode cX5_init 27 = .ok (.new 9, 3) := by decide +kernel
theorem dX5_init_30 : decode cX5_init 30 = .ok (.dup, 1) := by decide +kernel
theorem dX5_init_31 : decode cX5_init 31 = .ok (.invokespecial 11, 3) := by decide +kernel
theorem dX5_init_34 : decode cX5_init 34 = .ok (.putfield 23, 3) := by decide +kernel
theorem dX5_init_37 : decode cX5_init 37 = .ok (.aload_n 0, 1) := by decide +kernel
theorem dX5_init_38 : decode cX5_init 38 = .ok (.new 16, 3) := by decide +kernel
theorem dX5_init_41 : decode cX5_init 41 = .ok (.dup, 1) := by decide +kernel
theorem dX5_init_42 : decode cX5_init 42 = .ok (.invokespecial 18, 3) := by decide +kernel
theorem dX5_init_45 : decode cX5_init 45 = .ok (.putfield 26, 3) := by decide +kernel
theorem dX5_init_48 : decode cX5_init 48 = .ok (.aload_n 0, 1) := by decide +kernel
theorem dX5_init_49 : decode cX5_init 49 = .ok (.iconst 0, 1) := by decide +kernel
theorem dX5_init_50 : decode cX5_init 50 = .ok (.putfield 29, 3) := by decide +kernel
theorem dX5_init_53 : decode cX5_init 53 = .ok (.aload_n 0, 1) := by decide +kernel
theorem dX5_init_54 : decode cX5_init 54 = .ok (.new 33, 3) := by decide +kernel
theorem dX5_init_57 : decode cX5_init 57 = .ok (.dup, 1) := by decide +kernel
theorem dX5_init_58 : decode cX5_init 58 = .ok (.invokespecial 35, 3) := by decide +kernel
theorem dX5_init_61 : decode cX5_init 61 = .ok (.putfield 36, 3) := by decide +kernel
theorem dX5_init_64 : decode cX5_init 64 = .ok (.aload_n 0, 1) := by decide +kernel
theorem dX5_init_65 : decode cX5_init 65 = .ok (.new 40, 3) := by decide +kernel
theorem dX5_init_68 : decode cX5_init 68 = .ok (.dup, 1) := by decide +kernel
theorem dX5_init_69 : decode cX5_init 69 = .ok (.invokespecial 42, 3) := by decide +kernel
theorem dX5_init_72 : decode cX5_init 72 = .ok (.putfield 43, 3) := by decide +kernel
theorem dX5_init_75 : decode cX5_init 75 = .ok (.aload_n 0, 1) := by decide +kernel
theorem dX5_init_76 : decode cX5_init 76 = .ok (.iconst 4, 1) := by decide +kernel
theorem dX5_init_77 : decode cX5_init 77 = .ok (.anewarray 47, 3) := by decide +kernel
theorem dX5_init_80 : decode cX5_init 80 = .ok (.putfield 49, 3) := by decide +kernel
theorem dX5_init_83 : decode cX5_init 83 = .ok (.iconst 0, 1) := by decide +kernel
theorem dX5_init_84 : decode cX5_init 84 = .ok (.istore_n 1, 1) := by decide +kernel
theorem dX5_init_85 : decode cX5_init 85 = .ok (.iload_n 1, 1) := by decide +kernel
theorem dX5_init_86 : decode cX5_init 86 = .ok (.iconst 4, 1) := by decide +kernel
theorem dX5_init_87 : decode cX5_init 87 = .ok (.if_icmp .ge 22, 3) := by decide +kernel
theorem dX5_init_90 : decode cX5_init 90 = .ok (.aload_n 0, 1) := by decide +kernel
theorem dX5_init_91 : decode cX5_init 91 = .ok (.getfield 49, 3) := by decide +kernel
theorem dX5_init_94 : decode cX5_init 94 = .ok (.iload_n 1, 1) := by decide +kernel
theorem dX5_init_95 : decode cX5_init 95 = .ok (.new 47, 3) := by decide +kernel
theorem dX5_init_98 : decode cX5_init 98 = .ok (.dup, 1) := by decide +kernel
theorem dX5_init_99 : decode cX5_init 99 = .ok (.invokespecial 53, 3) := by decide +kernel
theorem dX5_init_102 : decode cX5_init 102 = .ok (.aastore, 1) := by decide +kernel
theorem dX5_init_103 : decode cX5_init 103 = .ok (.iinc 1 1, 3) := by decide +kernel
theorem dX5_init_106 : decode cX5_init 106 = .ok (.goto (-21), 3) := by decide +kernel
theorem dX5_init_109 : decode cX5_init 109 = .ok (.return_, 1) := by decide +kernel
theorem dX5_within_0 : decode cX5_within 0 = .ok (.iload_n 0, 1) := by decide +kernel
theorem dX5_within_1 : decode cX5_within 1 = .ok (.iload_n 1, 1) := by decide +kernel
theorem dX5_within_2 : decode cX5_within 2 = .ok (.if_icmp .lt 12, 3) := by decide +kernel
theorem dX5_within_5 : decode cX5_within 5 = .ok (.iload_n 0, 1) := by decide +kernel
theorem dX5_within_6 : decode cX5_within 6 = .ok (.iload_n 2, 1) := by decide +kernel
theorem dX5_within_7 : decode cX5_within 7 = .ok (.if_icmp .gt 7, 3) := by decide +kernel
theorem dX5_within_10 : decode cX5_within 10 = .ok (.iconst 1, 1) := by decide +kernel
theorem dX5_within_11 : decode cX5_within 11 = .ok (.goto 4, 3) := by decide +kernel
theorem dX5_within_14 : decode cX5_within 14 = .ok (.iconst 0, 1) := by decide +kernel
theorem dX5_within_15 : decode cX5_within 15 = .ok (.ireturn, 1) := by decide +kernel
theorem dX5_record_0 : decode cX5_record 0 = .ok (.iload_n 1, 1) := by decide +kernel
theorem dX5_record_1 : decode cX5_record 1 = .ok (.iconst 1, 1) := by decide +kernel
theorem dX5_record_2 : decode cX5_record 2 = .ok (.bipush 60, 2) := by decide +kernel
theorem dX5_record_4 : decode cX5_record 4 = .ok (.invokestatic 54, 3) := by decide +kernel
theorem dX5_record_7 : decode cX5_record 7 = .ok (.ifCond .eq 13, 3) := by decide +kernel
theorem dX5_record_10 : decode cX5_record 10 = .ok (.iload_n 2, 1) := by decide +kernel
theorem dX5_record_11 : decode cX5_record 11 = .ok (.iconst 1, 1) := by decide +kernel
theorem dX5_record_12 : decode cX5_record 12 = .ok (.bipush 60, 2) := by decide +kernel
theorem dX5_record_14 : decode cX5_record 14 = .ok (.invokestatic 54, 3) := by decide +kernel
theorem dX5_record_17 : decode cX5_record 17 = .ok (.ifCond .ne 5, 3) := by decide +kernel
theorem dX5_record_20 : decode cX5_record 20 = .ok (.iconst (-1), 1) := by decide +kernel
theorem dX5_record_21 : decode cX5_record 21 = .ok (.ireturn, 1) := by decide +kernel
theorem dX5_record_22 : decode cX5_record 22 = .ok (.aload_n 0, 1) := by decide +kernel
theorem dX5_record_23 : decode cX5_record 23 = .ok (.getfield 12, 3) := by decide +kernel
theorem dX5_record_26 : decode cX5_record 26 = .ok (.getfield 58, 3) := by decide +kernel
theorem dX5_record_29 : decode cX5_record 29 = .ok (.bipush 16, 2) := by decide +kernel
theorem dX5_record_31 : decode cX5_record 31 = .ok (.if_icmp .lt 6, 3) := by decide +kernel
theorem dX5_record_34 : decode cX5_record 34 = .ok (.bipush (-3), 2) := by decide +kernel
theorem dX5_record_36 : decode cX5_record 36 = .ok (.ireturn, 1) := by decide +kernel
theorem dX5_record_37 : decode cX5_record 37 = .ok (.aload_n 0, 1) := by decide +kernel
theorem dX5_record_38 : decode cX5_record 38 = .ok (.getfield 12, 3) := by decide +kernel
theorem dX5_record_41 : decode cX5_record 41 = .ok (.iload_n 1, 1) := by decide +kernel
theorem dX5_record_42 : decode cX5_record 42 = .ok (.iload_n 2, 1) := by decide +kernel
theorem dX5_record_43 : decode cX5_record 43 = .ok (.invokevirtual 62, 3) := by decide +kernel
theorem dX5_record_46 : decode cX5_record 46 = .ok (.ireturn, 1) := by decide +kernel
theorem dX5_change_0 : decode cX5_change 0 = .ok (.iload_n 1, 1) := by decide +kernel
theorem dX5_change_1 : decode cX5_change 1 = .ok (.iconst 0, 1) := by decide +kernel
theorem dX5_change_2 : decode cX5_change 2 = .ok (.bipush 9, 2) := by decide +kernel
theorem dX5_change_4 : decode cX5_change 4 = .ok (.invokestatic 54, 3) := by decide +kernel
theorem dX5_change_7 : decode cX5_change 7 = .ok (.ifCond .eq 20, 3) := by decide +kernel
theorem dX5_change_10 : decode cX5_change 10 = .ok (.iload_n 2, 1) := by decide +kernel
theorem dX5_change_11 : decode cX5_change 11 = .ok (.iconst (-1), 1) := by decide +kernel
theorem dX5_change_12 : decode cX5_change 12 = .ok (.aload_n 0, 1) := by decide +kernel
theorem dX5_change_13 : decode cX5_change 13 = .ok (.getfield 12, 3) := by decide +kernel
theorem dX5_change_16 : decode cX5_change 16 = .ok (.getfield 58, 3) := by decide +kernel
theorem dX5_change_19 : decode cX5_change 19 = .ok (.iconst 1, 1) := by decide +kernel
theorem dX5_change_20 : decode cX5_change 20 = .ok (.isub, 1) := by decide +kernel
theorem dX5_change_21 : decode cX5_change 21 = .ok (.invokestatic 54, 3) := by decide +kernel
theorem dX5_change_24 : decode cX5_change 24 = .ok (.ifCond .ne 5, 3) := by decide +kernel
theorem dX5_change_27 : decode cX5_change 27 = .ok (.iconst (-1), 1) := by decide +kernel
theorem dX5_change_28 : decode cX5_change 28 = .ok (.ireturn, 1) := by decide +kernel
theorem dX5_change_29 : decode cX5_change 29 = .ok (.aload_n 0, 1) := by decide +kernel
theorem dX5_change_30 : decode cX5_change 30 = .ok (.getfield 12, 3) := by decide +kernel
theorem dX5_change_33 : decode cX5_change 33 = .ok (.iload_n 2, 1) := by decide +kernel
theorem dX5_change_34 : decode cX5_change 34 = .ok (.invokevirtual 66, 3) := by decide +kernel
theorem dX5_change_37 : decode cX5_change 37 = .ok (.istore_n 3, 1) := by decide +kernel
theorem dX5_change_38 : decode cX5_change 38 = .ok (.aload_n 0, 1) := by decide +kernel
theorem dX5_change_39 : decode cX5_change 39 = .ok (.getfield 12, 3) := by decide +kernel
theorem dX5_change_42 : decode cX5_change 42 = .ok (.iload_n 1, 1) := by decide +kernel
theorem dX5_change_43 : decode cX5_change 43 = .ok (.invokevirtual 70, 3) := by decide +kernel
theorem dX5_change_46 : decode cX5_change 46 = .ok (.ifCond .ne 14, 3) := by decide +kernel
theorem dX5_change_49 : decode cX5_change 49 = .ok (.iload_n 3, 1) := by decide +kernel
theorem dX5_change_50 : decode cX5_change 50 = .ok (.bipush (-4), 2) := by decide +kernel
theorem dX5_change_52 : decode cX5_change 52 = .ok (.if_icmp .eq 11, 3) := by decide +kernel
theorem dX5_change_55 : decode cX5_change 55 = .ok (.iload_n 3, 1) := by decide +kernel
theorem dX5_change_56 : decode cX5_change 56 = .ok (.iload_n 1, 1) := by decide +kernel
theorem dX5_change_57 : decode cX5_change 57 = .ok (.if_icmp .eq 6, 3) := by decide +kernel
theorem dX5_change_60 : decode cX5_change 60 = .ok (.bipush (-2), 2) := by decide +kernel
theorem dX5_change_62 : decode cX5_change 62 = .ok (.ireturn, 1) := by decide +kernel
theorem dX5_change_63 : decode cX5_change 63 = .ok (.aload_n 0, 1) := by decide +kernel
theorem dX5_change_64 : decode cX5_change 64 = .ok (.getfield 36, 3) := by decide +kernel
theorem dX5_change_67 : decode cX5_change 67 = .ok (.invokevirtual 74, 3) := by decide +kernel
theorem dX5_change_70 : decode cX5_change 70 = .ok (.aload_n 0, 1) := by decide +kernel
theorem dX5_change_71 : decode cX5_change 71 = .ok (.getfield 12, 3) := by decide +kernel
theorem dX5_change_74 : decode cX5_change 74 = .ok (.getfield 77, 3) := by decide +kernel
theorem dX5_change_77 : decode cX5_change 77 = .ok (.iload_n 1, 1) := by decide +kernel
theorem dX5_change_78 : decode cX5_change 78 = .ok (.iaload, 1) := by decide +kernel
theorem dX5_change_79 : decode cX5_change 79 = .ok (.istore 4, 2) := by decide +kernel
theorem dX5_change_81 : decode cX5_change 81 = .ok (.aload_n 0, 1) := by decide +kernel
theorem dX5_change_82 : decode cX5_change 82 = .ok (.getfield 12, 3) := by decide +kernel
theorem dX5_change_85 : decode cX5_change 85 = .ok (.getfield 77, 3) := by decide +kernel
theorem dX5_change_88 : decode cX5_change 88 = .ok (.iload_n 1, 1) := by decide +kernel
theorem dX5_change_89 : decode cX5_change 89 = .ok (.iload_n 2, 1) := by decide +kernel
theorem dX5_change_90 : decode cX5_change 90 = .ok (.ifCond .ge 8, 3) := by decide +kernel
theorem dX5_change_93 : decode cX5_change 93 = .ok (.bipush (-4), 2) := by decide +kernel
theorem dX5_change_95 : decode cX5_change 95 = .ok (.goto 4, 3) := by decide +kernel
theorem dX5_change_98 : decode cX5_change 98 = .ok (.iload_n 2, 1) := by decide +kernel
theorem dX5_change_99 : decode cX5_change 99 = .ok (.iastore, 1) := by decide +kernel
theorem dX5_change_100 : decode cX5_change 100 = .ok (.iload 4, 2) := by decide +kernel
theorem dX5_change_102 : decode cX5_change 102 = .ok (.ireturn, 1) := by decide +kernel
theorem dX5_told_0 : decode cX5_told 0 = .ok (.iload_n 1, 1) := by decide +kernel
theorem dX5_told_1 : decode cX5_told 1 = .ok (.iconst 0, 1) := by decide +kernel
theorem dX5_told_2 : decode cX5_told 2 = .ok (.aload_n 0, 1) := by decide +kernel
theorem dX5_told_3 : decode cX5_told 3 = .ok (.getfield 12, 3) := by decide +kernel
theorem dX5_told_6 : decode cX5_told 6 = .ok (.getfield 58, 3) := by decide +kernel
theorem dX5_told_9 : decode cX5_told 9 = .ok (.iconst 1, 1) := by decide +kernel
theorem dX5_told_10 : decode cX5_told 10 = .ok (.isub, 1) := by decide +kernel
theorem dX5_told_11 : decode cX5_told 11 = .ok (.invokestatic 54, 3) := by decide +kernel
theorem dX5_told_14 : decode cX5_told 14 = .ok (.ifCond .ne 5, 3) := by decide +kernel
theorem dX5_told_17 : decode cX5_told 17 = .ok (.iconst (-1), 1) := by decide +kernel
theorem dX5_told_18 : decode cX5_told 18 = .ok (.ireturn, 1) := by decide +kernel
theorem dX5_told_19 : decode cX5_told 19 = .ok (.iload_n 2, 1) := by decide +kernel
theorem dX5_told_20 : decode cX5_told 20 = .ok (.tableswitch 75 0 4 #[36, 36, 50, 50, 66], 36) := by decide +kernel
theorem dX5_told_56 : decode cX5_told 56 = .ok (.aload_n 0, 1) := by decide +kernel
theorem dX5_told_57 : decode cX5_told 57 = .ok (.getfield 12, 3) := by decide +kernel
theorem dX5_told_60 : decode cX5_told 60 = .ok (.getfield 81, 3) := by decide +kernel
theorem dX5_told_63 : decode cX5_told 63 = .ok (.iconst 2, 1) := by decide +kernel
theorem dX5_told_64 : decode cX5_told 64 = .ok (.iload_n 1, 1) := by decide +kernel
theorem dX5_told_65 : decode cX5_told 65 = .ok (.imul, 1) := by decide +kernel
theorem dX5_told_66 : decode cX5_told 66 = .ok (.iload_n 2, 1) := by decide +kernel
theorem dX5_told_67 : decode cX5_told 67 = .ok (.iadd, 1) := by decide +kernel
theorem dX5_told_68 : decode cX5_told 68 = .ok (.iaload, 1) := by decide +kernel
theorem dX5_told_69 : decode cX5_told 69 = .ok (.ireturn, 1) := by decide +kernel
theorem dX5_told_70 : decode cX5_told 70 = .ok (.aload_n 0, 1) := by decide +kernel
theorem dX5_told_71 : decode cX5_told 71 = .ok (.getfield 12, 3) := by decide +kernel
theorem dX5_told_74 : decode cX5_told 74 = .ok (.getfield 84, 3) := by decide +kernel
theorem dX5_told_77 : decode cX5_told 77 = .ok (.iconst 2, 1) := by decide +kernel
theorem dX5_told_78 : decode cX5_told 78 = .ok (.iload_n 1, 1) := by decide +kernel
theorem dX5_told_79 : decode cX5_told 79 = .ok (.imul, 1) := by decide +kernel
theorem dX5_told_80 : decode cX5_told 80 = .ok (.iload_n 2, 1) := by decide +kernel
theorem dX5_told_81 : decode cX5_told 81 = .ok (.iadd, 1) := by decide +kernel
theorem dX5_told_82 : decode cX5_told 82 = .ok (.iconst 2, 1) := by decide +kernel
theorem dX5_told_83 : decode cX5_told 83 = .ok (.isub, 1) := by decide +kernel
theorem dX5_told_84 : decode cX5_told 84 = .ok (.iaload, 1) := by decide +kernel
theorem dX5_told_85 : decode cX5_told 85 = .ok (.ireturn, 1) := by decide +kernel
theorem dX5_told_86 : decode cX5_told 86 = .ok (.aload_n 0, 1) := by decide +kernel
theorem dX5_told_87 : decode cX5_told 87 = .ok (.getfield 12, 3) := by decide +kernel
theorem dX5_told_90 : decode cX5_told 90 = .ok (.iload_n 1, 1) := by decide +kernel
theorem dX5_told_91 : decode cX5_told 91 = .ok (.invokevirtual 66, 3) := by decide +kernel
theorem dX5_told_94 : decode cX5_told 94 = .ok (.ireturn, 1) := by decide +kernel
theorem dX5_told_95 : decode cX5_told 95 = .ok (.iconst (-1), 1) := by decide +kernel
theorem dX5_told_96 : decode cX5_told 96 = .ok (.ireturn, 1) := by decide +kernel
theorem dX5_song_0 : decode cX5_song 0 = .ok (.iload_n 1, 1) := by decide +kernel
theorem dX5_song_1 : decode cX5_song 1 = .ok (.iconst 0, 1) := by decide +kernel
theorem dX5_song_2 : decode cX5_song 2 = .ok (.bipush 19, 2) := by decide +kernel
theorem dX5_song_4 : decode cX5_song 4 = .ok (.invokestatic 54, 3) := by decide +kernel
theorem dX5_song_7 : decode cX5_song 7 = .ok (.ifCond .ne 5, 3) := by decide +kernel
theorem dX5_song_10 : decode cX5_song 10 = .ok (.iconst (-1), 1) := by decide +kernel
theorem dX5_song_11 : decode cX5_song 11 = .ok (.ireturn, 1) := by decide +kernel
theorem dX5_song_12 : decode cX5_song 12 = .ok (.iload_n 2, 1) := by decide +kernel
theorem dX5_song_13 : decode cX5_song 13 = .ok (.tableswitch 79 0 3 #[31, 48, 57, 67], 31) := by decide +kernel
theorem dX5_song_44 : decode cX5_song 44 = .ok (.aload_n 0, 1) := by decide +kernel
theorem dX5_song_45 : decode cX5_song 45 = .ok (.getfield 12, 3) := by decide +kernel
theorem dX5_song_48 : decode cX5_song 48 = .ok (.iload_n 1, 1) := by decide +kernel
theorem dX5_song_49 : decode cX5_song 49 = .ok (.invokevirtual 87, 3) := by decide +kernel
theorem dX5_song_52 : decode cX5_song 52 = .ok (.ifCond .eq 7, 3) := by decide +kernel
theorem dX5_song_55 : decode cX5_song 55 = .ok (.iconst 1, 1) := by decide +kernel
theorem dX5_song_56 : decode cX5_song 56 = .ok (.goto 4, 3) := by decide +kernel
theorem dX5_song_59 : decode cX5_song 59 = .ok (.iconst 0, 1) := by decide +kernel
theorem dX5_song_60 : decode cX5_song 60 = .ok (.ireturn, 1) := by decide +kernel
theorem dX5_song_61 : decode cX5_song 61 = .ok (.aload_n 0, 1) := by decide +kernel
theorem dX5_song_62 : decode cX5_song 62 = .ok (.getfield 12, 3) := by decide +kernel
theorem dX5_song_65 : decode cX5_song 65 = .ok (.iload_n 1, 1) := by decide +kernel
theorem dX5_song_66 : decode cX5_song 66 = .ok (.invokevirtual 90, 3) := by decide +kernel
theorem dX5_song_69 : decode cX5_song 69 = .ok (.ireturn, 1) := by decide +kernel
theorem dX5_song_70 : decode cX5_song 70 = .ok (.aload_n 0, 1) := by decide +kernel
theorem dX5_song_71 : decode cX5_song 71 = .ok (.getfield 12, 3) := by decide +kernel
theorem dX5_song_74 : decode cX5_song 74 = .ok (.getfield 93, 3) := by decide +kernel
theorem dX5_song_77 : decode cX5_song 77 = .ok (.iload_n 1, 1) := by decide +kernel
theorem dX5_song_78 : decode cX5_song 78 = .ok (.iaload, 1) := by decide +kernel
theorem dX5_song_79 : decode cX5_song 79 = .ok (.ireturn, 1) := by decide +kernel
theorem dX5_song_80 : decode cX5_song 80 = .ok (.aload_n 0, 1) := by decide +kernel
theorem dX5_song_81 : decode cX5_song 81 = .ok (.getfield 12, 3) := by decide +kernel
theorem dX5_song_84 : decode cX5_song 84 = .ok (.getfield 77, 3) := by decide +kernel
theorem dX5_song_87 : decode cX5_song 87 = .ok (.iload_n 1, 1) := by decide +kernel
theorem dX5_song_88 : decode cX5_song 88 = .ok (.iconst 2, 1) := by decide +kernel
theorem dX5_song_89 : decode cX5_song 89 = .ok (.idiv, 1) := by decide +kernel
theorem dX5_song_90 : decode cX5_song 90 = .ok (.iaload, 1) := by decide +kernel
theorem dX5_song_91 : decode cX5_song 91 = .ok (.ireturn, 1) := by decide +kernel
theorem dX5_song_92 : decode cX5_song 92 = .ok (.iconst (-1), 1) := by decide +kernel
theorem dX5_song_93 : decode cX5_song 93 = .ok (.ireturn, 1) := by decide +kernel
theorem dX5_stick_0 : decode cX5_stick 0 = .ok (.iload_n 1, 1) := by decide +kernel
theorem dX5_stick_1 : decode cX5_stick 1 = .ok (.iconst 0, 1) := by decide +kernel
theorem dX5_stick_2 : decode cX5_stick 2 = .ok (.bipush 19, 2) := by decide +kernel
theorem dX5_stick_4 : decode cX5_stick 4 = .ok (.invokestatic 54, 3) := by decide +kernel
theorem dX5_stick_7 : decode cX5_stick 7 = .ok (.ifCond .eq 12, 3) := by decide +kernel
theorem dX5_stick_10 : decode cX5_stick 10 = .ok (.iload_n 2, 1) := by decide +kernel
theorem dX5_stick_11 : decode cX5_stick 11 = .ok (.iconst 0, 1) := by decide +kernel
theorem dX5_stick_12 : decode cX5_stick 12 = .ok (.iconst 2, 1) := by decide +kernel
theorem dX5_stick_13 : decode cX5_stick 13 = .ok (.invokestatic 54, 3) := by decide +kernel
theorem dX5_stick_16 : decode cX5_stick 16 = .ok (.ifCond .ne 5, 3) := by decide +kernel
theorem dX5_stick_19 : decode cX5_stick 19 = .ok (.iconst (-1), 1) := by decide +kernel
theorem dX5_stick_20 : decode cX5_stick 20 = .ok (.ireturn, 1) := by decide +kernel
theorem dX5_stick_21 : decode cX5_stick 21 = .ok (.aload_n 0, 1) := by decide +kernel
theorem dX5_stick_22 : decode cX5_stick 22 = .ok (.getfield 36, 3) := by decide +kernel
theorem dX5_stick_25 : decode cX5_stick 25 = .ok (.invokevirtual 74, 3) := by decide +kernel
theorem dX5_stick_28 : decode cX5_stick 28 = .ok (.aload_n 0, 1) := by decide +kernel
theorem dX5_stick_29 : decode cX5_stick 29 = .ok (.getfield 12, 3) := by decide +kernel
theorem dX5_stick_32 : decode cX5_stick 32 = .ok (.iload_n 1, 1) := by decide +kernel
theorem dX5_stick_33 : decode cX5_stick 33 = .ok (.invokevirtual 90, 3) := by decide +kernel
theorem dX5_stick_36 : decode cX5_stick 36 = .ok (.istore_n 3, 1) := by decide +kernel
theorem dX5_stick_37 : decode cX5_stick 37 = .ok (.aload_n 0, 1) := by decide +kernel
theorem dX5_stick_38 : decode cX5_stick 38 = .ok (.getfield 12, 3) := by decide +kernel
theorem dX5_stick_41 : decode cX5_stick 41 = .ok (.iload_n 1, 1) := by decide +kernel
theorem dX5_stick_42 : decode cX5_stick 42 = .ok (.iload_n 2, 1) := by decide +kernel
theorem dX5_stick_43 : decode cX5_stick 43 = .ok (.invokevirtual 96, 3) := by decide +kernel
theorem dX5_stick_46 : decode cX5_stick 46 = .ok (.iload_n 3, 1) := by decide +kernel
theorem dX5_stick_47 : decode cX5_stick 47 = .ok (.ireturn, 1) := by decide +kernel
theorem dX5_prices_0 : decode cX5_prices 0 = .ok (.iload_n 1, 1) := by decide +kernel
theorem dX5_prices_1 : decode cX5_prices 1 = .ok (.iconst 1, 1) := by decide +kernel
theorem dX5_prices_2 : decode cX5_prices 2 = .ok (.bipush 99, 2) := by decide +kernel
theorem dX5_prices_4 : decode cX5_prices 4 = .ok (.invokestatic 54, 3) := by decide +kernel
theorem dX5_prices_7 : decode cX5_prices 7 = .ok (.ifCond .eq 24, 3) := by decide +kernel
theorem dX5_prices_10 : decode cX5_prices 10 = .ok (.iload_n 2, 1) := by decide +kernel
theorem dX5_prices_11 : decode cX5_prices 11 = .ok (.iload_n 1, 1) := by decide +kernel
theorem dX5_prices_12 : decode cX5_prices 12 = .ok (.sipush 999, 3) := by decide +kernel
theorem dX5_prices_15 : decode cX5_prices 15 = .ok (.invokestatic 54, 3) := by decide +kernel
theorem dX5_prices_18 : decode cX5_prices 18 = .ok (.ifCond .eq 13, 3) := by decide +kernel
theorem dX5_prices_21 : decode cX5_prices 21 = .ok (.iload_n 3, 1) := by decide +kernel
theorem dX5_prices_22 : decode cX5_prices 22 = .ok (.iconst 1, 1) := by decide +kernel
theorem dX5_prices_23 : decode cX5_prices 23 = .ok (.bipush 20, 2) := by decide +kernel
theorem dX5_prices_25 : decode cX5_prices 25 = .ok (.invokestatic 54, 3) := by decide +kernel
theorem dX5_prices_28 : decode cX5_prices 28 = .ok (.ifCond .ne 5, 3) := by decide +kernel
theorem dX5_prices_31 : decode cX5_prices 31 = .ok (.iconst (-1), 1) := by decide +kernel
theorem dX5_prices_32 : decode cX5_prices 32 = .ok (.ireturn, 1) := by decide +kernel
theorem dX5_prices_33 : decode cX5_prices 33 = .ok (.aload_n 0, 1) := by decide +kernel
theorem dX5_prices_34 : decode cX5_prices 34 = .ok (.getfield 19, 3) := by decide +kernel
theorem dX5_prices_37 : decode cX5_prices 37 = .ok (.iload_n 1, 1) := by decide +kernel
theorem dX5_prices_38 : decode cX5_prices 38 = .ok (.iload_n 2, 1) := by decide +kernel
theorem dX5_prices_39 : decode cX5_prices 39 = .ok (.iload_n 3, 1) := by decide +kernel
theorem dX5_prices_40 : decode cX5_prices 40 = .ok (.invokevirtual 100, 3) := by decide +kernel
theorem dX5_prices_43 : decode cX5_prices 43 = .ok (.iconst 1, 1) := by decide +kernel
theorem dX5_prices_44 : decode cX5_prices 44 = .ok (.ireturn, 1) := by decide +kernel
theorem dX5_coin_0 : decode cX5_coin 0 = .ok (.iload_n 1, 1) := by decide +kernel
theorem dX5_coin_1 : decode cX5_coin 1 = .ok (.iconst 1, 1) := by decide +kernel
theorem dX5_coin_2 : decode cX5_coin 2 = .ok (.bipush 99, 2) := by decide +kernel
theorem dX5_coin_4 : decode cX5_coin 4 = .ok (.invokestatic 54, 3) := by decide +kernel
theorem dX5_coin_7 : decode cX5_coin 7 = .ok (.ifCond .ne 5, 3) := by decide +kernel
theorem dX5_coin_10 : decode cX5_coin 10 = .ok (.iconst (-1), 1) := by decide +kernel
theorem dX5_coin_11 : decode cX5_coin 11 = .ok (.ireturn, 1) := by decide +kernel
theorem dX5_coin_12 : decode cX5_coin 12 = .ok (.aload_n 0, 1) := by decide +kernel
theorem dX5_coin_13 : decode cX5_coin 13 = .ok (.getfield 19, 3) := by decide +kernel
theorem dX5_coin_16 : decode cX5_coin 16 = .ok (.iload_n 1, 1) := by decide +kernel
theorem dX5_coin_17 : decode cX5_coin 17 = .ok (.invokevirtual 104, 3) := by decide +kernel
theorem dX5_coin_20 : decode cX5_coin 20 = .ok (.aload_n 0, 1) := by decide +kernel
theorem dX5_coin_21 : decode cX5_coin 21 = .ok (.getfield 19, 3) := by decide +kernel
theorem dX5_coin_24 : decode cX5_coin 24 = .ok (.getfield 108, 3) := by decide +kernel
theorem dX5_coin_27 : decode cX5_coin 27 = .ok (.ireturn, 1) := by decide +kernel
theorem dX5_set_0 : decode cX5_set 0 = .ok (.iload_n 1, 1) := by decide +kernel
theorem dX5_set_1 : decode cX5_set 1 = .ok (.lookupswitch 93 #[(0, 27), (1, 56)], 27) := by decide +kernel
theorem dX5_set_28 : decode cX5_set 28 = .ok (.iload_n 2, 1) := by decide +kernel
theorem dX5_set_29 : decode cX5_set 29 = .ok (.iconst 0, 1) := by decide +kernel
theorem dX5_set_30 : decode cX5_set 30 = .ok (.iconst 1, 1) := by decide +kernel
theorem dX5_set_31 : decode cX5_set 31 = .ok (.invokestatic 54, 3) := by decide +kernel
theorem dX5_set_34 : decode cX5_set 34 = .ok (.ifCond .ne 5, 3) := by decide +kernel
theorem dX5_set_37 : decode cX5_set 37 = .ok (.iconst (-1), 1) := by decide +kernel
theorem dX5_set_38 : decode cX5_set 38 = .ok (.ireturn, 1) := by decide +kernel
theorem dX5_set_39 : decode cX5_set 39 = .ok (.aload_n 0, 1) := by decide +kernel
theorem dX5_set_40 : decode cX5_set 40 = .ok (.getfield 19, 3) := by decide +kernel
theorem dX5_set_43 : decode cX5_set 43 = .ok (.getfield 111, 3) := by decide +kernel
theorem dX5_set_46 : decode cX5_set 46 = .ok (.istore_n 3, 1) := by decide +kernel
theorem dX5_set_47 : decode cX5_set 47 = .ok (.aload_n 0, 1) := by decide +kernel
theorem dX5_set_48 : decode cX5_set 48 = .ok (.getfield 19, 3) := by decide +kernel
theorem dX5_set_51 : decode cX5_set 51 = .ok (.iload_n 2, 1) := by decide +kernel
theorem dX5_set_52 : decode cX5_set 52 = .ok (.putfield 111, 3) := by decide +kernel
theorem dX5_set_55 : decode cX5_set 55 = .ok (.iload_n 3, 1) := by decide +kernel
theorem dX5_set_56 : decode cX5_set 56 = .ok (.ireturn, 1) := by decide +kernel
theorem dX5_set_57 : decode cX5_set 57 = .ok (.iload_n 2, 1) := by decide +kernel
theorem dX5_set_58 : decode cX5_set 58 = .ok (.iconst 1, 1) := by decide +kernel
theorem dX5_set_59 : decode cX5_set 59 = .ok (.bipush 99, 2) := by decide +kernel
theorem dX5_set_61 : decode cX5_set 61 = .ok (.invokestatic 54, 3) := by decide +kernel
theorem dX5_set_64 : decode cX5_set 64 = .ok (.ifCond .ne 5, 3) := by decide +kernel
theorem dX5_set_67 : decode cX5_set 67 = .ok (.iconst (-1), 1) := by decide +kernel
theorem dX5_set_68 : decode cX5_set 68 = .ok (.ireturn, 1) := by decide +kernel
theorem dX5_set_69 : decode cX5_set 69 = .ok (.aload_n 0, 1) := by decide +kernel
theorem dX5_set_70 : decode cX5_set 70 = .ok (.getfield 36, 3) := by decide +kernel
theorem dX5_set_73 : decode cX5_set 73 = .ok (.invokevirtual 74, 3) := by decide +kernel
theorem dX5_set_76 : decode cX5_set 76 = .ok (.aload_n 0, 1) := by decide +kernel
theorem dX5_set_77 : decode cX5_set 77 = .ok (.getfield 12, 3) := by decide +kernel
theorem dX5_set_80 : decode cX5_set 80 = .ok (.getfield 114, 3) := by decide +kernel
theorem dX5_set_83 : decode cX5_set 83 = .ok (.istore_n 3, 1) := by decide +kernel
theorem dX5_set_84 : decode cX5_set 84 = .ok (.aload_n 0, 1) := by decide +kernel
theorem dX5_set_85 : decode cX5_set 85 = .ok (.getfield 12, 3) := by decide +kernel
theorem dX5_set_88 : decode cX5_set 88 = .ok (.iload_n 2, 1) := by decide +kernel
theorem dX5_set_89 : decode cX5_set 89 = .ok (.putfield 114, 3) := by decide +kernel
theorem dX5_set_92 : decode cX5_set 92 = .ok (.iload_n 3, 1) := by decide +kernel
theorem dX5_set_93 : decode cX5_set 93 = .ok (.ireturn, 1) := by decide +kernel
theorem dX5_set_94 : decode cX5_set 94 = .ok (.iconst (-1), 1) := by decide +kernel
theorem dX5_set_95 : decode cX5_set 95 = .ok (.ireturn, 1) := by decide +kernel
theorem dX5_key_0 : decode cX5_key 0 = .ok (.iload_n 1, 1) := by decide +kernel
theorem dX5_key_1 : decode cX5_key 1 = .ok (.iconst 0, 1) := by decide +kernel
theorem dX5_key_2 : decode cX5_key 2 = .ok (.bipush 19, 2) := by decide +kernel
theorem dX5_key_4 : decode cX5_key 4 = .ok (.invokestatic 54, 3) := by decide +kernel
theorem dX5_key_7 : decode cX5_key 7 = .ok (.ifCond .ne 5, 3) := by decide +kernel
theorem dX5_key_10 : decode cX5_key 10 = .ok (.iconst (-1), 1) := by decide +kernel
theorem dX5_key_11 : decode cX5_key 11 = .ok (.ireturn, 1) := by decide +kernel
theorem dX5_key_12 : decode cX5_key 12 = .ok (.aload_n 0, 1) := by decide +kernel
theorem dX5_key_13 : decode cX5_key 13 = .ok (.getfield 19, 3) := by decide +kernel
theorem dX5_key_16 : decode cX5_key 16 = .ok (.getfield 108, 3) := by decide +kernel
theorem dX5_key_19 : decode cX5_key 19 = .ok (.iconst 1, 1) := by decide +kernel
theorem dX5_key_20 : decode cX5_key 20 = .ok (.if_icmp .ge 6, 3) := by decide +kernel
theorem dX5_key_23 : decode cX5_key 23 = .ok (.bipush (-2), 2) := by decide +kernel
theorem dX5_key_25 : decode cX5_key 25 = .ok (.ireturn, 1) := by decide +kernel
theorem dX5_key_26 : decode cX5_key 26 = .ok (.aload_n 0, 1) := by decide +kernel
theorem dX5_key_27 : decode cX5_key 27 = .ok (.getfield 12, 3) := by decide +kernel
theorem dX5_key_30 : decode cX5_key 30 = .ok (.iload_n 1, 1) := by decide +kernel
theorem dX5_key_31 : decode cX5_key 31 = .ok (.invokevirtual 87, 3) := by decide +kernel
theorem dX5_key_34 : decode cX5_key 34 = .ok (.ifCond .ne 14, 3) := by decide +kernel
theorem dX5_key_37 : decode cX5_key 37 = .ok (.aload_n 0, 1) := by decide +kernel
theorem dX5_key_38 : decode cX5_key 38 = .ok (.getfield 12, 3) := by decide +kernel
theorem dX5_key_41 : decode cX5_key 41 = .ok (.iload_n 1, 1) := by decide +kernel
theorem dX5_key_42 : decode cX5_key 42 = .ok (.invokevirtual 90, 3) := by decide +kernel
theorem dX5_key_45 : decode cX5_key 45 = .ok (.ifCond .eq 8, 3) := by decide +kernel
theorem dX5_key_48 : decode cX5_key 48 = .ok (.aload_n 0, 1) := by decide +kernel
theorem dX5_key_49 : decode cX5_key 49 = .ok (.invokevirtual 117, 3) := by decide +kernel
theorem dX5_key_52 : decode cX5_key 52 = .ok (.ireturn, 1) := by decide +kernel
theorem dX5_key_53 : decode cX5_key 53 = .ok (.aload_n 0, 1) := by decide +kernel
theorem dX5_key_54 : decode cX5_key 54 = .ok (.getfield 36, 3) := by decide +kernel
theorem dX5_key_57 : decode cX5_key 57 = .ok (.invokevirtual 74, 3) := by decide +kernel
theorem dX5_key_60 : decode cX5_key 60 = .ok (.aload_n 0, 1) := by decide +kernel
theorem dX5_key_61 : decode cX5_key 61 = .ok (.getfield 12, 3) := by decide +kernel
theorem dX5_key_64 : decode cX5_key 64 = .ok (.dup, 1) := by decide +kernel
theorem dX5_key_65 : decode cX5_key 65 = .ok (.getfield 121, 3) := by decide +kernel
theorem dX5_key_68 : decode cX5_key 68 = .ok (.iconst 1, 1) := by decide +kernel
theorem dX5_key_69 : decode cX5_key 69 = .ok (.iload_n 1, 1) := by decide +kernel
end
section
theorem dX5_key_70 : decode cX5_key 70 = .ok (.ishl, 1) := by decide +kernel
theorem dX5_key_71 : decode cX5_key 71 = .ok (.ior, 1) := by decide +kernel
theorem dX5_key_72 : decode cX5_key 72 = .ok (.putfield 121, 3) := by decide +kernel
theorem dX5_key_75 : decode cX5_key 75 = .ok (.aload_n 0, 1) := by decide +kernel
theorem dX5_key_76 : decode cX5_key 76 = .ok (.getfield 19, 3) := by decide +kernel
theorem dX5_key_79 : decode cX5_key 79 = .ok (.dup, 1) := by decide +kernel
theorem dX5_key_80 : decode cX5_key 80 = .ok (.getfield 108, 3) := by decide +kernel
theorem dX5_key_83 : decode cX5_key 83 = .ok (.iconst 1, 1) := by decide +kernel
theorem dX5_key_84 : decode cX5_key 84 = .ok (.isub, 1) := by decide +kernel
theorem dX5_key_85 : decode cX5_key 85 = .ok (.putfield 108, 3) := by decide +kernel
theorem dX5_key_88 : decode cX5_key 88 = .ok (.aload_n 0, 1) := by decide +kernel
theorem dX5_key_89 : decode cX5_key 89 = .ok (.getfield 19, 3) := by decide +kernel
theorem dX5_key_92 : decode cX5_key 92 = .ok (.getfield 108, 3) := by decide +kernel
theorem dX5_key_95 : decode cX5_key 95 = .ok (.ireturn, 1) := by decide +kernel
theorem dX5_keyInVain_0 : decode cX5_keyInVain 0 = .ok (.aload_n 0, 1) := by decide +kernel
theorem dX5_keyInVain_1 : decode cX5_keyInVain 1 = .ok (.getfield 19, 3) := by decide +kernel
theorem dX5_keyInVain_4 : decode cX5_keyInVain 4 = .ok (.getfield 111, 3) := by decide +kernel
theorem dX5_keyInVain_7 : decode cX5_keyInVain 7 = .ok (.iconst 1, 1) := by decide +kernel
theorem dX5_keyInVain_8 : decode cX5_keyInVain 8 = .ok (.if_icmp .ne 6, 3) := by decide +kernel
theorem dX5_keyInVain_11 : decode cX5_keyInVain 11 = .ok (.bipush (-2), 2) := by decide +kernel
theorem dX5_keyInVain_13 : decode cX5_keyInVain 13 = .ok (.ireturn, 1) := by decide +kernel
theorem dX5_keyInVain_14 : decode cX5_keyInVain 14 = .ok (.aload_n 0, 1) := by decide +kernel
theorem dX5_keyInVain_15 : decode cX5_keyInVain 15 = .ok (.getfield 19, 3) := by decide +kernel
theorem dX5_keyInVain_18 : decode cX5_keyInVain 18 = .ok (.dup, 1) := by decide +kernel
theorem dX5_keyInVain_19 : decode cX5_keyInVain 19 = .ok (.getfield 108, 3) := by decide +kernel
theorem dX5_keyInVain_22 : decode cX5_keyInVain 22 = .ok (.iconst 1, 1) := by decide +kernel
theorem dX5_keyInVain_23 : decode cX5_keyInVain 23 = .ok (.isub, 1) := by decide +kernel
theorem dX5_keyInVain_24 : decode cX5_keyInVain 24 = .ok (.putfield 108, 3) := by decide +kernel
theorem dX5_keyInVain_27 : decode cX5_keyInVain 27 = .ok (.aload_n 0, 1) := by decide +kernel
theorem dX5_keyInVain_28 : decode cX5_keyInVain 28 = .ok (.getfield 19, 3) := by decide +kernel
theorem dX5_keyInVain_31 : decode cX5_keyInVain 31 = .ok (.dup, 1) := by decide +kernel
theorem dX5_keyInVain_32 : decode cX5_keyInVain 32 = .ok (.getfield 124, 3) := by decide +kernel
theorem dX5_keyInVain_35 : decode cX5_keyInVain 35 = .ok (.iconst 1, 1) := by decide +kernel
theorem dX5_keyInVain_36 : decode cX5_keyInVain 36 = .ok (.iadd, 1) := by decide +kernel
theorem dX5_keyInVain_37 : decode cX5_keyInVain 37 = .ok (.putfield 124, 3) := by decide +kernel
theorem dX5_keyInVain_40 : decode cX5_keyInVain 40 = .ok (.aload_n 0, 1) := by decide +kernel
theorem dX5_keyInVain_41 : decode cX5_keyInVain 41 = .ok (.getfield 19, 3) := by decide +kernel
theorem dX5_keyInVain_44 : decode cX5_keyInVain 44 = .ok (.getfield 108, 3) := by decide +kernel
theorem dX5_keyInVain_47 : decode cX5_keyInVain 47 = .ok (.ireturn, 1) := by decide +kernel
theorem dX5_ticks_0 : decode cX5_ticks 0 = .ok (.iload_n 1, 1) := by decide +kernel
theorem dX5_ticks_1 : decode cX5_ticks 1 = .ok (.iconst 1, 1) := by decide +kernel
theorem dX5_ticks_2 : decode cX5_ticks 2 = .ok (.sipush 2000, 3) := by decide +kernel
theorem dX5_ticks_5 : decode cX5_ticks 5 = .ok (.invokestatic 54, 3) := by decide +kernel
theorem dX5_ticks_8 : decode cX5_ticks 8 = .ok (.ifCond .ne 5, 3) := by decide +kernel
theorem dX5_ticks_11 : decode cX5_ticks 11 = .ok (.iconst (-1), 1) := by decide +kernel
theorem dX5_ticks_12 : decode cX5_ticks 12 = .ok (.ireturn, 1) := by decide +kernel
theorem dX5_ticks_13 : decode cX5_ticks 13 = .ok (.aload_n 0, 1) := by decide +kernel
theorem dX5_ticks_14 : decode cX5_ticks 14 = .ok (.getfield 12, 3) := by decide +kernel
theorem dX5_ticks_17 : decode cX5_ticks 17 = .ok (.getfield 127, 3) := by decide +kernel
theorem dX5_ticks_20 : decode cX5_ticks 20 = .ok (.ldc 130, 2) := by decide +kernel
theorem dX5_ticks_22 : decode cX5_ticks 22 = .ok (.iload_n 1, 1) := by decide +kernel
theorem dX5_ticks_23 : decode cX5_ticks 23 = .ok (.isub, 1) := by decide +kernel
theorem dX5_ticks_24 : decode cX5_ticks 24 = .ok (.if_icmp .le 6, 3) := by decide +kernel
theorem dX5_ticks_27 : decode cX5_ticks 27 = .ok (.bipush (-3), 2) := by decide +kernel
theorem dX5_ticks_29 : decode cX5_ticks 29 = .ok (.ireturn, 1) := by decide +kernel
theorem dX5_ticks_30 : decode cX5_ticks 30 = .ok (.aload_n 0, 1) := by decide +kernel
theorem dX5_ticks_31 : decode cX5_ticks 31 = .ok (.getfield 36, 3) := by decide +kernel
theorem dX5_ticks_34 : decode cX5_ticks 34 = .ok (.invokevirtual 74, 3) := by decide +kernel
theorem dX5_ticks_37 : decode cX5_ticks 37 = .ok (.iload_n 1, 1) := by decide +kernel
theorem dX5_ticks_38 : decode cX5_ticks 38 = .ok (.istore_n 2, 1) := by decide +kernel
theorem dX5_ticks_39 : decode cX5_ticks 39 = .ok (.iconst 0, 1) := by decide +kernel
theorem dX5_ticks_40 : decode cX5_ticks 40 = .ok (.istore_n 3, 1) := by decide +kernel
theorem dX5_ticks_41 : decode cX5_ticks 41 = .ok (.iload_n 3, 1) := by decide +kernel
theorem dX5_ticks_42 : decode cX5_ticks 42 = .ok (.iload_n 1, 1) := by decide +kernel
theorem dX5_ticks_43 : decode cX5_ticks 43 = .ok (.if_icmp .ge 24, 3) := by decide +kernel
theorem dX5_ticks_46 : decode cX5_ticks 46 = .ok (.iload_n 2, 1) := by decide +kernel
theorem dX5_ticks_47 : decode cX5_ticks 47 = .ok (.ifCond .le 20, 3) := by decide +kernel
theorem dX5_ticks_50 : decode cX5_ticks 50 = .ok (.iload_n 2, 1) := by decide +kernel
theorem dX5_ticks_51 : decode cX5_ticks 51 = .ok (.aload_n 0, 1) := by decide +kernel
theorem dX5_ticks_52 : decode cX5_ticks 52 = .ok (.getfield 12, 3) := by decide +kernel
theorem dX5_ticks_55 : decode cX5_ticks 55 = .ok (.iload_n 2, 1) := by decide +kernel
theorem dX5_ticks_56 : decode cX5_ticks 56 = .ok (.invokevirtual 131, 3) := by decide +kernel
theorem dX5_ticks_59 : decode cX5_ticks 59 = .ok (.isub, 1) := by decide +kernel
theorem dX5_ticks_60 : decode cX5_ticks 60 = .ok (.istore_n 2, 1) := by decide +kernel
theorem dX5_ticks_61 : decode cX5_ticks 61 = .ok (.iinc 3 1, 3) := by decide +kernel
theorem dX5_ticks_64 : decode cX5_ticks 64 = .ok (.goto (-23), 3) := by decide +kernel
theorem dX5_ticks_67 : decode cX5_ticks 67 = .ok (.aload_n 0, 1) := by decide +kernel
theorem dX5_ticks_68 : decode cX5_ticks 68 = .ok (.getfield 12, 3) := by decide +kernel
theorem dX5_ticks_71 : decode cX5_ticks 71 = .ok (.getfield 127, 3) := by decide +kernel
theorem dX5_ticks_74 : decode cX5_ticks 74 = .ok (.ireturn, 1) := by decide +kernel
theorem dX5_carriage_0 : decode cX5_carriage 0 = .ok (.iload_n 1, 1) := by decide +kernel
theorem dX5_carriage_1 : decode cX5_carriage 1 = .ok (.tableswitch 71 0 3 #[31, 39, 55, 63], 31) := by decide +kernel
theorem dX5_carriage_32 : decode cX5_carriage 32 = .ok (.aload_n 0, 1) := by decide +kernel
theorem dX5_carriage_33 : decode cX5_carriage 33 = .ok (.getfield 12, 3) := by decide +kernel
theorem dX5_carriage_36 : decode cX5_carriage 36 = .ok (.getfield 134, 3) := by decide +kernel
theorem dX5_carriage_39 : decode cX5_carriage 39 = .ok (.ireturn, 1) := by decide +kernel
theorem dX5_carriage_40 : decode cX5_carriage 40 = .ok (.aload_n 0, 1) := by decide +kernel
theorem dX5_carriage_41 : decode cX5_carriage 41 = .ok (.getfield 12, 3) := by decide +kernel
theorem dX5_carriage_44 : decode cX5_carriage 44 = .ok (.getfield 137, 3) := by decide +kernel
theorem dX5_carriage_47 : decode cX5_carriage 47 = .ok (.ifCond .eq 7, 3) := by decide +kernel
theorem dX5_carriage_50 : decode cX5_carriage 50 = .ok (.iconst 1, 1) := by decide +kernel
theorem dX5_carriage_51 : decode cX5_carriage 51 = .ok (.goto 4, 3) := by decide +kernel
theorem dX5_carriage_54 : decode cX5_carriage 54 = .ok (.iconst 0, 1) := by decide +kernel
theorem dX5_carriage_55 : decode cX5_carriage 55 = .ok (.ireturn, 1) := by decide +kernel
theorem dX5_carriage_56 : decode cX5_carriage 56 = .ok (.aload_n 0, 1) := by decide +kernel
theorem dX5_carriage_57 : decode cX5_carriage 57 = .ok (.getfield 12, 3) := by decide +kernel
theorem dX5_carriage_60 : decode cX5_carriage 60 = .ok (.getfield 140, 3) := by decide +kernel
theorem dX5_carriage_63 : decode cX5_carriage 63 = .ok (.ireturn, 1) := by decide +kernel
theorem dX5_carriage_64 : decode cX5_carriage 64 = .ok (.aload_n 0, 1) := by decide +kernel
theorem dX5_carriage_65 : decode cX5_carriage 65 = .ok (.getfield 12, 3) := by decide +kernel
theorem dX5_carriage_68 : decode cX5_carriage 68 = .ok (.getfield 143, 3) := by decide +kernel
theorem dX5_carriage_71 : decode cX5_carriage 71 = .ok (.ireturn, 1) := by decide +kernel
theorem dX5_carriage_72 : decode cX5_carriage 72 = .ok (.iconst (-1), 1) := by decide +kernel
theorem dX5_carriage_73 : decode cX5_carriage 73 = .ok (.ireturn, 1) := by decide +kernel
theorem dX5_count_0 : decode cX5_count 0 = .ok (.iload_n 1, 1) := by decide +kernel
theorem dX5_count_1 : decode cX5_count 1 = .ok (.tableswitch 126 0 8 #[51, 59, 70, 78, 86, 94, 102, 110, 118], 51) := by decide +kernel
theorem dX5_count_52 : decode cX5_count 52 = .ok (.aload_n 0, 1) := by decide +kernel
theorem dX5_count_53 : decode cX5_count 53 = .ok (.getfield 12, 3) := by decide +kernel
theorem dX5_count_56 : decode cX5_count 56 = .ok (.getfield 58, 3) := by decide +kernel
theorem dX5_count_59 : decode cX5_count 59 = .ok (.ireturn, 1) := by decide +kernel
theorem dX5_count_60 : decode cX5_count 60 = .ok (.aload_n 0, 1) := by decide +kernel
theorem dX5_count_61 : decode cX5_count 61 = .ok (.getfield 12, 3) := by decide +kernel
theorem dX5_count_64 : decode cX5_count 64 = .ok (.getfield 121, 3) := by decide +kernel
theorem dX5_count_67 : decode cX5_count 67 = .ok (.invokestatic 146, 3) := by decide +kernel
theorem dX5_count_70 : decode cX5_count 70 = .ok (.ireturn, 1) := by decide +kernel
theorem dX5_count_71 : decode cX5_count 71 = .ok (.aload_n 0, 1) := by decide +kernel
theorem dX5_count_72 : decode cX5_count 72 = .ok (.getfield 19, 3) := by decide +kernel
theorem dX5_count_75 : decode cX5_count 75 = .ok (.getfield 108, 3) := by decide +kernel
theorem dX5_count_78 : decode cX5_count 78 = .ok (.ireturn, 1) := by decide +kernel
theorem dX5_count_79 : decode cX5_count 79 = .ok (.aload_n 0, 1) := by decide +kernel
theorem dX5_count_80 : decode cX5_count 80 = .ok (.getfield 19, 3) := by decide +kernel
theorem dX5_count_83 : decode cX5_count 83 = .ok (.getfield 124, 3) := by decide +kernel
theorem dX5_count_86 : decode cX5_count 86 = .ok (.ireturn, 1) := by decide +kernel
theorem dX5_count_87 : decode cX5_count 87 = .ok (.aload_n 0, 1) := by decide +kernel
theorem dX5_count_88 : decode cX5_count 88 = .ok (.getfield 19, 3) := by decide +kernel
theorem dX5_count_91 : decode cX5_count 91 = .ok (.getfield 151, 3) := by decide +kernel
theorem dX5_count_94 : decode cX5_count 94 = .ok (.ireturn, 1) := by decide +kernel
theorem dX5_count_95 : decode cX5_count 95 = .ok (.aload_n 0, 1) := by decide +kernel
theorem dX5_count_96 : decode cX5_count 96 = .ok (.getfield 12, 3) := by decide +kernel
theorem dX5_count_99 : decode cX5_count 99 = .ok (.getfield 154, 3) := by decide +kernel
theorem dX5_count_102 : decode cX5_count 102 = .ok (.ireturn, 1) := by decide +kernel
theorem dX5_count_103 : decode cX5_count 103 = .ok (.aload_n 0, 1) := by decide +kernel
theorem dX5_count_104 : decode cX5_count 104 = .ok (.getfield 12, 3) := by decide +kernel
theorem dX5_count_107 : decode cX5_count 107 = .ok (.getfield 157, 3) := by decide +kernel
theorem dX5_count_110 : decode cX5_count 110 = .ok (.ireturn, 1) := by decide +kernel
theorem dX5_count_111 : decode cX5_count 111 = .ok (.aload_n 0, 1) := by decide +kernel
theorem dX5_count_112 : decode cX5_count 112 = .ok (.getfield 12, 3) := by decide +kernel
theorem dX5_count_115 : decode cX5_count 115 = .ok (.getfield 127, 3) := by decide +kernel
theorem dX5_count_118 : decode cX5_count 118 = .ok (.ireturn, 1) := by decide +kernel
theorem dX5_count_119 : decode cX5_count 119 = .ok (.aload_n 0, 1) := by decide +kernel
theorem dX5_count_120 : decode cX5_count 120 = .ok (.getfield 12, 3) := by decide +kernel
theorem dX5_count_123 : decode cX5_count 123 = .ok (.invokevirtual 160, 3) := by decide +kernel
theorem dX5_count_126 : decode cX5_count 126 = .ok (.ireturn, 1) := by decide +kernel
theorem dX5_count_127 : decode cX5_count 127 = .ok (.iconst (-1), 1) := by decide +kernel
theorem dX5_count_128 : decode cX5_count 128 = .ok (.ireturn, 1) := by decide +kernel
theorem dX5_next_0 : decode cX5_next 0 = .ok (.iload_n 1, 1) := by decide +kernel
theorem dX5_next_1 : decode cX5_next 1 = .ok (.iconst 0, 1) := by decide +kernel
theorem dX5_next_2 : decode cX5_next 2 = .ok (.bipush 63, 2) := by decide +kernel
theorem dX5_next_4 : decode cX5_next 4 = .ok (.invokestatic 54, 3) := by decide +kernel
theorem dX5_next_7 : decode cX5_next 7 = .ok (.ifCond .ne 5, 3) := by decide +kernel
theorem dX5_next_10 : decode cX5_next 10 = .ok (.iconst (-1), 1) := by decide +kernel
theorem dX5_next_11 : decode cX5_next 11 = .ok (.ireturn, 1) := by decide +kernel
theorem dX5_next_12 : decode cX5_next 12 = .ok (.aload_n 0, 1) := by decide +kernel
theorem dX5_next_13 : decode cX5_next 13 = .ok (.getfield 36, 3) := by decide +kernel
theorem dX5_next_16 : decode cX5_next 16 = .ok (.aload_n 0, 1) := by decide +kernel
theorem dX5_next_17 : decode cX5_next 17 = .ok (.getfield 12, 3) := by decide +kernel
theorem dX5_next_20 : decode cX5_next 20 = .ok (.invokevirtual 163, 3) := by decide +kernel
theorem dX5_next_23 : decode cX5_next 23 = .ok (.iload_n 1, 1) := by decide +kernel
theorem dX5_next_24 : decode cX5_next 24 = .ok (.aload_n 0, 1) := by decide +kernel
theorem dX5_next_25 : decode cX5_next 25 = .ok (.getfield 36, 3) := by decide +kernel
theorem dX5_next_28 : decode cX5_next 28 = .ok (.getfield 167, 3) := by decide +kernel
theorem dX5_next_31 : decode cX5_next 31 = .ok (.if_icmp .ge 15, 3) := by decide +kernel
theorem dX5_next_34 : decode cX5_next 34 = .ok (.aload_n 0, 1) := by decide +kernel
theorem dX5_next_35 : decode cX5_next 35 = .ok (.getfield 36, 3) := by decide +kernel
theorem dX5_next_38 : decode cX5_next 38 = .ok (.getfield 170, 3) := by decide +kernel
theorem dX5_next_41 : decode cX5_next 41 = .ok (.iload_n 1, 1) := by decide +kernel
theorem dX5_next_42 : decode cX5_next 42 = .ok (.iaload, 1) := by decide +kernel
theorem dX5_next_43 : decode cX5_next 43 = .ok (.goto 5, 3) := by decide +kernel
theorem dX5_next_46 : decode cX5_next 46 = .ok (.bipush (-4), 2) := by decide +kernel
theorem dX5_next_48 : decode cX5_next 48 = .ok (.ireturn, 1) := by decide +kernel
theorem dX5_when_0 : decode cX5_when 0 = .ok (.iload_n 1, 1) := by decide +kernel
theorem dX5_when_1 : decode cX5_when 1 = .ok (.iconst 0, 1) := by decide +kernel
theorem dX5_when_2 : decode cX5_when 2 = .ok (.bipush 19, 2) := by decide +kernel
theorem dX5_when_4 : decode cX5_when 4 = .ok (.invokestatic 54, 3) := by decide +kernel
theorem dX5_when_7 : decode cX5_when 7 = .ok (.ifCond .ne 5, 3) := by decide +kernel
theorem dX5_when_10 : decode cX5_when 10 = .ok (.iconst (-1), 1) := by decide +kernel
theorem dX5_when_11 : decode cX5_when 11 = .ok (.ireturn, 1) := by decide +kernel
theorem dX5_when_12 : decode cX5_when 12 = .ok (.aload_n 0, 1) := by decide +kernel
theorem dX5_when_13 : decode cX5_when 13 = .ok (.getfield 36, 3) := by decide +kernel
theorem dX5_when_16 : decode cX5_when 16 = .ok (.aload_n 0, 1) := by decide +kernel
theorem dX5_when_17 : decode cX5_when 17 = .ok (.getfield 12, 3) := by decide +kernel
theorem dX5_when_20 : decode cX5_when 20 = .ok (.invokevirtual 163, 3) := by decide +kernel
theorem dX5_when_23 : decode cX5_when 23 = .ok (.aload_n 0, 1) := by decide +kernel
theorem dX5_when_24 : decode cX5_when 24 = .ok (.getfield 36, 3) := by decide +kernel
theorem dX5_when_27 : decode cX5_when 27 = .ok (.iload_n 1, 1) := by decide +kernel
theorem dX5_when_28 : decode cX5_when 28 = .ok (.invokevirtual 173, 3) := by decide +kernel
theorem dX5_when_31 : decode cX5_when 31 = .ok (.ireturn, 1) := by decide +kernel
theorem dX5_done_0 : decode cX5_done 0 = .ok (.aload_n 0, 1) := by decide +kernel
theorem dX5_done_1 : decode cX5_done 1 = .ok (.getfield 12, 3) := by decide +kernel
theorem dX5_done_4 : decode cX5_done 4 = .ok (.getfield 176, 3) := by decide +kernel
theorem dX5_done_7 : decode cX5_done 7 = .ok (.ifCond .eq 6, 3) := by decide +kernel
theorem dX5_done_10 : decode cX5_done 10 = .ok (.bipush (-2), 2) := by decide +kernel
theorem dX5_done_12 : decode cX5_done 12 = .ok (.ireturn, 1) := by decide +kernel
theorem dX5_done_13 : decode cX5_done 13 = .ok (.aload_n 0, 1) := by decide +kernel
theorem dX5_done_14 : decode cX5_done 14 = .ok (.getfield 36, 3) := by decide +kernel
theorem dX5_done_17 : decode cX5_done 17 = .ok (.aload_n 0, 1) := by decide +kernel
theorem dX5_done_18 : decode cX5_done 18 = .ok (.getfield 12, 3) := by decide +kernel
theorem dX5_done_21 : decode cX5_done 21 = .ok (.iconst 0, 1) := by decide +kernel
theorem dX5_done_22 : decode cX5_done 22 = .ok (.iconst 0, 1) := by decide +kernel
theorem dX5_done_23 : decode cX5_done 23 = .ok (.invokevirtual 179, 3) := by decide +kernel
theorem dX5_done_26 : decode cX5_done 26 = .ok (.ireturn, 1) := by decide +kernel
theorem dX5_better_0 : decode cX5_better 0 = .ok (.iload_n 1, 1) := by decide +kernel
theorem dX5_better_1 : decode cX5_better 1 = .ok (.iconst 0, 1) := by decide +kernel
theorem dX5_better_2 : decode cX5_better 2 = .ok (.iconst 2, 1) := by decide +kernel
theorem dX5_better_3 : decode cX5_better 3 = .ok (.invokestatic 54, 3) := by decide +kernel
theorem dX5_better_6 : decode cX5_better 6 = .ok (.ifCond .ne 5, 3) := by decide +kernel
theorem dX5_better_9 : decode cX5_better 9 = .ok (.iconst (-1), 1) := by decide +kernel
theorem dX5_better_10 : decode cX5_better 10 = .ok (.ireturn, 1) := by decide +kernel
theorem dX5_better_11 : decode cX5_better 11 = .ok (.aload_n 0, 1) := by decide +kernel
theorem dX5_better_12 : decode cX5_better 12 = .ok (.getfield 12, 3) := by decide +kernel
theorem dX5_better_15 : decode cX5_better 15 = .ok (.getfield 176, 3) := by decide +kernel
theorem dX5_better_18 : decode cX5_better 18 = .ok (.ifCond .eq 6, 3) := by decide +kernel
theorem dX5_better_21 : decode cX5_better 21 = .ok (.bipush (-2), 2) := by decide +kernel
theorem dX5_better_23 : decode cX5_better 23 = .ok (.ireturn, 1) := by decide +kernel
theorem dX5_better_24 : decode cX5_better 24 = .ok (.aload_n 0, 1) := by decide +kernel
theorem dX5_better_25 : decode cX5_better 25 = .ok (.getfield 36, 3) := by decide +kernel
theorem dX5_better_28 : decode cX5_better 28 = .ok (.aload_n 0, 1) := by decide +kernel
theorem dX5_better_29 : decode cX5_better 29 = .ok (.getfield 12, 3) := by decide +kernel
theorem dX5_better_32 : decode cX5_better 32 = .ok (.invokevirtual 183, 3) := by decide +kernel
theorem dX5_better_35 : decode cX5_better 35 = .ok (.iload_n 1, 1) := by decide +kernel
theorem dX5_better_36 : decode cX5_better 36 = .ok (.ifCond .ne 11, 3) := by decide +kernel
theorem dX5_better_39 : decode cX5_better 39 = .ok (.aload_n 0, 1) := by decide +kernel
theorem dX5_better_40 : decode cX5_better 40 = .ok (.getfield 36, 3) := by decide +kernel
theorem dX5_better_43 : decode cX5_better 43 = .ok (.getfield 186, 3) := by decide +kernel
theorem dX5_better_46 : decode cX5_better 46 = .ok (.ireturn, 1) := by decide +kernel
theorem dX5_better_47 : decode cX5_better 47 = .ok (.iload_n 1, 1) := by decide +kernel
theorem dX5_better_48 : decode cX5_better 48 = .ok (.iconst 1, 1) := by decide +kernel
theorem dX5_better_49 : decode cX5_better 49 = .ok (.if_icmp .ne 13, 3) := by decide +kernel
theorem dX5_better_52 : decode cX5_better 52 = .ok (.aload_n 0, 1) := by decide +kernel
theorem dX5_better_53 : decode cX5_better 53 = .ok (.getfield 36, 3) := by decide +kernel
theorem dX5_better_56 : decode cX5_better 56 = .ok (.getfield 189, 3) := by decide +kernel
theorem dX5_better_59 : decode cX5_better 59 = .ok (.goto 10, 3) := by decide +kernel
theorem dX5_better_62 : decode cX5_better 62 = .ok (.aload_n 0, 1) := by decide +kernel
theorem dX5_better_63 : decode cX5_better 63 = .ok (.getfield 36, 3) := by decide +kernel
theorem dX5_better_66 : decode cX5_better 66 = .ok (.getfield 192, 3) := by decide +kernel
theorem dX5_better_69 : decode cX5_better 69 = .ok (.ireturn, 1) := by decide +kernel
theorem dX5_heard_0 : decode cX5_heard 0 = .ok (.aload_n 0, 1) := by decide +kernel
theorem dX5_heard_1 : decode cX5_heard 1 = .ok (.iload_n 1, 1) := by decide +kernel
theorem dX5_heard_2 : decode cX5_heard 2 = .ok (.iload_n 2, 1) := by decide +kernel
theorem dX5_heard_3 : decode cX5_heard 3 = .ok (.iload_n 3, 1) := by decide +kernel
theorem dX5_heard_4 : decode cX5_heard 4 = .ok (.iload 4, 2) := by decide +kernel
theorem dX5_heard_6 : decode cX5_heard 6 = .ok (.iload 5, 2) := by decide +kernel
theorem dX5_heard_8 : decode cX5_heard 8 = .ok (.invokevirtual 195, 3) := by decide +kernel
theorem dX5_heard_11 : decode cX5_heard 11 = .ok (.istore 6, 2) := by decide +kernel
theorem dX5_heard_13 : decode cX5_heard 13 = .ok (.iload 6, 2) := by decide +kernel
theorem dX5_heard_15 : decode cX5_heard 15 = .ok (.ifCond .eq 6, 3) := by decide +kernel
theorem dX5_heard_18 : decode cX5_heard 18 = .ok (.iload 6, 2) := by decide +kernel
theorem dX5_heard_20 : decode cX5_heard 20 = .ok (.ireturn, 1) := by decide +kernel
theorem dX5_heard_21 : decode cX5_heard 21 = .ok (.aload_n 0, 1) := by decide +kernel
theorem dX5_heard_22 : decode cX5_heard 22 = .ok (.getfield 49, 3) := by decide +kernel
theorem dX5_heard_25 : decode cX5_heard 25 = .ok (.iload_n 1, 1) := by decide +kernel
theorem dX5_heard_26 : decode cX5_heard 26 = .ok (.aaload, 1) := by decide +kernel
theorem dX5_heard_27 : decode cX5_heard 27 = .ok (.iload_n 3, 1) := by decide +kernel
theorem dX5_heard_28 : decode cX5_heard 28 = .ok (.iload 4, 2) := by decide +kernel
theorem dX5_heard_30 : decode cX5_heard 30 = .ok (.iload 5, 2) := by decide +kernel
theorem dX5_heard_32 : decode cX5_heard 32 = .ok (.invokevirtual 199, 3) := by decide +kernel
theorem dX5_heard_35 : decode cX5_heard 35 = .ok (.istore 7, 2) := by decide +kernel
theorem dX5_heard_37 : decode cX5_heard 37 = .ok (.iload 7, 2) := by decide +kernel
theorem dX5_heard_39 : decode cX5_heard 39 = .ok (.bipush (-4), 2) := by decide +kernel
theorem dX5_heard_41 : decode cX5_heard 41 = .ok (.if_icmp .ne 8, 3) := by decide +kernel
theorem dX5_heard_44 : decode cX5_heard 44 = .ok (.bipush (-4), 2) := by decide +kernel
theorem dX5_heard_46 : decode cX5_heard 46 = .ok (.goto 15, 3) := by decide +kernel
theorem dX5_heard_49 : decode cX5_heard 49 = .ok (.iload 7, 2) := by decide +kernel
theorem dX5_heard_51 : decode cX5_heard 51 = .ok (.iconst 1, 1) := by decide +kernel
theorem dX5_heard_52 : decode cX5_heard 52 = .ok (.iadd, 1) := by decide +kernel
theorem dX5_heard_53 : decode cX5_heard 53 = .ok (.iload 4, 2) := by decide +kernel
theorem dX5_heard_55 : decode cX5_heard 55 = .ok (.iload 7, 2) := by decide +kernel
theorem dX5_heard_57 : decode cX5_heard 57 = .ok (.isub, 1) := by decide +kernel
theorem dX5_heard_58 : decode cX5_heard 58 = .ok (.invokestatic 203, 3) := by decide +kernel
theorem dX5_heard_61 : decode cX5_heard 61 = .ok (.ireturn, 1) := by decide +kernel
theorem dX5_mayBe_0 : decode cX5_mayBe 0 = .ok (.aload_n 0, 1) := by decide +kernel
theorem dX5_mayBe_1 : decode cX5_mayBe 1 = .ok (.iload_n 1, 1) := by decide +kernel
theorem dX5_mayBe_2 : decode cX5_mayBe 2 = .ok (.iload_n 2, 1) := by decide +kernel
theorem dX5_mayBe_3 : decode cX5_mayBe 3 = .ok (.iload_n 3, 1) := by decide +kernel
theorem dX5_mayBe_4 : decode cX5_mayBe 4 = .ok (.iload 4, 2) := by decide +kernel
theorem dX5_mayBe_6 : decode cX5_mayBe 6 = .ok (.iload 5, 2) := by decide +kernel
theorem dX5_mayBe_8 : decode cX5_mayBe 8 = .ok (.invokevirtual 195, 3) := by decide +kernel
theorem dX5_mayBe_11 : decode cX5_mayBe 11 = .ok (.istore 6, 2) := by decide +kernel
theorem dX5_mayBe_13 : decode cX5_mayBe 13 = .ok (.iload 6, 2) := by decide +kernel
theorem dX5_mayBe_15 : decode cX5_mayBe 15 = .ok (.ifCond .eq 6, 3) := by decide +kernel
theorem dX5_mayBe_18 : decode cX5_mayBe 18 = .ok (.iload 6, 2) := by decide +kernel
theorem dX5_mayBe_20 : decode cX5_mayBe 20 = .ok (.ireturn, 1) := by decide +kernel
theorem dX5_mayBe_21 : decode cX5_mayBe 21 = .ok (.aload_n 0, 1) := by decide +kernel
theorem dX5_mayBe_22 : decode cX5_mayBe 22 = .ok (.getfield 49, 3) := by decide +kernel
theorem dX5_mayBe_25 : decode cX5_mayBe 25 = .ok (.iload_n 1, 1) := by decide +kernel
theorem dX5_mayBe_26 : decode cX5_mayBe 26 = .ok (.aaload, 1) := by decide +kernel
theorem dX5_mayBe_27 : decode cX5_mayBe 27 = .ok (.iload_n 3, 1) := by decide +kernel
theorem dX5_mayBe_28 : decode cX5_mayBe 28 = .ok (.iload 4, 2) := by decide +kernel
theorem dX5_mayBe_30 : decode cX5_mayBe 30 = .ok (.iload 5, 2) := by decide +kernel
theorem dX5_mayBe_32 : decode cX5_mayBe 32 = .ok (.invokevirtual 199, 3) := by decide +kernel
theorem dX5_mayBe_35 : decode cX5_mayBe 35 = .ok (.istore 7, 2) := by decide +kernel
theorem dX5_mayBe_37 : decode cX5_mayBe 37 = .ok (.iload 7, 2) := by decide +kernel
theorem dX5_mayBe_39 : decode cX5_mayBe 39 = .ok (.bipush (-4), 2) := by decide +kernel
theorem dX5_mayBe_41 : decode cX5_mayBe 41 = .ok (.if_icmp .ne 6, 3) := by decide +kernel
theorem dX5_mayBe_44 : decode cX5_mayBe 44 = .ok (.bipush (-4), 2) := by decide +kernel
theorem dX5_mayBe_46 : decode cX5_mayBe 46 = .ok (.ireturn, 1) := by decide +kernel
theorem dX5_mayBe_47 : decode cX5_mayBe 47 = .ok (.iload 7, 2) := by decide +kernel
theorem dX5_mayBe_49 : decode cX5_mayBe 49 = .ok (.iconst 1, 1) := by decide +kernel
theorem dX5_mayBe_50 : decode cX5_mayBe 50 = .ok (.iadd, 1) := by decide +kernel
theorem dX5_mayBe_51 : decode cX5_mayBe 51 = .ok (.istore 8, 2) := by decide +kernel
theorem dX5_mayBe_53 : decode cX5_mayBe 53 = .ok (.iload 4, 2) := by decide +kernel
theorem dX5_mayBe_55 : decode cX5_mayBe 55 = .ok (.iload 7, 2) := by decide +kernel
theorem dX5_mayBe_57 : decode cX5_mayBe 57 = .ok (.isub, 1) := by decide +kernel
theorem dX5_mayBe_58 : decode cX5_mayBe 58 = .ok (.istore 9, 2) := by decide +kernel
theorem dX5_mayBe_60 : decode cX5_mayBe 60 = .ok (.iload 8, 2) := by decide +kernel
theorem dX5_mayBe_62 : decode cX5_mayBe 62 = .ok (.iload 9, 2) := by decide +kernel
theorem dX5_mayBe_64 : decode cX5_mayBe 64 = .ok (.invokestatic 206, 3) := by decide +kernel
theorem dX5_mayBe_67 : decode cX5_mayBe 67 = .ok (.iload 8, 2) := by decide +kernel
theorem dX5_mayBe_69 : decode cX5_mayBe 69 = .ok (.iconst 1, 1) := by decide +kernel
theorem dX5_mayBe_70 : decode cX5_mayBe 70 = .ok (.iadd, 1) := by decide +kernel
theorem dX5_mayBe_71 : decode cX5_mayBe 71 = .ok (.iload 9, 2) := by decide +kernel
theorem dX5_mayBe_73 : decode cX5_mayBe 73 = .ok (.invokestatic 206, 3) := by decide +kernel
theorem dX5_mayBe_76 : decode cX5_mayBe 76 = .ok (.ior, 1) := by decide +kernel
theorem dX5_mayBe_77 : decode cX5_mayBe 77 = .ok (.iload 8, 2) := by decide +kernel
theorem dX5_mayBe_79 : decode cX5_mayBe 79 = .ok (.iload 9, 2) := by decide +kernel
theorem dX5_mayBe_81 : decode cX5_mayBe 81 = .ok (.iconst 1, 1) := by decide +kernel
theorem dX5_mayBe_82 : decode cX5_mayBe 82 = .ok (.iadd, 1) := by decide +kernel
theorem dX5_mayBe_83 : decode cX5_mayBe 83 = .ok (.invokestatic 206, 3) := by decide +kernel
theorem dX5_mayBe_86 : decode cX5_mayBe 86 = .ok (.ior, 1) := by decide +kernel
theorem dX5_mayBe_87 : decode cX5_mayBe 87 = .ok (.istore 10, 2) := by decide +kernel
theorem dX5_mayBe_89 : decode cX5_mayBe 89 = .ok (.iload 10, 2) := by decide +kernel
theorem dX5_mayBe_91 : decode cX5_mayBe 91 = .ok (.ifCond .ne 8, 3) := by decide +kernel
theorem dX5_mayBe_94 : decode cX5_mayBe 94 = .ok (.bipush (-4), 2) := by decide +kernel
theorem dX5_mayBe_96 : decode cX5_mayBe 96 = .ok (.goto 5, 3) := by decide +kernel
theorem dX5_mayBe_99 : decode cX5_mayBe 99 = .ok (.iload 10, 2) := by decide +kernel
theorem dX5_mayBe_101 : decode cX5_mayBe 101 = .ok (.ireturn, 1) := by decide +kernel
theorem dX5_wireRefusal_0 : decode cX5_wireRefusal 0 = .ok (.iload_n 1, 1) := by decide +kernel
theorem dX5_wireRefusal_1 : decode cX5_wireRefusal 1 = .ok (.iload_n 2, 1) := by decide +kernel
theorem dX5_wireRefusal_2 : decode cX5_wireRefusal 2 = .ok (.invokestatic 209, 3) := by decide +kernel
theorem dX5_wireRefusal_5 : decode cX5_wireRefusal 5 = .ok (.ifCond .eq 26, 3) := by decide +kernel
theorem dX5_wireRefusal_8 : decode cX5_wireRefusal 8 = .ok (.iload 4, 2) := by decide +kernel
theorem dX5_wireRefusal_10 : decode cX5_wireRefusal 10 = .ok (.iconst 1, 1) := by decide +kernel
theorem dX5_wireRefusal_11 : decode cX5_wireRefusal 11 = .ok (.bipush 20, 2) := by decide +kernel
theorem dX5_wireRefusal_13 : decode cX5_wireRefusal 13 = .ok (.invokestatic 54, 3) := by decide +kernel
theorem dX5_wireRefusal_16 : decode cX5_wireRefusal 16 = .ok (.ifCond .eq 15, 3) := by decide +kernel
theorem dX5_wireRefusal_19 : decode cX5_wireRefusal 19 = .ok (.iload 5, 2) := by decide +kernel
theorem dX5_wireRefusal_21 : decode cX5_wireRefusal 21 = .ok (.iconst 1, 1) := by decide +kernel
theorem dX5_wireRefusal_22 : decode cX5_wireRefusal 22 = .ok (.sipush 999, 3) := by decide +kernel
theorem dX5_wireRefusal_25 : decode cX5_wireRefusal 25 = .ok (.invokestatic 54, 3) := by decide +kernel
theorem dX5_wireRefusal_28 : decode cX5_wireRefusal 28 = .ok (.ifCond .ne 5, 3) := by decide +kernel
theorem dX5_wireRefusal_31 : decode cX5_wireRefusal 31 = .ok (.iconst (-1), 1) := by decide +kernel
theorem dX5_wireRefusal_32 : decode cX5_wireRefusal 32 = .ok (.ireturn, 1) := by decide +kernel
theorem dX5_wireRefusal_33 : decode cX5_wireRefusal 33 = .ok (.aload_n 0, 1) := by decide +kernel
theorem dX5_wireRefusal_34 : decode cX5_wireRefusal 34 = .ok (.getfield 49, 3) := by decide +kernel
theorem dX5_wireRefusal_37 : decode cX5_wireRefusal 37 = .ok (.iload_n 1, 1) := by decide +kernel
theorem dX5_wireRefusal_38 : decode cX5_wireRefusal 38 = .ok (.aaload, 1) := by decide +kernel
theorem dX5_wireRefusal_39 : decode cX5_wireRefusal 39 = .ok (.iload_n 2, 1) := by decide +kernel
theorem dX5_wireRefusal_40 : decode cX5_wireRefusal 40 = .ok (.invokevirtual 213, 3) := by decide +kernel
theorem dX5_wireRefusal_43 : decode cX5_wireRefusal 43 = .ok (.istore 6, 2) := by decide +kernel
theorem dX5_wireRefusal_45 : decode cX5_wireRefusal 45 = .ok (.iload 6, 2) := by decide +kernel
theorem dX5_wireRefusal_47 : decode cX5_wireRefusal 47 = .ok (.ifCond .eq 6, 3) := by decide +kernel
theorem dX5_wireRefusal_50 : decode cX5_wireRefusal 50 = .ok (.iload 6, 2) := by decide +kernel
theorem dX5_wireRefusal_52 : decode cX5_wireRefusal 52 = .ok (.ireturn, 1) := by decide +kernel
theorem dX5_wireRefusal_53 : decode cX5_wireRefusal 53 = .ok (.iload_n 3, 1) := by decide +kernel
theorem dX5_wireRefusal_54 : decode cX5_wireRefusal 54 = .ok (.ifCond .lt 19, 3) := by decide +kernel
theorem dX5_wireRefusal_57 : decode cX5_wireRefusal 57 = .ok (.iload_n 3, 1) := by decide +kernel
theorem dX5_wireRefusal_58 : decode cX5_wireRefusal 58 = .ok (.aload_n 0, 1) := by decide +kernel
theorem dX5_wireRefusal_59 : decode cX5_wireRefusal 59 = .ok (.getfield 49, 3) := by decide +kernel
theorem dX5_wireRefusal_62 : decode cX5_wireRefusal 62 = .ok (.iload_n 1, 1) := by decide +kernel
theorem dX5_wireRefusal_63 : decode cX5_wireRefusal 63 = .ok (.aaload, 1) := by decide +kernel
theorem dX5_wireRefusal_64 : decode cX5_wireRefusal 64 = .ok (.getfield 216, 3) := by decide +kernel
theorem dX5_wireRefusal_67 : decode cX5_wireRefusal 67 = .ok (.iload 4, 2) := by decide +kernel
theorem dX5_wireRefusal_69 : decode cX5_wireRefusal 69 = .ok (.isub, 1) := by decide +kernel
theorem dX5_wireRefusal_70 : decode cX5_wireRefusal 70 = .ok (.if_icmp .le 6, 3) := by decide +kernel
theorem dX5_wireRefusal_73 : decode cX5_wireRefusal 73 = .ok (.bipush (-13), 2) := by decide +kernel
theorem dX5_wireRefusal_75 : decode cX5_wireRefusal 75 = .ok (.ireturn, 1) := by decide +kernel
theorem dX5_wireRefusal_76 : decode cX5_wireRefusal 76 = .ok (.aload_n 0, 1) := by decide +kernel
theorem dX5_wireRefusal_77 : decode cX5_wireRefusal 77 = .ok (.getfield 49, 3) := by decide +kernel
theorem dX5_wireRefusal_80 : decode cX5_wireRefusal 80 = .ok (.iload_n 1, 1) := by decide +kernel
theorem dX5_wireRefusal_81 : decode cX5_wireRefusal 81 = .ok (.aaload, 1) := by decide +kernel
theorem dX5_wireRefusal_82 : decode cX5_wireRefusal 82 = .ok (.iload_n 3, 1) := by decide +kernel
theorem dX5_wireRefusal_83 : decode cX5_wireRefusal 83 = .ok (.iload 4, 2) := by decide +kernel
theorem dX5_wireRefusal_85 : decode cX5_wireRefusal 85 = .ok (.invokevirtual 219, 3) := by decide +kernel
theorem dX5_wireRefusal_88 : decode cX5_wireRefusal 88 = .ok (.ifCond .eq 7, 3) := by decide +kernel
theorem dX5_wireRefusal_91 : decode cX5_wireRefusal 91 = .ok (.iconst 0, 1) := by decide +kernel
theorem dX5_wireRefusal_92 : decode cX5_wireRefusal 92 = .ok (.goto 5, 3) := by decide +kernel
theorem dX5_wireRefusal_95 : decode cX5_wireRefusal 95 = .ok (.bipush (-2), 2) := by decide +kernel
theorem dX5_wireRefusal_97 : decode cX5_wireRefusal 97 = .ok (.ireturn, 1) := by decide +kernel
theorem dX5_songOfPulses_0 : decode cX5_songOfPulses 0 = .ok (.iload_n 0, 1) := by decide +kernel
theorem dX5_songOfPulses_1 : decode cX5_songOfPulses 1 = .ok (.iconst 1, 1) := by decide +kernel
theorem dX5_songOfPulses_2 : decode cX5_songOfPulses 2 = .ok (.bipush 10, 2) := by decide +kernel
theorem dX5_songOfPulses_4 : decode cX5_songOfPulses 4 = .ok (.invokestatic 54, 3) := by decide +kernel
theorem dX5_songOfPulses_7 : decode cX5_songOfPulses 7 = .ok (.ifCond .eq 12, 3) := by decide +kernel
theorem dX5_songOfPulses_10 : decode cX5_songOfPulses 10 = .ok (.iload_n 1, 1) := by decide +kernel
theorem dX5_songOfPulses_11 : decode cX5_songOfPulses 11 = .ok (.iconst 1, 1) := by decide +kernel
theorem dX5_songOfPulses_12 : decode cX5_songOfPulses 12 = .ok (.iconst 2, 1) := by decide +kernel
theorem dX5_songOfPulses_13 : decode cX5_songOfPulses 13 = .ok (.invokestatic 54, 3) := by decide +kernel
theorem dX5_songOfPulses_16 : decode cX5_songOfPulses 16 = .ok (.ifCond .ne 6, 3) := by decide +kernel
theorem dX5_songOfPulses_19 : decode cX5_songOfPulses 19 = .ok (.bipush (-4), 2) := by decide +kernel
theorem dX5_songOfPulses_21 : decode cX5_songOfPulses 21 = .ok (.ireturn, 1) := by decide +kernel
theorem dX5_songOfPulses_22 : decode cX5_songOfPulses 22 = .ok (.iconst 2, 1) := by decide +kernel
theorem dX5_songOfPulses_23 : decode cX5_songOfPulses 23 = .ok (.iload_n 0, 1) := by decide +kernel
theorem dX5_songOfPulses_24 : decode cX5_songOfPulses 24 = .ok (.iconst 1, 1) := by decide +kernel
theorem dX5_songOfPulses_25 : decode cX5_songOfPulses 25 = .ok (.isub, 1) := by decide +kernel
theorem dX5_songOfPulses_26 : decode cX5_songOfPulses 26 = .ok (.imul, 1) := by decide +kernel
theorem dX5_songOfPulses_27 : decode cX5_songOfPulses 27 = .ok (.iload_n 1, 1) := by decide +kernel
theorem dX5_songOfPulses_28 : decode cX5_songOfPulses 28 = .ok (.iadd, 1) := by decide +kernel
theorem dX5_songOfPulses_29 : decode cX5_songOfPulses 29 = .ok (.iconst 1, 1) := by decide +kernel
theorem dX5_songOfPulses_30 : decode cX5_songOfPulses 30 = .ok (.isub, 1) := by decide +kernel
theorem dX5_songOfPulses_31 : decode cX5_songOfPulses 31 = .ok (.ireturn, 1) := by decide +kernel
theorem dX5_bitOfPulses_0 : decode cX5_bitOfPulses 0 = .ok (.iload_n 0, 1) := by decide +kernel
theorem dX5_bitOfPulses_1 : decode cX5_bitOfPulses 1 = .ok (.iload_n 1, 1) := by decide +kernel
theorem dX5_bitOfPulses_2 : decode cX5_bitOfPulses 2 = .ok (.invokestatic 203, 3) := by decide +kernel
theorem dX5_bitOfPulses_5 : decode cX5_bitOfPulses 5 = .ok (.istore_n 2, 1) := by decide +kernel
theorem dX5_bitOfPulses_6 : decode cX5_bitOfPulses 6 = .ok (.iload_n 2, 1) := by decide +kernel
theorem dX5_bitOfPulses_7 : decode cX5_bitOfPulses 7 = .ok (.bipush (-4), 2) := by decide +kernel
theorem dX5_bitOfPulses_9 : decode cX5_bitOfPulses 9 = .ok (.if_icmp .ne 7, 3) := by decide +kernel
theorem dX5_bitOfPulses_12 : decode cX5_bitOfPulses 12 = .ok (.iconst 0, 1) := by decide +kernel
theorem dX5_bitOfPulses_13 : decode cX5_bitOfPulses 13 = .ok (.goto 6, 3) := by decide +kernel
theorem dX5_bitOfPulses_16 : decode cX5_bitOfPulses 16 = .ok (.iconst 1, 1) := by decide +kernel
theorem dX5_bitOfPulses_17 : decode cX5_bitOfPulses 17 = .ok (.iload_n 2, 1) := by decide +kernel
theorem dX5_bitOfPulses_18 : decode cX5_bitOfPulses 18 = .ok (.ishl, 1) := by decide +kernel
theorem dX5_bitOfPulses_19 : decode cX5_bitOfPulses 19 = .ok (.ireturn, 1) := by decide +kernel
theorem dX5_type_0 : decode cX5_type 0 = .ok (.iload_n 3, 1) := by decide +kernel
theorem dX5_type_1 : decode cX5_type 1 = .ok (.iconst 1, 1) := by decide +kernel
theorem dX5_type_2 : decode cX5_type 2 = .ok (.bipush 8, 2) := by decide +kernel
theorem dX5_type_4 : decode cX5_type 4 = .ok (.invokestatic 54, 3) := by decide +kernel
theorem dX5_type_7 : decode cX5_type 7 = .ok (.ifCond .ne 5, 3) := by decide +kernel
theorem dX5_type_10 : decode cX5_type 10 = .ok (.iconst (-1), 1) := by decide +kernel
theorem dX5_type_11 : decode cX5_type 11 = .ok (.ireturn, 1) := by decide +kernel
theorem dX5_type_12 : decode cX5_type 12 = .ok (.iconst 0, 1) := by decide +kernel
theorem dX5_type_13 : decode cX5_type 13 = .ok (.istore 4, 2) := by decide +kernel
theorem dX5_type_15 : decode cX5_type 15 = .ok (.iload 4, 2) := by decide +kernel
theorem dX5_type_17 : decode cX5_type 17 = .ok (.iload_n 3, 1) := by decide +kernel
theorem dX5_type_18 : decode cX5_type 18 = .ok (.if_icmp .ge 27, 3) := by decide +kernel
theorem dX5_type_21 : decode cX5_type 21 = .ok (.lload_n 1, 1) := by decide +kernel
theorem dX5_type_22 : decode cX5_type 22 = .ok (.iload 4, 2) := by decide +kernel
theorem dX5_type_24 : decode cX5_type 24 = .ok (.invokestatic 222, 3) := by decide +kernel
theorem dX5_type_27 : decode cX5_type 27 = .ok (.bipush 32, 2) := by decide +kernel
theorem dX5_type_29 : decode cX5_type 29 = .ok (.bipush 126, 2) := by decide +kernel
theorem dX5_type_31 : decode cX5_type 31 = .ok (.invokestatic 54, 3) := by decide +kernel
theorem dX5_type_34 : decode cX5_type 34 = .ok (.ifCond .ne 5, 3) := by decide +kernel
theorem dX5_type_37 : decode cX5_type 37 = .ok (.iconst (-1), 1) := by decide +kernel
theorem dX5_type_38 : decode cX5_type 38 = .ok (.ireturn, 1) := by decide +kernel
theorem dX5_type_39 : decode cX5_type 39 = .ok (.iinc 4 1, 3) := by decide +kernel
theorem dX5_type_42 : decode cX5_type 42 = .ok (.goto (-27), 3) := by decide +kernel
theorem dX5_type_45 : decode cX5_type 45 = .ok (.aload_n 0, 1) := by decide +kernel
theorem dX5_type_46 : decode cX5_type 46 = .ok (.getfield 43, 3) := by decide +kernel
theorem dX5_type_49 : decode cX5_type 49 = .ok (.getfield 226, 3) := by decide +kernel
theorem dX5_type_52 : decode cX5_type 52 = .ok (.bipush 80, 2) := by decide +kernel
theorem dX5_type_54 : decode cX5_type 54 = .ok (.iload_n 3, 1) := by decide +kernel
theorem dX5_type_55 : decode cX5_type 55 = .ok (.isub, 1) := by decide +kernel
theorem dX5_type_56 : decode cX5_type 56 = .ok (.if_icmp .le 6, 3) := by decide +kernel
theorem dX5_type_59 : decode cX5_type 59 = .ok (.bipush (-3), 2) := by decide +kernel
theorem dX5_type_61 : decode cX5_type 61 = .ok (.ireturn, 1) := by decide +kernel
theorem dX5_type_62 : decode cX5_type 62 = .ok (.iload_n 3, 1) := by decide +kernel
theorem dX5_type_63 : decode cX5_type 63 = .ok (.iconst 1, 1) := by decide +kernel
theorem dX5_type_64 : decode cX5_type 64 = .ok (.isub, 1) := by decide +kernel
theorem dX5_type_65 : decode cX5_type 65 = .ok (.istore 4, 2) := by decide +kernel
theorem dX5_type_67 : decode cX5_type 67 = .ok (.iload 4, 2) := by decide +kernel
theorem dX5_type_69 : decode cX5_type 69 = .ok (.ifCond .lt 22, 3) := by decide +kernel
theorem dX5_type_72 : decode cX5_type 72 = .ok (.aload_n 0, 1) := by decide +kernel
theorem dX5_type_73 : decode cX5_type 73 = .ok (.getfield 43, 3) := by decide +kernel
theorem dX5_type_76 : decode cX5_type 76 = .ok (.lload_n 1, 1) := by decide +kernel
theorem dX5_type_77 : decode cX5_type 77 = .ok (.iload 4, 2) := by decide +kernel
theorem dX5_type_79 : decode cX5_type 79 = .ok (.invokestatic 222, 3) := by decide +kernel
theorem dX5_type_82 : decode cX5_type 82 = .ok (.invokevirtual 229, 3) := by decide +kernel
theorem dX5_type_85 : decode cX5_type 85 = .ok (.iinc 4 (-1), 3) := by decide +kernel
theorem dX5_type_88 : decode cX5_type 88 = .ok (.goto (-21), 3) := by decide +kernel
theorem dX5_type_91 : decode cX5_type 91 = .ok (.aload_n 0, 1) := by decide +kernel
theorem dX5_type_92 : decode cX5_type 92 = .ok (.getfield 43, 3) := by decide +kernel
theorem dX5_type_95 : decode cX5_type 95 = .ok (.getfield 226, 3) := by decide +kernel
theorem dX5_type_98 : decode cX5_type 98 = .ok (.ireturn, 1) := by decide +kernel
theorem dX5_byteOf_0 : decode cX5_byteOf 0 = .ok (.lload_n 0, 1) := by decide +kernel
theorem dX5_byteOf_1 : decode cX5_byteOf 1 = .ok (.bipush 8, 2) := by decide +kernel
theorem dX5_byteOf_3 : decode cX5_byteOf 3 = .ok (.iload_n 2, 1) := by decide +kernel
theorem dX5_byteOf_4 : decode cX5_byteOf 4 = .ok (.imul, 1) := by decide +kernel
theorem dX5_byteOf_5 : decode cX5_byteOf 5 = .ok (.lushr, 1) := by decide +kernel
theorem dX5_byteOf_6 : decode cX5_byteOf 6 = .ok (.l2i, 1) := by decide +kernel
theorem dX5_byteOf_7 : decode cX5_byteOf 7 = .ok (.sipush 255, 3) := by decide +kernel
theorem dX5_byteOf_10 : decode cX5_byteOf 10 = .ok (.iand, 1) := by decide +kernel
theorem dX5_byteOf_11 : decode cX5_byteOf 11 = .ok (.ireturn, 1) := by decide +kernel
theorem dX5_evening_0 : decode cX5_evening 0 = .ok (.aload_n 0, 1) := by decide +kernel
theorem dX5_evening_1 : decode cX5_evening 1 = .ok (.getfield 43, 3) := by decide +kernel
theorem dX5_evening_4 : decode cX5_evening 4 = .ok (.invokevirtual 232, 3) := by decide +kernel
theorem dX5_evening_7 : decode cX5_evening 7 = .ok (.istore_n 1, 1) := by decide +kernel
theorem dX5_evening_8 : decode cX5_evening 8 = .ok (.aload_n 0, 1) := by decide +kernel
theorem dX5_evening_9 : decode cX5_evening 9 = .ok (.getfield 43, 3) := by decide +kernel
theorem dX5_evening_12 : decode cX5_evening 12 = .ok (.iconst 0, 1) := by decide +kernel
theorem dX5_evening_13 : decode cX5_evening 13 = .ok (.putfield 226, 3) := by decide +kernel
theorem dX5_evening_16 : decode cX5_evening 16 = .ok (.iload_n 1, 1) := by decide +kernel
theorem dX5_evening_17 : decode cX5_evening 17 = .ok (.ifCond .eq 5, 3) := by decide +kernel
theorem dX5_evening_20 : decode cX5_evening 20 = .ok (.iload_n 1, 1) := by decide +kernel
theorem dX5_evening_21 : decode cX5_evening 21 = .ok (.ireturn, 1) := by decide +kernel
theorem dX5_evening_22 : decode cX5_evening 22 = .ok (.iconst 0, 1) := by decide +kernel
theorem dX5_evening_23 : decode cX5_evening 23 = .ok (.istore_n 2, 1) := by decide +kernel
theorem dX5_evening_24 : decode cX5_evening 24 = .ok (.iload_n 2, 1) := by decide +kernel
theorem dX5_evening_25 : decode cX5_evening 25 = .ok (.aload_n 0, 1) := by decide +kernel
theorem dX5_evening_26 : decode cX5_evening 26 = .ok (.getfield 43, 3) := by decide +kernel
theorem dX5_evening_29 : decode cX5_evening 29 = .ok (.getfield 235, 3) := by decide +kernel
theorem dX5_evening_32 : decode cX5_evening 32 = .ok (.if_icmp .ge 78, 3) := by decide +kernel
theorem dX5_evening_35 : decode cX5_evening 35 = .ok (.iload_n 2, 1) := by decide +kernel
theorem dX5_evening_36 : decode cX5_evening 36 = .ok (.bipush 40, 2) := by decide +kernel
theorem dX5_evening_38 : decode cX5_evening 38 = .ok (.if_icmp .ge 72, 3) := by decide +kernel
theorem dX5_evening_41 : decode cX5_evening 41 = .ok (.aload_n 0, 1) := by decide +kernel
theorem dX5_evening_42 : decode cX5_evening 42 = .ok (.getfield 43, 3) := by decide +kernel
theorem dX5_evening_45 : decode cX5_evening 45 = .ok (.getfield 238, 3) := by decide +kernel
theorem dX5_evening_48 : decode cX5_evening 48 = .ok (.iload_n 2, 1) := by decide +kernel
theorem dX5_evening_49 : decode cX5_evening 49 = .ok (.iaload, 1) := by decide +kernel
theorem dX5_evening_50 : decode cX5_evening 50 = .ok (.istore_n 3, 1) := by decide +kernel
theorem dX5_evening_51 : decode cX5_evening 51 = .ok (.aload_n 0, 1) := by decide +kernel
theorem dX5_evening_52 : decode cX5_evening 52 = .ok (.getfield 43, 3) := by decide +kernel
theorem dX5_evening_55 : decode cX5_evening 55 = .ok (.getfield 241, 3) := by decide +kernel
theorem dX5_evening_58 : decode cX5_evening 58 = .ok (.iload_n 2, 1) := by decide +kernel
theorem dX5_evening_59 : decode cX5_evening 59 = .ok (.iaload, 1) := by decide +kernel
theorem dX5_evening_60 : decode cX5_evening 60 = .ok (.istore 4, 2) := by decide +kernel
theorem dX5_evening_62 : decode cX5_evening 62 = .ok (.iload_n 3, 1) := by decide +kernel
theorem dX5_evening_63 : decode cX5_evening 63 = .ok (.ifCond .ne 12, 3) := by decide +kernel
theorem dX5_evening_66 : decode cX5_evening 66 = .ok (.aload_n 0, 1) := by decide +kernel
theorem dX5_evening_67 : decode cX5_evening 67 = .ok (.iload 4, 2) := by decide +kernel
theorem dX5_evening_69 : decode cX5_evening 69 = .ok (.invokevirtual 244, 3) := by decide +kernel
theorem dX5_evening_72 : decode cX5_evening 72 = .ok (.goto 23, 3) := by decide +kernel
theorem dX5_evening_75 : decode cX5_evening 75 = .ok (.iload_n 3, 1) := by decide +kernel
theorem dX5_evening_76 : decode cX5_evening 76 = .ok (.iconst 1, 1) := by decide +kernel
theorem dX5_evening_77 : decode cX5_evening 77 = .ok (.if_icmp .ne 12, 3) := by decide +kernel
theorem dX5_evening_80 : decode cX5_evening 80 = .ok (.aload_n 0, 1) := by decide +kernel
theorem dX5_evening_81 : decode cX5_evening 81 = .ok (.iload 4, 2) := by decide +kernel
theorem dX5_evening_83 : decode cX5_evening 83 = .ok (.invokevirtual 247, 3) := by decide +kernel
theorem dX5_evening_86 : decode cX5_evening 86 = .ok (.goto 9, 3) := by decide +kernel
theorem dX5_evening_89 : decode cX5_evening 89 = .ok (.aload_n 0, 1) := by decide +kernel
theorem dX5_evening_90 : decode cX5_evening 90 = .ok (.iload 4, 2) := by decide +kernel
theorem dX5_evening_92 : decode cX5_evening 92 = .ok (.invokevirtual 250, 3) := by decide +kernel
theorem dX5_evening_95 : decode cX5_evening 95 = .ok (.istore 5, 2) := by decide +kernel
theorem dX5_evening_97 : decode cX5_evening 97 = .ok (.iload 5, 2) := by decide +kernel
theorem dX5_evening_99 : decode cX5_evening 99 = .ok (.ifCond .ge 5, 3) := by decide +kernel
theorem dX5_evening_102 : decode cX5_evening 102 = .ok (.iload_n 2, 1) := by decide +kernel
theorem dX5_evening_103 : decode cX5_evening 103 = .ok (.ireturn, 1) := by decide +kernel
theorem dX5_evening_104 : decode cX5_evening 104 = .ok (.iinc 2 1, 3) := by decide +kernel
theorem dX5_evening_107 : decode cX5_evening 107 = .ok (.goto (-83), 3) := by decide +kernel
theorem dX5_evening_110 : decode cX5_evening 110 = .ok (.aload_n 0, 1) := by decide +kernel
theorem dX5_evening_111 : decode cX5_evening 111 = .ok (.getfield 43, 3) := by decide +kernel
theorem dX5_evening_114 : decode cX5_evening 114 = .ok (.getfield 235, 3) := by decide +kernel
theorem dX5_evening_117 : decode cX5_evening 117 = .ok (.ireturn, 1) := by decide +kernel
theorem dX5_image_0 : decode cX5_image 0 = .ok (.aload_n 0, 1) := by decide +kernel
theorem dX5_image_1 : decode cX5_image 1 = .ok (.getfield 23, 3) := by decide +kernel
theorem dX5_image_4 : decode cX5_image 4 = .ok (.aload_n 0, 1) := by decide +kernel
theorem dX5_image_5 : decode cX5_image 5 = .ok (.getfield 12, 3) := by decide +kernel
theorem dX5_image_8 : decode cX5_image 8 = .ok (.invokevirtual 253, 3) := by decide +kernel
theorem dX5_image_11 : decode cX5_image 11 = .ok (.aload_n 0, 1) := by decide +kernel
theorem dX5_image_12 : decode cX5_image 12 = .ok (.getfield 26, 3) := by decide +kernel
theorem dX5_image_15 : decode cX5_image 15 = .ok (.aload_n 0, 1) := by decide +kernel
theorem dX5_image_16 : decode cX5_image 16 = .ok (.getfield 19, 3) := by decide +kernel
theorem dX5_image_19 : decode cX5_image 19 = .ok (.invokevirtual 256, 3) := by decide +kernel
theorem dX5_image_22 : decode cX5_image 22 = .ok (.aload_n 0, 1) := by decide +kernel
theorem dX5_image_23 : decode cX5_image 23 = .ok (.iconst 1, 1) := by decide +kernel
theorem dX5_image_24 : decode cX5_image 24 = .ok (.putfield 29, 3) := by decide +kernel
theorem dX5_image_27 : decode cX5_image 27 = .ok (.iconst 1, 1) := by decide +kernel
theorem dX5_image_28 : decode cX5_image 28 = .ok (.ireturn, 1) := by decide +kernel
theorem dX5_restore_0 : decode cX5_restore 0 = .ok (.aload_n 0, 1) := by decide +kernel
theorem dX5_restore_1 : decode cX5_restore 1 = .ok (.getfield 29, 3) := by decide +kernel
theorem dX5_restore_4 : decode cX5_restore 4 = .ok (.ifCond .ne 6, 3) := by decide +kernel
theorem dX5_restore_7 : decode cX5_restore 7 = .ok (.bipush (-4), 2) := by decide +kernel
theorem dX5_restore_9 : decode cX5_restore 9 = .ok (.ireturn, 1) := by decide +kernel
theorem dX5_restore_10 : decode cX5_restore 10 = .ok (.aload_n 0, 1) := by decide +kernel
theorem dX5_restore_11 : decode cX5_restore 11 = .ok (.getfield 36, 3) := by decide +kernel
theorem dX5_restore_14 : decode cX5_restore 14 = .ok (.invokevirtual 74, 3) := by decide +kernel
theorem dX5_restore_17 : decode cX5_restore 17 = .ok (.aload_n 0, 1) := by decide +kernel
theorem dX5_restore_18 : decode cX5_restore 18 = .ok (.getfield 12, 3) := by decide +kernel
theorem dX5_restore_21 : decode cX5_restore 21 = .ok (.aload_n 0, 1) := by decide +kernel
theorem dX5_restore_22 : decode cX5_restore 22 = .ok (.getfield 23, 3) := by decide +kernel
theorem dX5_restore_25 : decode cX5_restore 25 = .ok (.invokevirtual 253, 3) := by decide +kernel
theorem dX5_restore_28 : decode cX5_restore 28 = .ok (.aload_n 0, 1) := by decide +kernel
theorem dX5_restore_29 : decode cX5_restore 29 = .ok (.getfield 19, 3) := by decide +kernel
theorem dX5_restore_32 : decode cX5_restore 32 = .ok (.aload_n 0, 1) := by decide +kernel
theorem dX5_restore_33 : decode cX5_restore 33 = .ok (.getfield 26, 3) := by decide +kernel
theorem dX5_restore_36 : decode cX5_restore 36 = .ok (.invokevirtual 256, 3) := by decide +kernel
theorem dX5_restore_39 : decode cX5_restore 39 = .ok (.iconst 1, 1) := by decide +kernel
theorem dX5_restore_40 : decode cX5_restore 40 = .ok (.ireturn, 1) := by decide +kernel
theorem dX5_sheet_0 : decode cX5_sheet 0 = .ok (.iload_n 1, 1) := by decide +kernel
theorem dX5_sheet_1 : decode cX5_sheet 1 = .ok (.iload_n 2, 1) := by decide +kernel
theorem dX5_sheet_2 : decode cX5_sheet 2 = .ok (.invokestatic 209, 3) := by decide +kernel
theorem dX5_sheet_5 : decode cX5_sheet 5 = .ok (.ifCond .eq 9, 3) := by decide +kernel
theorem dX5_sheet_8 : decode cX5_sheet 8 = .ok (.iload_n 3, 1) := by decide +kernel
theorem dX5_sheet_9 : decode cX5_sheet 9 = .ok (.bipush 24, 2) := by decide +kernel
theorem dX5_sheet_11 : decode cX5_sheet 11 = .ok (.if_icmp .le 5, 3) := by decide +kernel
theorem dX5_sheet_14 : decode cX5_sheet 14 = .ok (.iconst (-1), 1) := by decide +kernel
theorem dX5_sheet_15 : decode cX5_sheet 15 = .ok (.ireturn, 1) := by decide +kernel
theorem dX5_sheet_16 : decode cX5_sheet 16 = .ok (.iload_n 3, 1) := by decide +kernel
theorem dX5_sheet_17 : decode cX5_sheet 17 = .ok (.ifCond .ge 6, 3) := by decide +kernel
theorem dX5_sheet_20 : decode cX5_sheet 20 = .ok (.bipush (-14), 2) := by decide +kernel
theorem dX5_sheet_22 : decode cX5_sheet 22 = .ok (.ireturn, 1) := by decide +kernel
theorem dX5_sheet_23 : decode cX5_sheet 23 = .ok (.aload_n 0, 1) := by decide +kernel
theorem dX5_sheet_24 : decode cX5_sheet 24 = .ok (.getfield 49, 3) := by decide +kernel
theorem dX5_sheet_27 : decode cX5_sheet 27 = .ok (.iload_n 1, 1) := by decide +kernel
theorem dX5_sheet_28 : decode cX5_sheet 28 = .ok (.aaload, 1) := by decide +kernel
theorem dX5_sheet_29 : decode cX5_sheet 29 = .ok (.iload_n 2, 1) := by decide +kernel
theorem dX5_sheet_30 : decode cX5_sheet 30 = .ok (.iload_n 3, 1) := by decide +kernel
theorem dX5_sheet_31 : decode cX5_sheet 31 = .ok (.invokevirtual 259, 3) := by decide +kernel
theorem dX5_sheet_34 : decode cX5_sheet 34 = .ok (.iload_n 3, 1) := by decide +kernel
theorem dX5_sheet_35 : decode cX5_sheet 35 = .ok (.ireturn, 1) := by decide +kernel
theorem dX5_drop_0 : decode cX5_drop 0 = .ok (.iload_n 1, 1) := by decide +kernel
theorem dX5_drop_1 : decode cX5_drop 1 = .ok (.iconst 0, 1) := by decide +kernel
theorem dX5_drop_2 : decode cX5_drop 2 = .ok (.iconst 3, 1) := by decide +kernel
theorem dX5_drop_3 : decode cX5_drop 3 = .ok (.invokestatic 54, 3) := by decide +kernel
theorem dX5_drop_6 : decode cX5_drop 6 = .ok (.ifCond .ne 5, 3) := by decide +kernel
theorem dX5_drop_9 : decode cX5_drop 9 = .ok (.iconst (-1), 1) := by decide +kernel
theorem dX5_drop_10 : decode cX5_drop 10 = .ok (.ireturn, 1) := by decide +kernel
theorem dX5_drop_11 : decode cX5_drop 11 = .ok (.aload_n 0, 1) := by decide +kernel
theorem dX5_drop_12 : decode cX5_drop 12 = .ok (.getfield 49, 3) := by decide +kernel
theorem dX5_drop_15 : decode cX5_drop 15 = .ok (.iload_n 1, 1) := by decide +kernel
theorem dX5_drop_16 : decode cX5_drop 16 = .ok (.aaload, 1) := by decide +kernel
theorem dX5_drop_17 : decode cX5_drop 17 = .ok (.getfield 262, 3) := by decide +kernel
theorem dX5_drop_20 : decode cX5_drop 20 = .ok (.bipush (-4), 2) := by decide +kernel
theorem dX5_drop_22 : decode cX5_drop 22 = .ok (.if_icmp .ne 6, 3) := by decide +kernel
theorem dX5_drop_25 : decode cX5_drop 25 = .ok (.bipush (-11), 2) := by decide +kernel
theorem dX5_drop_27 : decode cX5_drop 27 = .ok (.ireturn, 1) := by decide +kernel
theorem dX5_drop_28 : decode cX5_drop 28 = .ok (.aload_n 0, 1) := by decide +kernel
theorem dX5_drop_29 : decode cX5_drop 29 = .ok (.getfield 49, 3) := by decide +kernel
theorem dX5_drop_32 : decode cX5_drop 32 = .ok (.iload_n 1, 1) := by decide +kernel
theorem dX5_drop_33 : decode cX5_drop 33 = .ok (.aaload, 1) := by decide +kernel
theorem dX5_drop_34 : decode cX5_drop 34 = .ok (.bipush (-4), 2) := by decide +kernel
theorem dX5_drop_36 : decode cX5_drop 36 = .ok (.putfield 262, 3) := by decide +kernel
theorem dX5_drop_39 : decode cX5_drop 39 = .ok (.aload_n 0, 1) := by decide +kernel
theorem dX5_drop_40 : decode cX5_drop 40 = .ok (.getfield 49, 3) := by decide +kernel
theorem dX5_drop_43 : decode cX5_drop 43 = .ok (.iload_n 1, 1) := by decide +kernel
theorem dX5_drop_44 : decode cX5_drop 44 = .ok (.aaload, 1) := by decide +kernel
theorem dX5_drop_45 : decode cX5_drop 45 = .ok (.getfield 216, 3) := by decide +kernel
theorem dX5_drop_48 : decode cX5_drop 48 = .ok (.ireturn, 1) := by decide +kernel
theorem dX5_item_0 : decode cX5_item 0 = .ok (.iload_n 1, 1) := by decide +kernel
theorem dX5_item_1 : decode cX5_item 1 = .ok (.iload_n 2, 1) := by decide +kernel
theorem dX5_item_2 : decode cX5_item 2 = .ok (.invokestatic 209, 3) := by decide +kernel
theorem dX5_item_5 : decode cX5_item 5 = .ok (.ifCond .ne 5, 3) := by decide +kernel
theorem dX5_item_8 : decode cX5_item 8 = .ok (.iconst (-1), 1) := by decide +kernel
theorem dX5_item_9 : decode cX5_item 9 = .ok (.ireturn, 1) := by decide +kernel
theorem dX5_item_10 : decode cX5_item 10 = .ok (.aload_n 0, 1) := by decide +kernel
theorem dX5_item_11 : decode cX5_item 11 = .ok (.getfield 49, 3) := by decide +kernel
theorem dX5_item_14 : decode cX5_item 14 = .ok (.iload_n 1, 1) := by decide +kernel
theorem dX5_item_15 : decode cX5_item 15 = .ok (.aaload, 1) := by decide +kernel
theorem dX5_item_16 : decode cX5_item 16 = .ok (.iload_n 2, 1) := by decide +kernel
theorem dX5_item_17 : decode cX5_item 17 = .ok (.invokevirtual 213, 3) := by decide +kernel
theorem dX5_item_20 : decode cX5_item 20 = .ok (.istore 5, 2) := by decide +kernel
theorem dX5_item_22 : decode cX5_item 22 = .ok (.iload 5, 2) := by decide +kernel
theorem dX5_item_24 : decode cX5_item 24 = .ok (.ifCond .eq 6, 3) := by decide +kernel
theorem dX5_item_27 : decode cX5_item 27 = .ok (.iload 5, 2) := by decide +kernel
theorem dX5_item_29 : decode cX5_item 29 = .ok (.ireturn, 1) := by decide +kernel
theorem dX5_item_30 : decode cX5_item 30 = .ok (.iload_n 3, 1) := by decide +kernel
theorem dX5_item_31 : decode cX5_item 31 = .ok (.ifCond .lt 16, 3) := by decide +kernel
theorem dX5_item_34 : decode cX5_item 34 = .ok (.iload_n 3, 1) := by decide +kernel
theorem dX5_item_35 : decode cX5_item 35 = .ok (.aload_n 0, 1) := by decide +kernel
theorem dX5_item_36 : decode cX5_item 36 = .ok (.getfield 49, 3) := by decide +kernel
theorem dX5_item_39 : decode cX5_item 39 = .ok (.iload_n 1, 1) := by decide +kernel
theorem dX5_item_40 : decode cX5_item 40 = .ok (.aaload, 1) := by decide +kernel
theorem dX5_item_41 : decode cX5_item 41 = .ok (.getfield 216, 3) := by decide +kernel
theorem dX5_item_44 : decode cX5_item 44 = .ok (.if_icmp .lt 6, 3) := by decide +kernel
theorem dX5_item_47 : decode cX5_item 47 = .ok (.bipush (-13), 2) := by decide +kernel
theorem dX5_item_49 : decode cX5_item 49 = .ok (.ireturn, 1) := by decide +kernel
theorem dX5_item_50 : decode cX5_item 50 = .ok (.aload_n 0, 1) := by decide +kernel
theorem dX5_item_51 : decode cX5_item 51 = .ok (.getfield 49, 3) := by decide +kernel
theorem dX5_item_54 : decode cX5_item 54 = .ok (.iload_n 1, 1) := by decide +kernel
theorem dX5_item_55 : decode cX5_item 55 = .ok (.aaload, 1) := by decide +kernel
theorem dX5_item_56 : decode cX5_item 56 = .ok (.iload_n 3, 1) := by decide +kernel
theorem dX5_item_57 : decode cX5_item 57 = .ok (.iload 4, 2) := by decide +kernel
theorem dX5_item_59 : decode cX5_item 59 = .ok (.invokevirtual 265, 3) := by decide +kernel
theorem dX5_item_62 : decode cX5_item 62 = .ok (.iconst 1, 1) := by decide +kernel
theorem dX5_item_63 : decode cX5_item 63 = .ok (.ireturn, 1) := by decide +kernel
theorem dX5_isSheetOfLane_0 : decode cX5_isSheetOfLane 0 = .ok (.iload_n 0, 1) := by decide +kernel
theorem dX5_isSheetOfLane_1 : decode cX5_isSheetOfLane 1 = .ok (.iconst 0, 1) := by decide +kernel
theorem dX5_isSheetOfLane_2 : decode cX5_isSheetOfLane 2 = .ok (.iconst 3, 1) := by decide +kernel
theorem dX5_isSheetOfLane_3 : decode cX5_isSheetOfLane 3 = .ok (.invokestatic 54, 3) := by decide +kernel
theorem dX5_isSheetOfLane_6 : decode cX5_isSheetOfLane 6 = .ok (.ifCond .eq 16, 3) := by decide +kernel
theorem dX5_isSheetOfLane_9 : decode cX5_isSheetOfLane 9 = .ok (.iload_n 1, 1) := by decide +kernel
theorem dX5_isSheetOfLane_10 : decode cX5_isSheetOfLane 10 = .ok (.iconst 0, 1) := by decide +kernel
theorem dX5_isSheetOfLane_11 : decode cX5_isSheetOfLane 11 = .ok (.iconst 2, 1) := by decide +kernel
theorem dX5_isSheetOfLane_12 : decode cX5_isSheetOfLane 12 = .ok (.invokestatic 54, 3) := by decide +kernel
theorem dX5_isSheetOfLane_15 : decode cX5_isSheetOfLane 15 = .ok (.ifCond .eq 7, 3) := by decide +kernel
theorem dX5_isSheetOfLane_18 : decode cX5_isSheetOfLane 18 = .ok (.iconst 1, 1) := by decide +kernel
theorem dX5_isSheetOfLane_19 : decode cX5_isSheetOfLane 19 = .ok (.goto 4, 3) := by decide +kernel
theorem dX5_isSheetOfLane_22 : decode cX5_isSheetOfLane 22 = .ok (.iconst 0, 1) := by decide +kernel
theorem dX5_isSheetOfLane_23 : decode cX5_isSheetOfLane 23 = .ok (.ireturn, 1) := by decide +kernel
theorem dX6_in_0 : decode cX6_in 0 = .ok (.lload_n 0, 1) := by decide +kernel
theorem dX6_in_1 : decode cX6_in 1 = .ok (.lload_n 2, 1) := by decide +kernel
theorem dX6_in_2 : decode cX6_in 2 = .ok (.lcmp, 1) := by decide +kernel
theorem dX6_in_3 : decode cX6_in 3 = .ok (.ifCond .lt 14, 3) := by decide +kernel
theorem dX6_in_6 : decode cX6_in 6 = .ok (.lload_n 0, 1) := by decide +kernel
theorem dX6_in_7 : decode cX6_in 7 = .ok (.lload 4, 2) := by decide +kernel
theorem dX6_in_9 : decode cX6_in 9 = .ok (.lcmp, 1) := by decide +kernel
theorem dX6_in_10 : decode cX6_in 10 = .ok (.ifCond .gt 7, 3) := by decide +kernel
theorem dX6_in_13 : decode cX6_in 13 = .ok (.iconst 1, 1) := by decide +kernel
theorem dX6_in_14 : decode cX6_in 14 = .ok (.goto 4, 3) := by decide +kernel
theorem dX6_in_17 : decode cX6_in 17 = .ok (.iconst 0, 1) := by decide +kernel
theorem dX6_in_18 : decode cX6_in 18 = .ok (.ireturn, 1) := by decide +kernel
theorem dX6_init_0 : decode cX6_init 0 = .ok (.aload_n 0, 1) := by decide +kernel
theorem dX6_init_1 : decode cX6_init 1 = .ok (.invokespecial 1, 3) := by decide +kernel
theorem dX6_init_4 : decode cX6_init 4 = .ok (.aload_n 0, 1) := by decide +kernel
theorem dX6_init_5 : decode cX6_init 5 = .ok (.sipush 154, 3) := by decide +kernel
theorem dX6_init_8 : decode cX6_init 8 = .ok (.newarray .int, 2) := by decide +kernel
theorem dX6_init_10 : decode cX6_init 10 = .ok (.putfield 7, 3) := by decide +kernel
theorem dX6_init_13 : decode cX6_init 13 = .ok (.aload_n 0, 1) := by decide +kernel
theorem dX6_init_14 : decode cX6_init 14 = .ok (.sipush 154, 3) := by decide +kernel
theorem dX6_init_17 : decode cX6_init 17 = .ok (.newarray .int, 2) := by decide +kernel
theorem dX6_init_19 : decode cX6_init 19 = .ok (.putfield 13, 3) := by decide +kernel
theorem dX6_init_22 : decode cX6_init 22 = .ok (.aload_n 0, 1) := by decide +kernel
theorem dX6_init_23 : decode cX6_init 23 = .ok (.bipush 64, 2) := by decide +kernel
theorem dX6_init_25 : decode cX6_init 25 = .ok (.newarray .int, 2) := by decide +kernel
theorem dX6_init_27 : decode cX6_init 27 = .ok (.putfield 16, 3) := by decide +kernel
theorem dX6_init_30 : decode cX6_init 30 = .ok (.aload_n 0, 1) := by decide +kernel
theorem dX6_init_31 : decode cX6_init 31 = .ok (.bipush 64, 2) := by decide +kernel
theorem dX6_init_33 : decode cX6_init 33 = .ok (.newarray .int, 2) := by decide +kernel
theorem dX6_init_35 : decode cX6_init 35 = .ok (.putfield 19, 3) := by decide +kernel
theorem dX6_init_38 : decode cX6_init 38 = .ok (.aload_n 0, 1) := by decide +kernel
theorem dX6_init_39 : decode cX6_init 39 = .ok (.bipush 80, 2) := by decide +kernel
theorem dX6_init_41 : decode cX6_init 41 = .ok (.newarray .int, 2) := by decide +kernel
theorem dX6_init_43 : decode cX6_init 43 = .ok (.putfield 22, 3) := by decide +kernel
theorem dX6_init_46 : decode cX6_init 46 = .ok (.aload_n 0, 1) := by decide +kernel
theorem dX6_init_47 : decode cX6_init 47 = .ok (.bipush 80, 2) := by decide +kernel
theorem dX6_init_49 : decode cX6_init 49 = .ok (.newarray .int, 2) := by decide +kernel
theorem dX6_init_51 : decode cX6_init 51 = .ok (.putfield 25, 3) := by decide +kernel
theorem dX6_init_54 : decode cX6_init 54 = .ok (.aload_n 0, 1) := by decide +kernel
theorem dX6_init_55 : decode cX6_init 55 = .ok (.bipush 80, 2) := by decide +kernel
theorem dX6_init_57 : decode cX6_init 57 = .ok (.newarray .int, 2) := by decide +kernel
theorem dX6_init_59 : decode cX6_init 59 = .ok (.putfield 28, 3) := by decide +kernel
theorem dX6_init_62 : decode cX6_init 62 = .ok (.aload_n 0, 1) := by decide +kernel
theorem dX6_init_63 : decode cX6_init 63 = .ok (.sipush 154, 3) := by decide +kernel
theorem dX6_init_66 : decode cX6_init 66 = .ok (.newarray .int, 2) := by decide +kernel
theorem dX6_init_68 : decode cX6_init 68 = .ok (.putfield 31, 3) := by decide +kernel
theorem dX6_init_71 : decode cX6_init 71 = .ok (.aload_n 0, 1) := by decide +kernel
theorem dX6_init_72 : decode cX6_init 72 = .ok (.iconst 4, 1) := by decide +kernel
theorem dX6_init_73 : decode cX6_init 73 = .ok (.newarray .int, 2) := by decide +kernel
theorem dX6_init_75 : decode cX6_init 75 = .ok (.putfield 34, 3) := by decide +kernel
theorem dX6_init_78 : decode cX6_init 78 = .ok (.aload_n 0, 1) := by decide +kernel
theorem dX6_init_79 : decode cX6_init 79 = .ok (.iconst 4, 1) := by decide +kernel
theorem dX6_init_80 : decode cX6_init 80 = .ok (.newarray .int, 2) := by decide +kernel
theorem dX6_init_82 : decode cX6_init 82 = .ok (.putfield 37, 3) := by decide +kernel
theorem dX6_init_85 : decode cX6_init 85 = .ok (.aload_n 0, 1) := by decide +kernel
theorem dX6_init_86 : decode cX6_init 86 = .ok (.bipush 96, 2) := by decide +kernel
theorem dX6_init_88 : decode cX6_init 88 = .ok (.newarray .int, 2) := by decide +kernel
theorem dX6_init_90 : decode cX6_init 90 = .ok (.putfield 40, 3) := by decide +kernel
theorem dX6_init_93 : decode cX6_init 93 = .ok (.iconst 0, 1) := by decide +kernel
theorem dX6_init_94 : decode cX6_init 94 = .ok (.istore_n 1, 1) := by decide +kernel
theorem dX6_init_95 : decode cX6_init 95 = .ok (.iload_n 1, 1) := by decide +kernel
theorem dX6_init_96 : decode cX6_init 96 = .ok (.iconst 4, 1) := by decide +kernel
theorem dX6_init_97 : decode cX6_init 97 = .ok (.if_icmp .ge 16, 3) := by decide +kernel
theorem dX6_init_100 : decode cX6_init 100 = .ok (.aload_n 0, 1) := by decide +kernel
theorem dX6_init_101 : decode cX6_init 101 = .ok (.getfield 34, 3) := by decide +kernel
theorem dX6_init_104 : decode cX6_init 104 = .ok (.iload_n 1, 1) := by decide +kernel
theorem dX6_init_105 : decode cX6_init 105 = .ok (.iconst (-1), 1) := by decide +kernel
theorem dX6_init_106 : decode cX6_init 106 = .ok (.iastore, 1) := by decide +kernel
theorem dX6_init_107 : decode cX6_init 107 = .ok (.iinc 1 1, 3) := by decide +kernel
theorem dX6_init_110 : decode cX6_init 110 = .ok (.goto (-15), 3) := by decide +kernel
theorem dX6_init_113 : decode cX6_init 113 = .ok (.aload_n 0, 1) := by decide +kernel
theorem dX6_init_114 : decode cX6_init 114 = .ok (.getfield 7, 3) := by decide +kernel
theorem dX6_init_117 : decode cX6_init 117 = .ok (.iconst 2, 1) := by decide +kernel
theorem dX6_init_118 : decode cX6_init 118 = .ok (.iconst 1, 1) := by decide +kernel
theorem dX6_init_119 : decode cX6_init 119 = .ok (.iastore, 1) := by decide +kernel
theorem dX6_init_120 : decode cX6_init 120 = .ok (.aload_n 0, 1) := by decide +kernel
theorem dX6_init_121 : decode cX6_init 121 = .ok (.getfield 7, 3) := by decide +kernel
theorem dX6_init_124 : decode cX6_init 124 = .ok (.bipush 11, 2) := by decide +kernel
theorem dX6_init_126 : decode cX6_init 126 = .ok (.bipush 10, 2) := by decide +kernel
theorem dX6_init_128 : decode cX6_init 128 = .ok (.iastore, 1) := by decide +kernel
theorem dX6_init_129 : decode cX6_init 129 = .ok (.aload_n 0, 1) := by decide +kernel
theorem dX6_init_130 : decode cX6_init 130 = .ok (.getfield 7, 3) := by decide +kernel
theorem dX6_init_133 : decode cX6_init 133 = .ok (.bipush 12, 2) := by decide +kernel
theorem dX6_init_135 : decode cX6_init 135 = .ok (.bipush 25, 2) := by decide +kernel
theorem dX6_init_137 : decode cX6_init 137 = .ok (.iastore, 1) := by decide +kernel
theorem dX6_init_138 : decode cX6_init 138 = .ok (.aload_n 0, 1) := by decide +kernel
theorem dX6_init_139 : decode cX6_init 139 = .ok (.getfield 7, 3) := by decide +kernel
theorem dX6_init_142 : decode cX6_init 142 = .ok (.bipush 13, 2) := by decide +kernel
theorem dX6_init_144 : decode cX6_init 144 = .ok (.iconst 3, 1) := by decide +kernel
theorem dX6_init_145 : decode cX6_init 145 = .ok (.iastore, 1) := by decide +kernel
theorem dX6_init_146 : decode cX6_init 146 = .ok (.aload_n 0, 1) := by decide +kernel
theorem dX6_init_147 : decode cX6_init 147 = .ok (.getfield 7, 3) := by decide +kernel
theorem dX6_init_150 : decode cX6_init 150 = .ok (.bipush 14, 2) := by decide +kernel
theorem dX6_init_152 : decode cX6_init 152 = .ok (.iconst 1, 1) := by decide +kernel
theorem dX6_init_153 : decode cX6_init 153 = .ok (.iastore, 1) := by decide +kernel
theorem dX6_init_154 : decode cX6_init 154 = .ok (.aload_n 0, 1) := by decide +kernel
theorem dX6_init_155 : decode cX6_init 155 = .ok (.getfield 7, 3) := by decide +kernel
theorem dX6_init_158 : decode cX6_init 158 = .ok (.bipush 15, 2) := by decide +kernel
theorem dX6_init_160 : decode cX6_init 160 = .ok (.bipush 99, 2) := by decide +kernel
theorem dX6_init_162 : decode cX6_init 162 = .ok (.iastore, 1) := by decide +kernel
theorem dX6_init_163 : decode cX6_init 163 = .ok (.iconst 0, 1) := by decide +kernel
theorem dX6_init_164 : decode cX6_init 164 = .ok (.istore_n 1, 1) := by decide +kernel
theorem dX6_init_165 : decode cX6_init 165 = .ok (.iload_n 1, 1) := by decide +kernel
theorem dX6_init_166 : decode cX6_init 166 = .ok (.bipush 10, 2) := by decide +kernel
theorem dX6_init_168 : decode cX6_init 168 = .ok (.if_icmp .ge 20, 3) := by decide +kernel
theorem dX6_init_171 : decode cX6_init 171 = .ok (.aload_n 0, 1) := by decide +kernel
theorem dX6_init_172 : decode cX6_init 172 = .ok (.getfield 7, 3) := by decide +kernel
theorem dX6_init_175 : decode cX6_init 175 = .ok (.bipush 20, 2) := by decide +kernel
theorem dX6_init_177 : decode cX6_init 177 = .ok (.iload_n 1, 1) := by decide +kernel
theorem dX6_init_178 : decode cX6_init 178 = .ok (.iadd, 1) := by decide +kernel
theorem dX6_init_179 : decode cX6_init 179 = .ok (.bipush (-4), 2) := by decide +kernel
theorem dX6_init_181 : decode cX6_init 181 = .ok (.iastore, 1) := by decide +kernel
theorem dX6_init_182 : decode cX6_init 182 = .ok (.iinc 1 1, 3) := by decide +kernel
theorem dX6_init_185 : decode cX6_init 185 = .ok (.goto (-20), 3) := by decide +kernel
theorem dX6_init_188 : decode cX6_init 188 = .ok (.return_, 1) := by decide +kernel
theorem dX6_keep_0 : decode cX6_keep 0 = .ok (.iconst 0, 1) := by decide +kernel
theorem dX6_keep_1 : decode cX6_keep 1 = .ok (.istore_n 2, 1) := by decide +kernel
theorem dX6_keep_2 : decode cX6_keep 2 = .ok (.iload_n 2, 1) := by decide +kernel
theorem dX6_keep_3 : decode cX6_keep 3 = .ok (.sipush 154, 3) := by decide +kernel
theorem dX6_keep_6 : decode cX6_keep 6 = .ok (.if_icmp .ge 18, 3) := by decide +kernel
theorem dX6_keep_9 : decode cX6_keep 9 = .ok (.aload_n 1, 1) := by decide +kernel
theorem dX6_keep_10 : decode cX6_keep 10 = .ok (.iload_n 2, 1) := by decide +kernel
theorem dX6_keep_11 : decode cX6_keep 11 = .ok (.aload_n 0, 1) := by decide +kernel
theorem dX6_keep_12 : decode cX6_keep 12 = .ok (.getfield 7, 3) := by decide +kernel
theorem dX6_keep_15 : decode cX6_keep 15 = .ok (.iload_n 2, 1) := by decide +kernel
theorem dX6_keep_16 : decode cX6_keep 16 = .ok (.iaload, 1) := by decide +kernel
theorem dX6_keep_17 : decode cX6_keep 17 = .ok (.iastore, 1) := by decide +kernel
theorem dX6_keep_18 : decode cX6_keep 18 = .ok (.iinc 2 1, 3) := by decide +kernel
theorem dX6_keep_21 : decode cX6_keep 21 = .ok (.goto (-19), 3) := by decide +kernel
theorem dX6_keep_24 : decode cX6_keep 24 = .ok (.return_, 1) := by decide +kernel
theorem dX6_bring_0 : decode cX6_bring 0 = .ok (.iconst 0, 1) := by decide +kernel
theorem dX6_bring_1 : decode cX6_bring 1 = .ok (.istore_n 2, 1) := by decide +kernel
theorem dX6_bring_2 : decode cX6_bring 2 = .ok (.iload_n 2, 1) := by decide +kernel
theorem dX6_bring_3 : decode cX6_bring 3 = .ok (.sipush 154, 3) := by decide +kernel
theorem dX6_bring_6 : decode cX6_bring 6 = .ok (.if_icmp .ge 18, 3) := by decide +kernel
theorem dX6_bring_9 : decode cX6_bring 9 = .ok (.aload_n 0, 1) := by decide +kernel
theorem dX6_bring_10 : decode cX6_bring 10 = .ok (.getfield 7, 3) := by decide +kernel
theorem dX6_bring_13 : decode cX6_bring 13 = .ok (.iload_n 2, 1) := by decide +kernel
theorem dX6_bring_14 : decode cX6_bring 14 = .ok (.aload_n 1, 1) := by decide +kernel
theorem dX6_bring_15 : decode cX6_bring 15 = .ok (.iload_n 2, 1) := by decide +kernel
theorem dX6_bring_16 : decode cX6_bring 16 = .ok (.iaload, 1) := by decide +kernel
theorem dX6_bring_17 : decode cX6_bring 17 = .ok (.iastore, 1) := by decide +kernel
theorem dX6_bring_18 : decode cX6_bring 18 = .ok (.iinc 2 1, 3) := by decide +kernel
theorem dX6_bring_21 : decode cX6_bring 21 = .ok (.goto (-19), 3) := by decide +kernel
theorem dX6_bring_24 : decode cX6_bring 24 = .ok (.return_, 1) := by decide +kernel
theorem dX6_isRecord_0 : decode cX6_isRecord 0 = .ok (.iload_n 1, 1) := by decide +kernel
theorem dX6_isRecord_1 : decode cX6_isRecord 1 = .ok (.i2l, 1) := by decide +kernel
theorem dX6_isRecord_2 : decode cX6_isRecord 2 = .ok (.lconst 0, 1) := by decide +kernel
theorem dX6_isRecord_3 : decode cX6_isRecord 3 = .ok (.aload_n 0, 1) := by decide +kernel
theorem dX6_isRecord_4 : decode cX6_isRecord 4 = .ok (.getfield 7, 3) := by decide +kernel
theorem dX6_isRecord_7 : decode cX6_isRecord 7 = .ok (.bipush 16, 2) := by decide +kernel
theorem dX6_isRecord_9 : decode cX6_isRecord 9 = .ok (.iaload, 1) := by decide +kernel
theorem dX6_isRecord_10 : decode cX6_isRecord 10 = .ok (.iconst 1, 1) := by decide +kernel
theorem dX6_isRecord_11 : decode cX6_isRecord 11 = .ok (.isub, 1) := by decide +kernel
theorem dX6_isRecord_12 : decode cX6_isRecord 12 = .ok (.i2l, 1) := by decide +kernel
theorem dX6_isRecord_13 : decode cX6_isRecord 13 = .ok (.invokestatic 43, 3) := by decide +kernel
theorem dX6_isRecord_16 : decode cX6_isRecord 16 = .ok (.ireturn, 1) := by decide +kernel
theorem dX6_isPlace_0 : decode cX6_isPlace 0 = .ok (.iload_n 0, 1) := by decide +kernel
theorem dX6_isPlace_1 : decode cX6_isPlace 1 = .ok (.i2l, 1) := by decide +kernel
theorem dX6_isPlace_2 : decode cX6_isPlace 2 = .ok (.lconst 0, 1) := by decide +kernel
theorem dX6_isPlace_3 : decode cX6_isPlace 3 = .ok (.ldc2_w 47, 3) := by decide +kernel
theorem dX6_isPlace_6 : decode cX6_isPlace 6 = .ok (.invokestatic 43, 3) := by decide +kernel
theorem dX6_isPlace_9 : decode cX6_isPlace 9 = .ok (.ireturn, 1) := by decide +kernel
theorem dX6_isSong_0 : decode cX6_isSong 0 = .ok (.iload_n 0, 1) := by decide +kernel
theorem dX6_isSong_1 : decode cX6_isSong 1 = .ok (.i2l, 1) := by decide +kernel
theorem dX6_isSong_2 : decode cX6_isSong 2 = .ok (.lconst 0, 1) := by decide +kernel
theorem dX6_isSong_3 : decode cX6_isSong 3 = .ok (.ldc2_w 49, 3) := by decide +kernel
theorem dX6_isSong_6 : decode cX6_isSong 6 = .ok (.invokestatic 43, 3) := by decide +kernel
theorem dX6_isSong_9 : decode cX6_isSong 9 = .ok (.ireturn, 1) := by decide +kernel
theorem dX6_record_0 : decode cX6_record 0 = .ok (.iload_n 1, 1) := by decide +kernel
theorem dX6_record_1 : decode cX6_record 1 = .ok (.i2l, 1) := by decide +kernel
theorem dX6_record_2 : decode cX6_record 2 = .ok (.lconst 1, 1) := by decide +kernel
theorem dX6_record_3 : decode cX6_record 3 = .ok (.ldc2_w 51, 3) := by decide +kernel
theorem dX6_record_6 : decode cX6_record 6 = .ok (.invokestatic 43, 3) := by decide +kernel
theorem dX6_record_9 : decode cX6_record 9 = .ok (.ifCond .eq 15, 3) := by decide +kernel
theorem dX6_record_12 : decode cX6_record 12 = .ok (.iload_n 2, 1) := by decide +kernel
theorem dX6_record_13 : decode cX6_record 13 = .ok (.i2l, 1) := by decide +kernel
theorem dX6_record_14 : decode cX6_record 14 = .ok (.lconst 1, 1) := by decide +kernel
theorem dX6_record_15 : decode cX6_record 15 = .ok (.ldc2_w 51, 3) := by decide +kernel
theorem dX6_record_18 : decode cX6_record 18 = .ok (.invokestatic 43, 3) := by decide +kernel
theorem dX6_record_21 : decode cX6_record 21 = .ok (.ifCond .ne 5, 3) := by decide +kernel
theorem dX6_record_24 : decode cX6_record 24 = .ok (.iconst (-1), 1) := by decide +kernel
theorem dX6_record_25 : decode cX6_record 25 = .ok (.ireturn, 1) := by decide +kernel
theorem dX6_record_26 : decode cX6_record 26 = .ok (.aload_n 0, 1) := by decide +kernel
theorem dX6_record_27 : decode cX6_record 27 = .ok (.getfield 7, 3) := by decide +kernel
theorem dX6_record_30 : decode cX6_record 30 = .ok (.bipush 16, 2) := by decide +kernel
theorem dX6_record_32 : decode cX6_record 32 = .ok (.iaload, 1) := by decide +kernel
theorem dX6_record_33 : decode cX6_record 33 = .ok (.bipush 16, 2) := by decide +kernel
theorem dX6_record_35 : decode cX6_record 35 = .ok (.if_icmp .ne 6, 3) := by decide +kernel
theorem dX6_record_38 : decode cX6_record 38 = .ok (.bipush (-3), 2) := by decide +kernel
theorem dX6_record_40 : decode cX6_record 40 = .ok (.ireturn, 1) := by decide +kernel
theorem dX6_record_41 : decode cX6_record 41 = .ok (.aload_n 0, 1) := by decide +kernel
theorem dX6_record_42 : decode cX6_record 42 = .ok (.getfield 7, 3) := by decide +kernel
theorem dX6_record_45 : decode cX6_record 45 = .ok (.bipush 90, 2) := by decide +kernel
theorem dX6_record_47 : decode cX6_record 47 = .ok (.iconst 2, 1) := by decide +kernel
theorem dX6_record_48 : decode cX6_record 48 = .ok (.aload_n 0, 1) := by decide +kernel
theorem dX6_record_49 : decode cX6_record 49 = .ok (.getfield 7, 3) := by decide +kernel
theorem dX6_record_52 : decode cX6_record 52 = .ok (.bipush 16, 2) := by decide +kernel
theorem dX6_record_54 : decode cX6_record 54 = .ok (.iaload, 1) := by decide +kernel
theorem dX6_record_55 : decode cX6_record 55 = .ok (.imul, 1) := by decide +kernel
theorem dX6_record_56 : decode cX6_record 56 = .ok (.iadd, 1) := by decide +kernel
theorem dX6_record_57 : decode cX6_record 57 = .ok (.iload_n 1, 1) := by decide +kernel
theorem dX6_record_58 : decode cX6_record 58 = .ok (.iastore, 1) := by decide +kernel
theorem dX6_record_59 : decode cX6_record 59 = .ok (.aload_n 0, 1) := by decide +kernel
theorem dX6_record_60 : decode cX6_record 60 = .ok (.getfield 7, 3) := by decide +kernel
theorem dX6_record_63 : decode cX6_record 63 = .ok (.bipush 90, 2) := by decide +kernel
theorem dX6_record_65 : decode cX6_record 65 = .ok (.iconst 2, 1) := by decide +kernel
theorem dX6_record_66 : decode cX6_record 66 = .ok (.aload_n 0, 1) := by decide +kernel
theorem dX6_record_67 : decode cX6_record 67 = .ok (.getfield 7, 3) := by decide +kernel
theorem dX6_record_70 : decode cX6_record 70 = .ok (.bipush 16, 2) := by decide +kernel
theorem dX6_record_72 : decode cX6_record 72 = .ok (.iaload, 1) := by decide +kernel
theorem dX6_record_73 : decode cX6_record 73 = .ok (.imul, 1) := by decide +kernel
theorem dX6_record_74 : decode cX6_record 74 = .ok (.iadd, 1) := by decide +kernel
theorem dX6_record_75 : decode cX6_record 75 = .ok (.iconst 1, 1) := by decide +kernel
theorem dX6_record_76 : decode cX6_record 76 = .ok (.iadd, 1) := by decide +kernel
theorem dX6_record_77 : decode cX6_record 77 = .ok (.iload_n 2, 1) := by decide +kernel
theorem dX6_record_78 : decode cX6_record 78 = .ok (.iastore, 1) := by decide +kernel
theorem dX6_record_79 : decode cX6_record 79 = .ok (.aload_n 0, 1) := by decide +kernel
theorem dX6_record_80 : decode cX6_record 80 = .ok (.getfield 7, 3) := by decide +kernel
theorem dX6_record_83 : decode cX6_record 83 = .ok (.bipush 16, 2) := by decide +kernel
theorem dX6_record_85 : decode cX6_record 85 = .ok (.dup2, 1) := by decide +kernel
theorem dX6_record_86 : decode cX6_record 86 = .ok (.iaload, 1) := by decide +kernel
theorem dX6_record_87 : decode cX6_record 87 = .ok (.iconst 1, 1) := by decide +kernel
theorem dX6_record_88 : decode cX6_record 88 = .ok (.iadd, 1) := by decide +kernel
theorem dX6_record_89 : decode cX6_record 89 = .ok (.iastore, 1) := by decide +kernel
theorem dX6_record_90 : decode cX6_record 90 = .ok (.aload_n 0, 1) := by decide +kernel
theorem dX6_record_91 : decode cX6_record 91 = .ok (.getfield 7, 3) := by decide +kernel
theorem dX6_record_94 : decode cX6_record 94 = .ok (.bipush 16, 2) := by decide +kernel
theorem dX6_record_96 : decode cX6_record 96 = .ok (.iaload, 1) := by decide +kernel
theorem dX6_record_97 : decode cX6_record 97 = .ok (.iconst 1, 1) := by decide +kernel
theorem dX6_record_98 : decode cX6_record 98 = .ok (.isub, 1) := by decide +kernel
theorem dX6_record_99 : decode cX6_record 99 = .ok (.ireturn, 1) := by decide +kernel
theorem dX6_placeOf_0 : decode cX6_placeOf 0 = .ok (.bipush (-4), 2) := by decide +kernel
theorem dX6_placeOf_2 : decode cX6_placeOf 2 = .ok (.istore_n 2, 1) := by decide +kernel
theorem dX6_placeOf_3 : decode cX6_placeOf 3 = .ok (.iconst 0, 1) := by decide +kernel
theorem dX6_placeOf_4 : decode cX6_placeOf 4 = .ok (.istore_n 3, 1) := by decide +kernel
theorem dX6_placeOf_5 : decode cX6_placeOf 5 = .ok (.iload_n 3, 1) := by decide +kernel
theorem dX6_placeOf_6 : decode cX6_placeOf 6 = .ok (.bipush 10, 2) := by decide +kernel
theorem dX6_placeOf_8 : decode cX6_placeOf 8 = .ok (.if_icmp .ge 28, 3) := by decide +kernel
theorem dX6_placeOf_11 : decode cX6_placeOf 11 = .ok (.aload_n 0, 1) := by decide +kernel
theorem dX6_placeOf_12 : decode cX6_placeOf 12 = .ok (.getfield 7, 3) := by decide +kernel
theorem dX6_placeOf_15 : decode cX6_placeOf 15 = .ok (.bipush 20, 2) := by decide +kernel
theorem dX6_placeOf_17 : decode cX6_placeOf 17 = .ok (.iload_n 3, 1) := by decide +kernel
theorem dX6_placeOf_18 : decode cX6_placeOf 18 = .ok (.iadd, 1) := by decide +kernel
theorem dX6_placeOf_19 : decode cX6_placeOf 19 = .ok (.iaload, 1) := by decide +kernel
theorem dX6_placeOf_20 : decode cX6_placeOf 20 = .ok (.iload_n 1, 1) := by decide +kernel
theorem dX6_placeOf_21 : decode cX6_placeOf 21 = .ok (.if_icmp .ne 7, 3) := by decide +kernel
theorem dX6_placeOf_24 : decode cX6_placeOf 24 = .ok (.iload_n 3, 1) := by decide +kernel
theorem dX6_placeOf_25 : decode cX6_placeOf 25 = .ok (.goto 4, 3) := by decide +kernel
theorem dX6_placeOf_28 : decode cX6_placeOf 28 = .ok (.iload_n 2, 1) := by decide +kernel
theorem dX6_placeOf_29 : decode cX6_placeOf 29 = .ok (.istore_n 2, 1) := by decide +kernel
theorem dX6_placeOf_30 : decode cX6_placeOf 30 = .ok (.iinc 3 1, 3) := by decide +kernel
theorem dX6_placeOf_33 : decode cX6_placeOf 33 = .ok (.goto (-28), 3) := by decide +kernel
theorem dX6_placeOf_36 : decode cX6_placeOf 36 = .ok (.iload_n 2, 1) := by decide +kernel
theorem dX6_placeOf_37 : decode cX6_placeOf 37 = .ok (.ireturn, 1) := by decide +kernel
theorem dX6_isOut_0 : decode cX6_isOut 0 = .ok (.aload_n 0, 1) := by decide +kernel
theorem dX6_isOut_1 : decode cX6_isOut 1 = .ok (.getfield 7, 3) := by decide +kernel
theorem dX6_isOut_4 : decode cX6_isOut 4 = .ok (.iconst 1, 1) := by decide +kernel
theorem dX6_isOut_5 : decode cX6_isOut 5 = .ok (.iaload, 1) := by decide +kernel
theorem dX6_isOut_6 : decode cX6_isOut 6 = .ok (.iload_n 1, 1) := by decide +kernel
theorem dX6_isOut_7 : decode cX6_isOut 7 = .ok (.if_icmp .ne 17, 3) := by decide +kernel
theorem dX6_isOut_10 : decode cX6_isOut 10 = .ok (.aload_n 0, 1) := by decide +kernel
theorem dX6_isOut_11 : decode cX6_isOut 11 = .ok (.getfield 7, 3) := by decide +kernel
theorem dX6_isOut_14 : decode cX6_isOut 14 = .ok (.iconst 3, 1) := by decide +kernel
theorem dX6_isOut_15 : decode cX6_isOut 15 = .ok (.iaload, 1) := by decide +kernel
theorem dX6_isOut_16 : decode cX6_isOut 16 = .ok (.iconst 3, 1) := by decide +kernel
theorem dX6_isOut_17 : decode cX6_isOut 17 = .ok (.if_icmp .lt 7, 3) := by decide +kernel
theorem dX6_isOut_20 : decode cX6_isOut 20 = .ok (.iconst 1, 1) := by decide +kernel
theorem dX6_isOut_21 : decode cX6_isOut 21 = .ok (.goto 4, 3) := by decide +kernel
theorem dX6_isOut_24 : decode cX6_isOut 24 = .ok (.iconst 0, 1) := by decide +kernel
theorem dX6_isOut_25 : decode cX6_isOut 25 = .ok (.ireturn, 1) := by decide +kernel
theorem dX6_change_0 : decode cX6_change 0 = .ok (.iload_n 1, 1) := by decide +kernel
theorem dX6_change_1 : decode cX6_change 1 = .ok (.invokestatic 53, 3) := by decide +kernel
theorem dX6_change_4 : decode cX6_change 4 = .ok (.ifCond .eq 16, 3) := by decide +kernel
theorem dX6_change_7 : decode cX6_change 7 = .ok (.iload_n 2, 1) := by decide +kernel
theorem dX6_change_8 : decode cX6_change 8 = .ok (.iconst (-1), 1) := by decide +kernel
theorem dX6_change_9 : decode cX6_change 9 = .ok (.if_icmp .eq 13, 3) := by decide +kernel
theorem dX6_change_12 : decode cX6_change 12 = .ok (.aload_n 0, 1) := by decide +kernel
theorem dX6_change_13 : decode cX6_change 13 = .ok (.iload_n 2, 1) := by decide +kernel
theorem dX6_change_14 : decode cX6_change 14 = .ok (.invokevirtual 57, 3) := by decide +kernel
theorem dX6_change_17 : decode cX6_change 17 = .ok (.ifCond .ne 5, 3) := by decide +kernel
theorem dX6_change_20 : decode cX6_change 20 = .ok (.iconst (-1), 1) := by decide +kernel
theorem dX6_change_21 : decode cX6_change 21 = .ok (.ireturn, 1) := by decide +kernel
theorem dX6_change_22 : decode cX6_change 22 = .ok (.iload_n 2, 1) := by decide +kernel
theorem dX6_change_23 : decode cX6_change 23 = .ok (.ifCond .ge 8, 3) := by decide +kernel
theorem dX6_change_26 : decode cX6_change 26 = .ok (.bipush (-4), 2) := by decide +kernel
theorem dX6_change_28 : decode cX6_change 28 = .ok (.goto 8, 3) := by decide +kernel
theorem dX6_change_31 : decode cX6_change 31 = .ok (.aload_n 0, 1) := by decide +kernel
theorem dX6_change_32 : decode cX6_change 32 = .ok (.iload_n 2, 1) := by decide +kernel
theorem dX6_change_33 : decode cX6_change 33 = .ok (.invokevirtual 60, 3) := by decide +kernel
theorem dX6_change_36 : decode cX6_change 36 = .ok (.istore_n 3, 1) := by decide +kernel
theorem dX6_change_37 : decode cX6_change 37 = .ok (.aload_n 0, 1) := by decide +kernel
theorem dX6_change_38 : decode cX6_change 38 = .ok (.iload_n 1, 1) := by decide +kernel
theorem dX6_change_39 : decode cX6_change 39 = .ok (.invokevirtual 64, 3) := by decide +kernel
theorem dX6_change_42 : decode cX6_change 42 = .ok (.ifCond .ne 12, 3) := by decide +kernel
theorem dX6_change_45 : decode cX6_change 45 = .ok (.iload_n 3, 1) := by decide +kernel
theorem dX6_change_46 : decode cX6_change 46 = .ok (.ifCond .lt 11, 3) := by decide +kernel
theorem dX6_change_49 : decode cX6_change 49 = .ok (.iload_n 3, 1) := by decide +kernel
theorem dX6_change_50 : decode cX6_change 50 = .ok (.iload_n 1, 1) := by decide +kernel
theorem dX6_change_51 : decode cX6_change 51 = .ok (.if_icmp .eq 6, 3) := by decide +kernel
theorem dX6_change_54 : decode cX6_change 54 = .ok (.bipush (-2), 2) := by decide +kernel
theorem dX6_change_56 : decode cX6_change 56 = .ok (.ireturn, 1) := by decide +kernel
theorem dX6_change_57 : decode cX6_change 57 = .ok (.aload_n 0, 1) := by decide +kernel
theorem dX6_change_58 : decode cX6_change 58 = .ok (.getfield 7, 3) := by decide +kernel
theorem dX6_change_61 : decode cX6_change 61 = .ok (.bipush 20, 2) := by decide +kernel
theorem dX6_change_63 : decode cX6_change 63 = .ok (.iload_n 1, 1) := by decide +kernel
theorem dX6_change_64 : decode cX6_change 64 = .ok (.iadd, 1) := by decide +kernel
theorem dX6_change_65 : decode cX6_change 65 = .ok (.iaload, 1) := by decide +kernel
theorem dX6_change_66 : decode cX6_change 66 = .ok (.istore 4, 2) := by decide +kernel
theorem dX6_change_68 : decode cX6_change 68 = .ok (.aload_n 0, 1) := by decide +kernel
theorem dX6_change_69 : decode cX6_change 69 = .ok (.getfield 7, 3) := by decide +kernel
theorem dX6_change_72 : decode cX6_change 72 = .ok (.bipush 20, 2) := by decide +kernel
theorem dX6_change_74 : decode cX6_change 74 = .ok (.iload_n 1, 1) := by decide +kernel
theorem dX6_change_75 : decode cX6_change 75 = .ok (.iadd, 1) := by decide +kernel
theorem dX6_change_76 : decode cX6_change 76 = .ok (.iload_n 2, 1) := by decide +kernel
theorem dX6_change_77 : decode cX6_change 77 = .ok (.ifCond .ge 8, 3) := by decide +kernel
theorem dX6_change_80 : decode cX6_change 80 = .ok (.bipush (-4), 2) := by decide +kernel
theorem dX6_change_82 : decode cX6_change 82 = .ok (.goto 4, 3) := by decide +kernel
theorem dX6_change_85 : decode cX6_change 85 = .ok (.iload_n 2, 1) := by decide +kernel
theorem dX6_change_86 : decode cX6_change 86 = .ok (.iastore, 1) := by decide +kernel
theorem dX6_change_87 : decode cX6_change 87 = .ok (.iload 4, 2) := by decide +kernel
theorem dX6_change_89 : decode cX6_change 89 = .ok (.ireturn, 1) := by decide +kernel
theorem dX6_told_0 : decode cX6_told 0 = .ok (.aload_n 0, 1) := by decide +kernel
theorem dX6_told_1 : decode cX6_told 1 = .ok (.iload_n 1, 1) := by decide +kernel
theorem dX6_told_2 : decode cX6_told 2 = .ok (.invokevirtual 57, 3) := by decide +kernel
theorem dX6_told_5 : decode cX6_told 5 = .ok (.ifCond .ne 5, 3) := by decide +kernel
theorem dX6_told_8 : decode cX6_told 8 = .ok (.iconst (-1), 1) := by decide +kernel
theorem dX6_told_9 : decode cX6_told 9 = .ok (.ireturn, 1) := by decide +kernel
theorem dX6_told_10 : decode cX6_told 10 = .ok (.iload_n 2, 1) := by decide +kernel
theorem dX6_told_11 : decode cX6_told 11 = .ok (.tableswitch 69 0 4 #[33, 33, 47, 47, 63], 33) := by decide +kernel
theorem dX6_told_44 : decode cX6_told 44 = .ok (.aload_n 0, 1) := by decide +kernel
theorem dX6_told_45 : decode cX6_told 45 = .ok (.getfield 7, 3) := by decide +kernel
theorem dX6_told_48 : decode cX6_told 48 = .ok (.bipush 90, 2) := by decide +kernel
theorem dX6_told_50 : decode cX6_told 50 = .ok (.iconst 2, 1) := by decide +kernel
theorem dX6_told_51 : decode cX6_told 51 = .ok (.iload_n 1, 1) := by decide +kernel
theorem dX6_told_52 : decode cX6_told 52 = .ok (.imul, 1) := by decide +kernel
theorem dX6_told_53 : decode cX6_told 53 = .ok (.iadd, 1) := by decide +kernel
theorem dX6_told_54 : decode cX6_told 54 = .ok (.iload_n 2, 1) := by decide +kernel
theorem dX6_told_55 : decode cX6_told 55 = .ok (.iadd, 1) := by decide +kernel
theorem dX6_told_56 : decode cX6_told 56 = .ok (.iaload, 1) := by decide +kernel
theorem dX6_told_57 : decode cX6_told 57 = .ok (.ireturn, 1) := by decide +kernel
theorem dX6_told_58 : decode cX6_told 58 = .ok (.aload_n 0, 1) := by decide +kernel
theorem dX6_told_59 : decode cX6_told 59 = .ok (.getfield 7, 3) := by decide +kernel
theorem dX6_told_62 : decode cX6_told 62 = .ok (.bipush 122, 2) := by decide +kernel
theorem dX6_told_64 : decode cX6_told 64 = .ok (.iconst 2, 1) := by decide +kernel
theorem dX6_told_65 : decode cX6_told 65 = .ok (.iload_n 1, 1) := by decide +kernel
theorem dX6_told_66 : decode cX6_told 66 = .ok (.imul, 1) := by decide +kernel
theorem dX6_told_67 : decode cX6_told 67 = .ok (.iadd, 1) := by decide +kernel
theorem dX6_told_68 : decode cX6_told 68 = .ok (.iload_n 2, 1) := by decide +kernel
theorem dX6_told_69 : decode cX6_told 69 = .ok (.iadd, 1) := by decide +kernel
theorem dX6_told_70 : decode cX6_told 70 = .ok (.iconst 2, 1) := by decide +kernel
theorem dX6_told_71 : decode cX6_told 71 = .ok (.isub, 1) := by decide +kernel
theorem dX6_told_72 : decode cX6_told 72 = .ok (.iaload, 1) := by decide +kernel
theorem dX6_told_73 : decode cX6_told 73 = .ok (.ireturn, 1) := by decide +kernel
theorem dX6_told_74 : decode cX6_told 74 = .ok (.aload_n 0, 1) := by decide +kernel
theorem dX6_told_75 : decode cX6_told 75 = .ok (.iload_n 1, 1) := by decide +kernel
theorem dX6_told_76 : decode cX6_told 76 = .ok (.invokevirtual 60, 3) := by decide +kernel
theorem dX6_told_79 : decode cX6_told 79 = .ok (.ireturn, 1) := by decide +kernel
theorem dX6_told_80 : decode cX6_told 80 = .ok (.iconst (-1), 1) := by decide +kernel
theorem dX6_told_81 : decode cX6_told 81 = .ok (.ireturn, 1) := by decide +kernel
theorem dX6_song_0 : decode cX6_song 0 = .ok (.iload_n 1, 1) := by decide +kernel
theorem dX6_song_1 : decode cX6_song 1 = .ok (.invokestatic 67, 3) := by decide +kernel
theorem dX6_song_4 : decode cX6_song 4 = .ok (.ifCond .ne 5, 3) := by decide +kernel
theorem dX6_song_7 : decode cX6_song 7 = .ok (.iconst (-1), 1) := by decide +kernel
theorem dX6_song_8 : decode cX6_song 8 = .ok (.ireturn, 1) := by decide +kernel
theorem dX6_song_9 : decode cX6_song 9 = .ok (.iload_n 2, 1) := by decide +kernel
theorem dX6_song_10 : decode cX6_song 10 = .ok (.tableswitch 72 0 3 #[30, 40, 50, 60], 30) := by decide +kernel
theorem dX6_song_40 : decode cX6_song 40 = .ok (.aload_n 0, 1) := by decide +kernel
theorem dX6_song_41 : decode cX6_song 41 = .ok (.getfield 7, 3) := by decide +kernel
theorem dX6_song_44 : decode cX6_song 44 = .ok (.bipush 30, 2) := by decide +kernel
theorem dX6_song_46 : decode cX6_song 46 = .ok (.iload_n 1, 1) := by decide +kernel
theorem dX6_song_47 : decode cX6_song 47 = .ok (.iadd, 1) := by decide +kernel
theorem dX6_song_48 : decode cX6_song 48 = .ok (.iaload, 1) := by decide +kernel
theorem dX6_song_49 : decode cX6_song 49 = .ok (.ireturn, 1) := by decide +kernel
theorem dX6_song_50 : decode cX6_song 50 = .ok (.aload_n 0, 1) := by decide +kernel
theorem dX6_song_51 : decode cX6_song 51 = .ok (.getfield 7, 3) := by decide +kernel
theorem dX6_song_54 : decode cX6_song 54 = .ok (.bipush 50, 2) := by decide +kernel
theorem dX6_song_56 : decode cX6_song 56 = .ok (.iload_n 1, 1) := by decide +kernel
theorem dX6_song_57 : decode cX6_song 57 = .ok (.iadd, 1) := by decide +kernel
theorem dX6_song_58 : decode cX6_song 58 = .ok (.iaload, 1) := by decide +kernel
theorem dX6_song_59 : decode cX6_song 59 = .ok (.ireturn, 1) := by decide +kernel
theorem dX6_song_60 : decode cX6_song 60 = .ok (.aload_n 0, 1) := by decide +kernel
theorem dX6_song_61 : decode cX6_song 61 = .ok (.getfield 7, 3) := by decide +kernel
theorem dX6_song_64 : decode cX6_song 64 = .ok (.bipush 70, 2) := by decide +kernel
theorem dX6_song_66 : decode cX6_song 66 = .ok (.iload_n 1, 1) := by decide +kernel
theorem dX6_song_67 : decode cX6_song 67 = .ok (.iadd, 1) := by decide +kernel
theorem dX6_song_68 : decode cX6_song 68 = .ok (.iaload, 1) := by decide +kernel
theorem dX6_song_69 : decode cX6_song 69 = .ok (.ireturn, 1) := by decide +kernel
theorem dX6_song_70 : decode cX6_song 70 = .ok (.aload_n 0, 1) := by decide +kernel
theorem dX6_song_71 : decode cX6_song 71 = .ok (.getfield 7, 3) := by decide +kernel
theorem dX6_song_74 : decode cX6_song 74 = .ok (.bipush 20, 2) := by decide +kernel
theorem dX6_song_76 : decode cX6_song 76 = .ok (.iload_n 1, 1) := by decide +kernel
theorem dX6_song_77 : decode cX6_song 77 = .ok (.iconst 2, 1) := by decide +kernel
theorem dX6_song_78 : decode cX6_song 78 = .ok (.idiv, 1) := by decide +kernel
theorem dX6_song_79 : decode cX6_song 79 = .ok (.iadd, 1) := by decide +kernel
theorem dX6_song_80 : decode cX6_song 80 = .ok (.iaload, 1) := by decide +kernel
theorem dX6_song_81 : decode cX6_song 81 = .ok (.ireturn, 1) := by decide +kernel
theorem dX6_song_82 : decode cX6_song 82 = .ok (.iconst (-1), 1) := by decide +kernel
theorem dX6_song_83 : decode cX6_song 83 = .ok (.ireturn, 1) := by decide +kernel
theorem dX6_stick_0 : decode cX6_stick 0 = .ok (.iload_n 1, 1) := by decide +kernel
theorem dX6_stick_1 : decode cX6_stick 1 = .ok (.invokestatic 67, 3) := by decide +kernel
theorem dX6_stick_4 : decode cX6_stick 4 = .ok (.ifCond .eq 15, 3) := by decide +kernel
theorem dX6_stick_7 : decode cX6_stick 7 = .ok (.iload_n 2, 1) := by decide +kernel
theorem dX6_stick_8 : decode cX6_stick 8 = .ok (.i2l, 1) := by decide +kernel
theorem dX6_stick_9 : decode cX6_stick 9 = .ok (.lconst 0, 1) := by decide +kernel
theorem dX6_stick_10 : decode cX6_stick 10 = .ok (.ldc2_w 70, 3) := by decide +kernel
theorem dX6_stick_13 : decode cX6_stick 13 = .ok (.invokestatic 43, 3) := by decide +kernel
theorem dX6_stick_16 : decode cX6_stick 16 = .ok (.ifCond .ne 5, 3) := by decide +kernel
theorem dX6_stick_19 : decode cX6_stick 19 = .ok (.iconst (-1), 1) := by decide +kernel
theorem dX6_stick_20 : decode cX6_stick 20 = .ok (.ireturn, 1) := by decide +kernel
theorem dX6_stick_21 : decode cX6_stick 21 = .ok (.aload_n 0, 1) := by decide +kernel
theorem dX6_stick_22 : decode cX6_stick 22 = .ok (.getfield 7, 3) := by decide +kernel
theorem dX6_stick_25 : decode cX6_stick 25 = .ok (.bipush 50, 2) := by decide +kernel
theorem dX6_stick_27 : decode cX6_stick 27 = .ok (.iload_n 1, 1) := by decide +kernel
theorem dX6_stick_28 : decode cX6_stick 28 = .ok (.iadd, 1) := by decide +kernel
theorem dX6_stick_29 : decode cX6_stick 29 = .ok (.iaload, 1) := by decide +kernel
theorem dX6_stick_30 : decode cX6_stick 30 = .ok (.istore_n 3, 1) := by decide +kernel
theorem dX6_stick_31 : decode cX6_stick 31 = .ok (.aload_n 0, 1) := by decide +kernel
theorem dX6_stick_32 : decode cX6_stick 32 = .ok (.getfield 7, 3) := by decide +kernel
theorem dX6_stick_35 : decode cX6_stick 35 = .ok (.bipush 50, 2) := by decide +kernel
theorem dX6_stick_37 : decode cX6_stick 37 = .ok (.iload_n 1, 1) := by decide +kernel
theorem dX6_stick_38 : decode cX6_stick 38 = .ok (.iadd, 1) := by decide +kernel
theorem dX6_stick_39 : decode cX6_stick 39 = .ok (.iload_n 2, 1) := by decide +kernel
theorem dX6_stick_40 : decode cX6_stick 40 = .ok (.iastore, 1) := by decide +kernel
theorem dX6_stick_41 : decode cX6_stick 41 = .ok (.aload_n 0, 1) := by decide +kernel
theorem dX6_stick_42 : decode cX6_stick 42 = .ok (.getfield 7, 3) := by decide +kernel
theorem dX6_stick_45 : decode cX6_stick 45 = .ok (.bipush 30, 2) := by decide +kernel
theorem dX6_stick_47 : decode cX6_stick 47 = .ok (.iload_n 1, 1) := by decide +kernel
theorem dX6_stick_48 : decode cX6_stick 48 = .ok (.iadd, 1) := by decide +kernel
theorem dX6_stick_49 : decode cX6_stick 49 = .ok (.iload_n 2, 1) := by decide +kernel
theorem dX6_stick_50 : decode cX6_stick 50 = .ok (.iconst 1, 1) := by decide +kernel
theorem dX6_stick_51 : decode cX6_stick 51 = .ok (.if_icmp .ne 7, 3) := by decide +kernel
theorem dX6_stick_54 : decode cX6_stick 54 = .ok (.iconst 1, 1) := by decide +kernel
theorem dX6_stick_55 : decode cX6_stick 55 = .ok (.goto 21, 3) := by decide +kernel
theorem dX6_stick_58 : decode cX6_stick 58 = .ok (.iload_n 2, 1) := by decide +kernel
theorem dX6_stick_59 : decode cX6_stick 59 = .ok (.iconst 2, 1) := by decide +kernel
theorem dX6_stick_60 : decode cX6_stick 60 = .ok (.if_icmp .ne 7, 3) := by decide +kernel
theorem dX6_stick_63 : decode cX6_stick 63 = .ok (.iconst 0, 1) := by decide +kernel
theorem dX6_stick_64 : decode cX6_stick 64 = .ok (.goto 12, 3) := by decide +kernel
theorem dX6_stick_67 : decode cX6_stick 67 = .ok (.aload_n 0, 1) := by decide +kernel
theorem dX6_stick_68 : decode cX6_stick 68 = .ok (.getfield 7, 3) := by decide +kernel
theorem dX6_stick_71 : decode cX6_stick 71 = .ok (.bipush 30, 2) := by decide +kernel
theorem dX6_stick_73 : decode cX6_stick 73 = .ok (.iload_n 1, 1) := by decide +kernel
theorem dX6_stick_74 : decode cX6_stick 74 = .ok (.iadd, 1) := by decide +kernel
theorem dX6_stick_75 : decode cX6_stick 75 = .ok (.iaload, 1) := by decide +kernel
theorem dX6_stick_76 : decode cX6_stick 76 = .ok (.iastore, 1) := by decide +kernel
theorem dX6_stick_77 : decode cX6_stick 77 = .ok (.iload_n 3, 1) := by decide +kernel
theorem dX6_stick_78 : decode cX6_stick 78 = .ok (.ireturn, 1) := by decide +kernel
theorem dX6_prices_0 : decode cX6_prices 0 = .ok (.iload_n 1, 1) := by decide +kernel
theorem dX6_prices_1 : decode cX6_prices 1 = .ok (.i2l, 1) := by decide +kernel
theorem dX6_prices_2 : decode cX6_prices 2 = .ok (.lconst 1, 1) := by decide +kernel
theorem dX6_prices_3 : decode cX6_prices 3 = .ok (.ldc2_w 72, 3) := by decide +kernel
theorem dX6_prices_6 : decode cX6_prices 6 = .ok (.invokestatic 43, 3) := by decide +kernel
theorem dX6_prices_9 : decode cX6_prices 9 = .ok (.ifCond .eq 28, 3) := by decide +kernel
theorem dX6_prices_12 : decode cX6_prices 12 = .ok (.iload_n 2, 1) := by decide +kernel
theorem dX6_prices_13 : decode cX6_prices 13 = .ok (.i2l, 1) := by decide +kernel
theorem dX6_prices_14 : decode cX6_prices 14 = .ok (.iload_n 1, 1) := by decide +kernel
theorem dX6_prices_15 : decode cX6_prices 15 = .ok (.i2l, 1) := by decide +kernel
theorem dX6_prices_16 : decode cX6_prices 16 = .ok (.ldc2_w 74, 3) := by decide +kernel
theorem dX6_prices_19 : decode cX6_prices 19 = .ok (.invokestatic 43, 3) := by decide +kernel
theorem dX6_prices_22 : decode cX6_prices 22 = .ok (.ifCond .eq 15, 3) := by decide +kernel
theorem dX6_prices_25 : decode cX6_prices 25 = .ok (.iload_n 3, 1) := by decide +kernel
theorem dX6_prices_26 : decode cX6_prices 26 = .ok (.i2l, 1) := by decide +kernel
theorem dX6_prices_27 : decode cX6_prices 27 = .ok (.lconst 1, 1) := by decide +kernel
theorem dX6_prices_28 : decode cX6_prices 28 = .ok (.ldc2_w 76, 3) := by decide +kernel
theorem dX6_prices_31 : decode cX6_prices 31 = .ok (.invokestatic 43, 3) := by decide +kernel
theorem dX6_prices_34 : decode cX6_prices 34 = .ok (.ifCond .ne 5, 3) := by decide +kernel
theorem dX6_prices_37 : decode cX6_prices 37 = .ok (.iconst (-1), 1) := by decide +kernel
theorem dX6_prices_38 : decode cX6_prices 38 = .ok (.ireturn, 1) := by decide +kernel
theorem dX6_prices_39 : decode cX6_prices 39 = .ok (.aload_n 0, 1) := by decide +kernel
theorem dX6_prices_40 : decode cX6_prices 40 = .ok (.getfield 7, 3) := by decide +kernel
theorem dX6_prices_43 : decode cX6_prices 43 = .ok (.bipush 11, 2) := by decide +kernel
theorem dX6_prices_45 : decode cX6_prices 45 = .ok (.iload_n 1, 1) := by decide +kernel
theorem dX6_prices_46 : decode cX6_prices 46 = .ok (.iastore, 1) := by decide +kernel
theorem dX6_prices_47 : decode cX6_prices 47 = .ok (.aload_n 0, 1) := by decide +kernel
theorem dX6_prices_48 : decode cX6_prices 48 = .ok (.getfield 7, 3) := by decide +kernel
theorem dX6_prices_51 : decode cX6_prices 51 = .ok (.bipush 12, 2) := by decide +kernel
theorem dX6_prices_53 : decode cX6_prices 53 = .ok (.iload_n 2, 1) := by decide +kernel
theorem dX6_prices_54 : decode cX6_prices 54 = .ok (.iastore, 1) := by decide +kernel
theorem dX6_prices_55 : decode cX6_prices 55 = .ok (.aload_n 0, 1) := by decide +kernel
theorem dX6_prices_56 : decode cX6_prices 56 = .ok (.getfield 7, 3) := by decide +kernel
theorem dX6_prices_59 : decode cX6_prices 59 = .ok (.bipush 13, 2) := by decide +kernel
theorem dX6_prices_61 : decode cX6_prices 61 = .ok (.iload_n 3, 1) := by decide +kernel
theorem dX6_prices_62 : decode cX6_prices 62 = .ok (.iastore, 1) := by decide +kernel
theorem dX6_prices_63 : decode cX6_prices 63 = .ok (.aload_n 0, 1) := by decide +kernel
theorem dX6_prices_64 : decode cX6_prices 64 = .ok (.getfield 7, 3) := by decide +kernel
theorem dX6_prices_67 : decode cX6_prices 67 = .ok (.bipush 9, 2) := by decide +kernel
theorem dX6_prices_69 : decode cX6_prices 69 = .ok (.iconst 0, 1) := by decide +kernel
theorem dX6_prices_70 : decode cX6_prices 70 = .ok (.iastore, 1) := by decide +kernel
theorem dX6_prices_71 : decode cX6_prices 71 = .ok (.iconst 1, 1) := by decide +kernel
theorem dX6_prices_72 : decode cX6_prices 72 = .ok (.ireturn, 1) := by decide +kernel
theorem dX6_owes_0 : decode cX6_owes 0 = .ok (.aload_n 0, 1) := by decide +kernel
theorem dX6_owes_1 : decode cX6_owes 1 = .ok (.getfield 7, 3) := by decide +kernel
theorem dX6_owes_4 : decode cX6_owes 4 = .ok (.bipush 13, 2) := by decide +kernel
theorem dX6_owes_6 : decode cX6_owes 6 = .ok (.iaload, 1) := by decide +kernel
theorem dX6_owes_7 : decode cX6_owes 7 = .ok (.aload_n 0, 1) := by decide +kernel
theorem dX6_owes_8 : decode cX6_owes 8 = .ok (.getfield 7, 3) := by decide +kernel
theorem dX6_owes_11 : decode cX6_owes 11 = .ok (.bipush 9, 2) := by decide +kernel
theorem dX6_owes_13 : decode cX6_owes 13 = .ok (.iaload, 1) := by decide +kernel
theorem dX6_owes_14 : decode cX6_owes 14 = .ok (.aload_n 0, 1) := by decide +kernel
theorem dX6_owes_15 : decode cX6_owes 15 = .ok (.getfield 7, 3) := by decide +kernel
theorem dX6_owes_18 : decode cX6_owes 18 = .ok (.bipush 12, 2) := by decide +kernel
theorem dX6_owes_20 : decode cX6_owes 20 = .ok (.iaload, 1) := by decide +kernel
theorem dX6_owes_21 : decode cX6_owes 21 = .ok (.idiv, 1) := by decide +kernel
theorem dX6_owes_22 : decode cX6_owes 22 = .ok (.imul, 1) := by decide +kernel
theorem dX6_owes_23 : decode cX6_owes 23 = .ok (.aload_n 0, 1) := by decide +kernel
theorem dX6_owes_24 : decode cX6_owes 24 = .ok (.getfield 7, 3) := by decide +kernel
theorem dX6_owes_27 : decode cX6_owes 27 = .ok (.bipush 9, 2) := by decide +kernel
theorem dX6_owes_29 : decode cX6_owes 29 = .ok (.iaload, 1) := by decide +kernel
theorem dX6_owes_30 : decode cX6_owes 30 = .ok (.aload_n 0, 1) := by decide +kernel
theorem dX6_owes_31 : decode cX6_owes 31 = .ok (.getfield 7, 3) := by decide +kernel
theorem dX6_owes_34 : decode cX6_owes 34 = .ok (.bipush 12, 2) := by decide +kernel
theorem dX6_owes_36 : decode cX6_owes 36 = .ok (.iaload, 1) := by decide +kernel
theorem dX6_owes_37 : decode cX6_owes 37 = .ok (.irem, 1) := by decide +kernel
theorem dX6_owes_38 : decode cX6_owes 38 = .ok (.aload_n 0, 1) := by decide +kernel
theorem dX6_owes_39 : decode cX6_owes 39 = .ok (.getfield 7, 3) := by decide +kernel
theorem dX6_owes_42 : decode cX6_owes 42 = .ok (.bipush 11, 2) := by decide +kernel
theorem dX6_owes_44 : decode cX6_owes 44 = .ok (.iaload, 1) := by decide +kernel
theorem dX6_owes_45 : decode cX6_owes 45 = .ok (.idiv, 1) := by decide +kernel
theorem dX6_owes_46 : decode cX6_owes 46 = .ok (.iadd, 1) := by decide +kernel
theorem dX6_owes_47 : decode cX6_owes 47 = .ok (.ireturn, 1) := by decide +kernel
theorem dX6_coin_0 : decode cX6_coin 0 = .ok (.iload_n 1, 1) := by decide +kernel
theorem dX6_coin_1 : decode cX6_coin 1 = .ok (.i2l, 1) := by decide +kernel
theorem dX6_coin_2 : decode cX6_coin 2 = .ok (.lconst 1, 1) := by decide +kernel
theorem dX6_coin_3 : decode cX6_coin 3 = .ok (.ldc2_w 72, 3) := by decide +kernel
theorem dX6_coin_6 : decode cX6_coin 6 = .ok (.invokestatic 43, 3) := by decide +kernel
theorem dX6_coin_9 : decode cX6_coin 9 = .ok (.ifCond .ne 5, 3) := by decide +kernel
theorem dX6_coin_12 : decode cX6_coin 12 = .ok (.iconst (-1), 1) := by decide +kernel
theorem dX6_coin_13 : decode cX6_coin 13 = .ok (.ireturn, 1) := by decide +kernel
theorem dX6_coin_14 : decode cX6_coin 14 = .ok (.aload_n 0, 1) := by decide +kernel
theorem dX6_coin_15 : decode cX6_coin 15 = .ok (.invokevirtual 78, 3) := by decide +kernel
theorem dX6_coin_18 : decode cX6_coin 18 = .ok (.istore_n 2, 1) := by decide +kernel
theorem dX6_coin_19 : decode cX6_coin 19 = .ok (.aload_n 0, 1) := by decide +kernel
theorem dX6_coin_20 : decode cX6_coin 20 = .ok (.getfield 7, 3) := by decide +kernel
theorem dX6_coin_23 : decode cX6_coin 23 = .ok (.bipush 9, 2) := by decide +kernel
theorem dX6_coin_25 : decode cX6_coin 25 = .ok (.dup2, 1) := by decide +kernel
theorem dX6_coin_26 : decode cX6_coin 26 = .ok (.iaload, 1) := by decide +kernel
theorem dX6_coin_27 : decode cX6_coin 27 = .ok (.iload_n 1, 1) := by decide +kernel
theorem dX6_coin_28 : decode cX6_coin 28 = .ok (.iadd, 1) := by decide +kernel
theorem dX6_coin_29 : decode cX6_coin 29 = .ok (.iastore, 1) := by decide +kernel
theorem dX6_coin_30 : decode cX6_coin 30 = .ok (.aload_n 0, 1) := by decide +kernel
theorem dX6_coin_31 : decode cX6_coin 31 = .ok (.getfield 7, 3) := by decide +kernel
theorem dX6_coin_34 : decode cX6_coin 34 = .ok (.bipush 10, 2) := by decide +kernel
theorem dX6_coin_36 : decode cX6_coin 36 = .ok (.dup2, 1) := by decide +kernel
theorem dX6_coin_37 : decode cX6_coin 37 = .ok (.iaload, 1) := by decide +kernel
theorem dX6_coin_38 : decode cX6_coin 38 = .ok (.iload_n 1, 1) := by decide +kernel
theorem dX6_coin_39 : decode cX6_coin 39 = .ok (.iadd, 1) := by decide +kernel
theorem dX6_coin_40 : decode cX6_coin 40 = .ok (.iastore, 1) := by decide +kernel
theorem dX6_coin_41 : decode cX6_coin 41 = .ok (.aload_n 0, 1) := by decide +kernel
theorem dX6_coin_42 : decode cX6_coin 42 = .ok (.getfield 7, 3) := by decide +kernel
theorem dX6_coin_45 : decode cX6_coin 45 = .ok (.bipush 7, 2) := by decide +kernel
theorem dX6_coin_47 : decode cX6_coin 47 = .ok (.dup2, 1) := by decide +kernel
theorem dX6_coin_48 : decode cX6_coin 48 = .ok (.iaload, 1) := by decide +kernel
theorem dX6_coin_49 : decode cX6_coin 49 = .ok (.aload_n 0, 1) := by decide +kernel
theorem dX6_coin_50 : decode cX6_coin 50 = .ok (.invokevirtual 78, 3) := by decide +kernel
theorem dX6_coin_53 : decode cX6_coin 53 = .ok (.iload_n 2, 1) := by decide +kernel
theorem dX6_coin_54 : decode cX6_coin 54 = .ok (.if_icmp .le 12, 3) := by decide +kernel
theorem dX6_coin_57 : decode cX6_coin 57 = .ok (.aload_n 0, 1) := by decide +kernel
theorem dX6_coin_58 : decode cX6_coin 58 = .ok (.invokevirtual 78, 3) := by decide +kernel
theorem dX6_coin_61 : decode cX6_coin 61 = .ok (.iload_n 2, 1) := by decide +kernel
theorem dX6_coin_62 : decode cX6_coin 62 = .ok (.isub, 1) := by decide +kernel
theorem dX6_coin_63 : decode cX6_coin 63 = .ok (.goto 4, 3) := by decide +kernel
theorem dX6_coin_66 : decode cX6_coin 66 = .ok (.iconst 0, 1) := by decide +kernel
theorem dX6_coin_67 : decode cX6_coin 67 = .ok (.iadd, 1) := by decide +kernel
theorem dX6_coin_68 : decode cX6_coin 68 = .ok (.iastore, 1) := by decide +kernel
theorem dX6_coin_69 : decode cX6_coin 69 = .ok (.aload_n 0, 1) := by decide +kernel
theorem dX6_coin_70 : decode cX6_coin 70 = .ok (.getfield 7, 3) := by decide +kernel
theorem dX6_coin_73 : decode cX6_coin 73 = .ok (.bipush 7, 2) := by decide +kernel
theorem dX6_coin_75 : decode cX6_coin 75 = .ok (.iaload, 1) := by decide +kernel
theorem dX6_coin_76 : decode cX6_coin 76 = .ok (.ireturn, 1) := by decide +kernel
theorem dX6_set_0 : decode cX6_set 0 = .ok (.iload_n 1, 1) := by decide +kernel
theorem dX6_set_1 : decode cX6_set 1 = .ok (.ifCond .ne 16, 3) := by decide +kernel
theorem dX6_set_4 : decode cX6_set 4 = .ok (.iload_n 2, 1) := by decide +kernel
theorem dX6_set_5 : decode cX6_set 5 = .ok (.i2l, 1) := by decide +kernel
theorem dX6_set_6 : decode cX6_set 6 = .ok (.lconst 0, 1) := by decide +kernel
theorem dX6_set_7 : decode cX6_set 7 = .ok (.lconst 1, 1) := by decide +kernel
theorem dX6_set_8 : decode cX6_set 8 = .ok (.invokestatic 43, 3) := by decide +kernel
theorem dX6_set_11 : decode cX6_set 11 = .ok (.ifCond .ne 25, 3) := by decide +kernel
theorem dX6_set_14 : decode cX6_set 14 = .ok (.goto 20, 3) := by decide +kernel
theorem dX6_set_17 : decode cX6_set 17 = .ok (.iload_n 1, 1) := by decide +kernel
theorem dX6_set_18 : decode cX6_set 18 = .ok (.iconst 1, 1) := by decide +kernel
theorem dX6_set_19 : decode cX6_set 19 = .ok (.if_icmp .ne 15, 3) := by decide +kernel
theorem dX6_set_22 : decode cX6_set 22 = .ok (.iload_n 2, 1) := by decide +kernel
theorem dX6_set_23 : decode cX6_set 23 = .ok (.i2l, 1) := by decide +kernel
theorem dX6_set_24 : decode cX6_set 24 = .ok (.lconst 1, 1) := by decide +kernel
theorem dX6_set_25 : decode cX6_set 25 = .ok (.ldc2_w 72, 3) := by decide +kernel
theorem dX6_set_28 : decode cX6_set 28 = .ok (.invokestatic 43, 3) := by decide +kernel
theorem dX6_set_31 : decode cX6_set 31 = .ok (.ifCond .ne 5, 3) := by decide +kernel
theorem dX6_set_34 : decode cX6_set 34 = .ok (.iconst (-1), 1) := by decide +kernel
theorem dX6_set_35 : decode cX6_set 35 = .ok (.ireturn, 1) := by decide +kernel
theorem dX6_set_36 : decode cX6_set 36 = .ok (.aload_n 0, 1) := by decide +kernel
theorem dX6_set_37 : decode cX6_set 37 = .ok (.getfield 7, 3) := by decide +kernel
theorem dX6_set_40 : decode cX6_set 40 = .ok (.bipush 14, 2) := by decide +kernel
theorem dX6_set_42 : decode cX6_set 42 = .ok (.iload_n 1, 1) := by decide +kernel
theorem dX6_set_43 : decode cX6_set 43 = .ok (.iadd, 1) := by decide +kernel
theorem dX6_set_44 : decode cX6_set 44 = .ok (.iaload, 1) := by decide +kernel
theorem dX6_set_45 : decode cX6_set 45 = .ok (.istore_n 3, 1) := by decide +kernel
theorem dX6_set_46 : decode cX6_set 46 = .ok (.aload_n 0, 1) := by decide +kernel
theorem dX6_set_47 : decode cX6_set 47 = .ok (.getfield 7, 3) := by decide +kernel
theorem dX6_set_50 : decode cX6_set 50 = .ok (.bipush 14, 2) := by decide +kernel
theorem dX6_set_52 : decode cX6_set 52 = .ok (.iload_n 1, 1) := by decide +kernel
theorem dX6_set_53 : decode cX6_set 53 = .ok (.iadd, 1) := by decide +kernel
theorem dX6_set_54 : decode cX6_set 54 = .ok (.iload_n 2, 1) := by decide +kernel
theorem dX6_set_55 : decode cX6_set 55 = .ok (.iastore, 1) := by decide +kernel
theorem dX6_set_56 : decode cX6_set 56 = .ok (.iload_n 3, 1) := by decide +kernel
theorem dX6_set_57 : decode cX6_set 57 = .ok (.ireturn, 1) := by decide +kernel
theorem dX6_key_0 : decode cX6_key 0 = .ok (.iload_n 1, 1) := by decide +kernel
theorem dX6_key_1 : decode cX6_key 1 = .ok (.invokestatic 67, 3) := by decide +kernel
theorem dX6_key_4 : decode cX6_key 4 = .ok (.ifCond .ne 5, 3) := by decide +kernel
theorem dX6_key_7 : decode cX6_key 7 = .ok (.iconst (-1), 1) := by decide +kernel
theorem dX6_key_8 : decode cX6_key 8 = .ok (.ireturn, 1) := by decide +kernel
theorem dX6_key_9 : decode cX6_key 9 = .ok (.aload_n 0, 1) := by decide +kernel
theorem dX6_key_10 : decode cX6_key 10 = .ok (.getfield 7, 3) := by decide +kernel
theorem dX6_key_13 : decode cX6_key 13 = .ok (.bipush 7, 2) := by decide +kernel
theorem dX6_key_15 : decode cX6_key 15 = .ok (.iaload, 1) := by decide +kernel
theorem dX6_key_16 : decode cX6_key 16 = .ok (.ifCond .ne 6, 3) := by decide +kernel
theorem dX6_key_19 : decode cX6_key 19 = .ok (.bipush (-2), 2) := by decide +kernel
theorem dX6_key_21 : decode cX6_key 21 = .ok (.ireturn, 1) := by decide +kernel
theorem dX6_key_22 : decode cX6_key 22 = .ok (.aload_n 0, 1) := by decide +kernel
theorem dX6_key_23 : decode cX6_key 23 = .ok (.getfield 7, 3) := by decide +kernel
theorem dX6_key_26 : decode cX6_key 26 = .ok (.bipush 30, 2) := by decide +kernel
theorem dX6_key_28 : decode cX6_key 28 = .ok (.iload_n 1, 1) := by decide +kernel
theorem dX6_key_29 : decode cX6_key 29 = .ok (.iadd, 1) := by decide +kernel
theorem dX6_key_30 : decode cX6_key 30 = .ok (.iaload, 1) := by decide +kernel
theorem dX6_key_31 : decode cX6_key 31 = .ok (.ifCond .ne 19, 3) := by decide +kernel
theorem dX6_key_34 : decode cX6_key 34 = .ok (.aload_n 0, 1) := by decide +kernel
theorem dX6_key_35 : decode cX6_key 35 = .ok (.getfield 7, 3) := by decide +kernel
theorem dX6_key_38 : decode cX6_key 38 = .ok (.bipush 50, 2) := by decide +kernel
theorem dX6_key_40 : decode cX6_key 40 = .ok (.iload_n 1, 1) := by decide +kernel
theorem dX6_key_41 : decode cX6_key 41 = .ok (.iadd, 1) := by decide +kernel
theorem dX6_key_42 : decode cX6_key 42 = .ok (.iaload, 1) := by decide +kernel
theorem dX6_key_43 : decode cX6_key 43 = .ok (.ifCond .ne 7, 3) := by decide +kernel
theorem dX6_key_46 : decode cX6_key 46 = .ok (.iconst 1, 1) := by decide +kernel
theorem dX6_key_47 : decode cX6_key 47 = .ok (.goto 4, 3) := by decide +kernel
theorem dX6_key_50 : decode cX6_key 50 = .ok (.iconst 0, 1) := by decide +kernel
theorem dX6_key_51 : decode cX6_key 51 = .ok (.istore_n 2, 1) := by decide +kernel
theorem dX6_key_52 : decode cX6_key 52 = .ok (.iload_n 2, 1) := by decide +kernel
theorem dX6_key_53 : decode cX6_key 53 = .ok (.ifCond .ne 17, 3) := by decide +kernel
theorem dX6_key_56 : decode cX6_key 56 = .ok (.aload_n 0, 1) := by decide +kernel
theorem dX6_key_57 : decode cX6_key 57 = .ok (.getfield 7, 3) := by decide +kernel
theorem dX6_key_60 : decode cX6_key 60 = .ok (.bipush 14, 2) := by decide +kernel
theorem dX6_key_62 : decode cX6_key 62 = .ok (.iaload, 1) := by decide +kernel
theorem dX6_key_63 : decode cX6_key 63 = .ok (.iconst 1, 1) := by decide +kernel
theorem dX6_key_64 : decode cX6_key 64 = .ok (.if_icmp .ne 6, 3) := by decide +kernel
theorem dX6_key_67 : decode cX6_key 67 = .ok (.bipush (-2), 2) := by decide +kernel
theorem dX6_key_69 : decode cX6_key 69 = .ok (.ireturn, 1) := by decide +kernel
theorem dX6_key_70 : decode cX6_key 70 = .ok (.aload_n 0, 1) := by decide +kernel
theorem dX6_key_71 : decode cX6_key 71 = .ok (.getfield 7, 3) := by decide +kernel
theorem dX6_key_74 : decode cX6_key 74 = .ok (.bipush 30, 2) := by decide +kernel
theorem dX6_key_76 : decode cX6_key 76 = .ok (.iload_n 1, 1) := by decide +kernel
theorem dX6_key_77 : decode cX6_key 77 = .ok (.iadd, 1) := by decide +kernel
theorem dX6_key_78 : decode cX6_key 78 = .ok (.iload_n 2, 1) := by decide +kernel
theorem dX6_key_79 : decode cX6_key 79 = .ok (.ifCond .eq 7, 3) := by decide +kernel
theorem dX6_key_82 : decode cX6_key 82 = .ok (.iconst 1, 1) := by decide +kernel
theorem dX6_key_83 : decode cX6_key 83 = .ok (.goto 12, 3) := by decide +kernel
theorem dX6_key_86 : decode cX6_key 86 = .ok (.aload_n 0, 1) := by decide +kernel
theorem dX6_key_87 : decode cX6_key 87 = .ok (.getfield 7, 3) := by decide +kernel
theorem dX6_key_90 : decode cX6_key 90 = .ok (.bipush 30, 2) := by decide +kernel
theorem dX6_key_92 : decode cX6_key 92 = .ok (.iload_n 1, 1) := by decide +kernel
theorem dX6_key_93 : decode cX6_key 93 = .ok (.iadd, 1) := by decide +kernel
theorem dX6_key_94 : decode cX6_key 94 = .ok (.iaload, 1) := by decide +kernel
theorem dX6_key_95 : decode cX6_key 95 = .ok (.iastore, 1) := by decide +kernel
theorem dX6_key_96 : decode cX6_key 96 = .ok (.aload_n 0, 1) := by decide +kernel
theorem dX6_key_97 : decode cX6_key 97 = .ok (.getfield 7, 3) := by decide +kernel
theorem dX6_key_100 : decode cX6_key 100 = .ok (.bipush 8, 2) := by decide +kernel
theorem dX6_key_102 : decode cX6_key 102 = .ok (.dup2, 1) := by decide +kernel
theorem dX6_key_103 : decode cX6_key 103 = .ok (.iaload, 1) := by decide +kernel
theorem dX6_key_104 : decode cX6_key 104 = .ok (.iload_n 2, 1) := by decide +kernel
theorem dX6_key_105 : decode cX6_key 105 = .ok (.ifCond .eq 7, 3) := by decide +kernel
theorem dX6_key_108 : decode cX6_key 108 = .ok (.iconst 0, 1) := by decide +kernel
theorem dX6_key_109 : decode cX6_key 109 = .ok (.goto 4, 3) := by decide +kernel
theorem dX6_key_112 : decode cX6_key 112 = .ok (.iconst 1, 1) := by decide +kernel
theorem dX6_key_113 : decode cX6_key 113 = .ok (.iadd, 1) := by decide +kernel
theorem dX6_key_114 : decode cX6_key 114 = .ok (.iastore, 1) := by decide +kernel
theorem dX6_key_115 : decode cX6_key 115 = .ok (.aload_n 0, 1) := by decide +kernel
theorem dX6_key_116 : decode cX6_key 116 = .ok (.getfield 7, 3) := by decide +kernel
theorem dX6_key_119 : decode cX6_key 119 = .ok (.bipush 7, 2) := by decide +kernel
theorem dX6_key_121 : decode cX6_key 121 = .ok (.dup2, 1) := by decide +kernel
theorem dX6_key_122 : decode cX6_key 122 = .ok (.iaload, 1) := by decide +kernel
theorem dX6_key_123 : decode cX6_key 123 = .ok (.iconst 1, 1) := by decide +kernel
theorem dX6_key_124 : decode cX6_key 124 = .ok (.isub, 1) := by decide +kernel
theorem dX6_key_125 : decode cX6_key 125 = .ok (.iastore, 1) := by decide +kernel
theorem dX6_key_126 : decode cX6_key 126 = .ok (.aload_n 0, 1) := by decide +kernel
theorem dX6_key_127 : decode cX6_key 127 = .ok (.getfield 7, 3) := by decide +kernel
theorem dX6_key_130 : decode cX6_key 130 = .ok (.bipush 7, 2) := by decide +kernel
theorem dX6_key_132 : decode cX6_key 132 = .ok (.iaload, 1) := by decide +kernel
theorem dX6_key_133 : decode cX6_key 133 = .ok (.ireturn, 1) := by decide +kernel
theorem dX6_pinsIn_0 : decode cX6_pinsIn 0 = .ok (.iconst 0, 1) := by decide +kernel
theorem dX6_pinsIn_1 : decode cX6_pinsIn 1 = .ok (.istore_n 1, 1) := by decide +kernel
theorem dX6_pinsIn_2 : decode cX6_pinsIn 2 = .ok (.iconst 0, 1) := by decide +kernel
theorem dX6_pinsIn_3 : decode cX6_pinsIn 3 = .ok (.istore_n 2, 1) := by decide +kernel
theorem dX6_pinsIn_4 : decode cX6_pinsIn 4 = .ok (.iload_n 2, 1) := by decide +kernel
theorem dX6_pinsIn_5 : decode cX6_pinsIn 5 = .ok (.bipush 20, 2) := by decide +kernel
theorem dX6_pinsIn_7 : decode cX6_pinsIn 7 = .ok (.if_icmp .ge 21, 3) := by decide +kernel
theorem dX6_pinsIn_10 : decode cX6_pinsIn 10 = .ok (.iload_n 1, 1) := by decide +kernel
theorem dX6_pinsIn_11 : decode cX6_pinsIn 11 = .ok (.aload_n 0, 1) := by decide +kernel
theorem dX6_pinsIn_12 : decode cX6_pinsIn 12 = .ok (.getfield 7, 3) := by decide +kernel
theorem dX6_pinsIn_15 : decode cX6_pinsIn 15 = .ok (.bipush 30, 2) := by decide +kernel
theorem dX6_pinsIn_17 : decode cX6_pinsIn 17 = .ok (.iload_n 2, 1) := by decide +kernel
theorem dX6_pinsIn_18 : decode cX6_pinsIn 18 = .ok (.iadd, 1) := by decide +kernel
theorem dX6_pinsIn_19 : decode cX6_pinsIn 19 = .ok (.iaload, 1) := by decide +kernel
theorem dX6_pinsIn_20 : decode cX6_pinsIn 20 = .ok (.iadd, 1) := by decide +kernel
theorem dX6_pinsIn_21 : decode cX6_pinsIn 21 = .ok (.istore_n 1, 1) := by decide +kernel
theorem dX6_pinsIn_22 : decode cX6_pinsIn 22 = .ok (.iinc 2 1, 3) := by decide +kernel
theorem dX6_pinsIn_25 : decode cX6_pinsIn 25 = .ok (.goto (-21), 3) := by decide +kernel
theorem dX6_pinsIn_28 : decode cX6_pinsIn 28 = .ok (.iload_n 1, 1) := by decide +kernel
theorem dX6_pinsIn_29 : decode cX6_pinsIn 29 = .ok (.ireturn, 1) := by decide +kernel
theorem dX6_songHere_0 : decode cX6_songHere 0 = .ok (.iconst 2, 1) := by decide +kernel
theorem dX6_songHere_1 : decode cX6_songHere 1 = .ok (.aload_n 0, 1) := by decide +kernel
theorem dX6_songHere_2 : decode cX6_songHere 2 = .ok (.getfield 7, 3) := by decide +kernel
theorem dX6_songHere_5 : decode cX6_songHere 5 = .ok (.iconst 1, 1) := by decide +kernel
theorem dX6_songHere_6 : decode cX6_songHere 6 = .ok (.iaload, 1) := by decide +kernel
theorem dX6_songHere_7 : decode cX6_songHere 7 = .ok (.imul, 1) := by decide +kernel
theorem dX6_songHere_8 : decode cX6_songHere 8 = .ok (.aload_n 0, 1) := by decide +kernel
theorem dX6_songHere_9 : decode cX6_songHere 9 = .ok (.getfield 7, 3) := by decide +kernel
theorem dX6_songHere_12 : decode cX6_songHere 12 = .ok (.iconst 2, 1) := by decide +kernel
theorem dX6_songHere_13 : decode cX6_songHere 13 = .ok (.iaload, 1) := by decide +kernel
theorem dX6_songHere_14 : decode cX6_songHere 14 = .ok (.iconst 1, 1) := by decide +kernel
theorem dX6_songHere_15 : decode cX6_songHere 15 = .ok (.if_icmp .ne 7, 3) := by decide +kernel
theorem dX6_songHere_18 : decode cX6_songHere 18 = .ok (.iconst 0, 1) := by decide +kernel
theorem dX6_songHere_19 : decode cX6_songHere 19 = .ok (.goto 4, 3) := by decide +kernel
theorem dX6_songHere_22 : decode cX6_songHere 22 = .ok (.iconst 1, 1) := by decide +kernel
theorem dX6_songHere_23 : decode cX6_songHere 23 = .ok (.iadd, 1) := by decide +kernel
theorem dX6_songHere_24 : decode cX6_songHere 24 = .ok (.ireturn, 1) := by decide +kernel
theorem dX6_does_0 : decode cX6_does 0 = .ok (.aload_n 0, 1) := by decide +kernel
theorem dX6_does_1 : decode cX6_does 1 = .ok (.getfield 7, 3) := by decide +kernel
theorem dX6_does_4 : decode cX6_does 4 = .ok (.iconst 3, 1) := by decide +kernel
theorem dX6_does_5 : decode cX6_does 5 = .ok (.iload_n 1, 1) := by decide +kernel
theorem dX6_does_6 : decode cX6_does 6 = .ok (.iastore, 1) := by decide +kernel
theorem dX6_does_7 : decode cX6_does 7 = .ok (.aload_n 0, 1) := by decide +kernel
theorem dX6_does_8 : decode cX6_does 8 = .ok (.getfield 7, 3) := by decide +kernel
theorem dX6_does_11 : decode cX6_does 11 = .ok (.iconst 4, 1) := by decide +kernel
theorem dX6_does_12 : decode cX6_does 12 = .ok (.iload_n 2, 1) := by decide +kernel
theorem dX6_does_13 : decode cX6_does 13 = .ok (.iastore, 1) := by decide +kernel
theorem dX6_does_14 : decode cX6_does 14 = .ok (.return_, 1) := by decide +kernel
theorem dX6_goOn_0 : decode cX6_goOn 0 = .ok (.aload_n 0, 1) := by decide +kernel
theorem dX6_goOn_1 : decode cX6_goOn 1 = .ok (.invokevirtual 82, 3) := by decide +kernel
theorem dX6_goOn_4 : decode cX6_goOn 4 = .ok (.ifCond .ne 12, 3) := by decide +kernel
theorem dX6_goOn_7 : decode cX6_goOn 7 = .ok (.aload_n 0, 1) := by decide +kernel
theorem dX6_goOn_8 : decode cX6_goOn 8 = .ok (.iconst 0, 1) := by decide +kernel
theorem dX6_goOn_9 : decode cX6_goOn 9 = .ok (.iconst 0, 1) := by decide +kernel
theorem dX6_goOn_10 : decode cX6_goOn 10 = .ok (.invokevirtual 85, 3) := by decide +kernel
theorem dX6_goOn_13 : decode cX6_goOn 13 = .ok (.goto 51, 3) := by decide +kernel
theorem dX6_goOn_16 : decode cX6_goOn 16 = .ok (.aload_n 0, 1) := by decide +kernel
theorem dX6_goOn_17 : decode cX6_goOn 17 = .ok (.getfield 7, 3) := by decide +kernel
theorem dX6_goOn_20 : decode cX6_goOn 20 = .ok (.iconst 2, 1) := by decide +kernel
theorem dX6_goOn_21 : decode cX6_goOn 21 = .ok (.iaload, 1) := by decide +kernel
theorem dX6_goOn_22 : decode cX6_goOn 22 = .ok (.iconst 1, 1) := by decide +kernel
theorem dX6_goOn_23 : decode cX6_goOn 23 = .ok (.if_icmp .ne 17, 3) := by decide +kernel
theorem dX6_goOn_26 : decode cX6_goOn 26 = .ok (.aload_n 0, 1) := by decide +kernel
theorem dX6_goOn_27 : decode cX6_goOn 27 = .ok (.getfield 7, 3) := by decide +kernel
theorem dX6_goOn_30 : decode cX6_goOn 30 = .ok (.iconst 1, 1) := by decide +kernel
theorem dX6_goOn_31 : decode cX6_goOn 31 = .ok (.iaload, 1) := by decide +kernel
theorem dX6_goOn_32 : decode cX6_goOn 32 = .ok (.bipush 9, 2) := by decide +kernel
theorem dX6_goOn_34 : decode cX6_goOn 34 = .ok (.if_icmp .ne 24, 3) := by decide +kernel
theorem dX6_goOn_37 : decode cX6_goOn 37 = .ok (.goto 12, 3) := by decide +kernel
theorem dX6_goOn_40 : decode cX6_goOn 40 = .ok (.aload_n 0, 1) := by decide +kernel
theorem dX6_goOn_41 : decode cX6_goOn 41 = .ok (.getfield 7, 3) := by decide +kernel
theorem dX6_goOn_44 : decode cX6_goOn 44 = .ok (.iconst 1, 1) := by decide +kernel
theorem dX6_goOn_45 : decode cX6_goOn 45 = .ok (.iaload, 1) := by decide +kernel
theorem dX6_goOn_46 : decode cX6_goOn 46 = .ok (.ifCond .ne 12, 3) := by decide +kernel
theorem dX6_goOn_49 : decode cX6_goOn 49 = .ok (.aload_n 0, 1) := by decide +kernel
theorem dX6_goOn_50 : decode cX6_goOn 50 = .ok (.iconst 2, 1) := by decide +kernel
theorem dX6_goOn_51 : decode cX6_goOn 51 = .ok (.iconst 2, 1) := by decide +kernel
theorem dX6_goOn_52 : decode cX6_goOn 52 = .ok (.invokevirtual 85, 3) := by decide +kernel
theorem dX6_goOn_55 : decode cX6_goOn 55 = .ok (.goto 9, 3) := by decide +kernel
theorem dX6_goOn_58 : decode cX6_goOn 58 = .ok (.aload_n 0, 1) := by decide +kernel
theorem dX6_goOn_59 : decode cX6_goOn 59 = .ok (.iconst 1, 1) := by decide +kernel
theorem dX6_goOn_60 : decode cX6_goOn 60 = .ok (.iconst 3, 1) := by decide +kernel
theorem dX6_goOn_61 : decode cX6_goOn 61 = .ok (.invokevirtual 85, 3) := by decide +kernel
theorem dX6_goOn_64 : decode cX6_goOn 64 = .ok (.return_, 1) := by decide +kernel
theorem dX6_look_0 : decode cX6_look 0 = .ok (.aload_n 0, 1) := by decide +kernel
theorem dX6_look_1 : decode cX6_look 1 = .ok (.invokevirtual 89, 3) := by decide +kernel
theorem dX6_look_4 : decode cX6_look 4 = .ok (.istore_n 1, 1) := by decide +kernel
theorem dX6_look_5 : decode cX6_look 5 = .ok (.aload_n 0, 1) := by decide +kernel
theorem dX6_look_6 : decode cX6_look 6 = .ok (.getfield 7, 3) := by decide +kernel
theorem dX6_look_9 : decode cX6_look 9 = .ok (.bipush 30, 2) := by decide +kernel
theorem dX6_look_11 : decode cX6_look 11 = .ok (.iload_n 1, 1) := by decide +kernel
theorem dX6_look_12 : decode cX6_look 12 = .ok (.iadd, 1) := by decide +kernel
theorem dX6_look_13 : decode cX6_look 13 = .ok (.iaload, 1) := by decide +kernel
theorem dX6_look_14 : decode cX6_look 14 = .ok (.iconst 1, 1) := by decide +kernel
theorem dX6_look_15 : decode cX6_look 15 = .ok (.if_icmp .ne 7, 3) := by decide +kernel
theorem dX6_look_18 : decode cX6_look 18 = .ok (.iconst 1, 1) := by decide +kernel
theorem dX6_look_19 : decode cX6_look 19 = .ok (.goto 4, 3) := by decide +kernel
theorem dX6_look_22 : decode cX6_look 22 = .ok (.iconst 0, 1) := by decide +kernel
theorem dX6_look_23 : decode cX6_look 23 = .ok (.istore_n 2, 1) := by decide +kernel
theorem dX6_look_24 : decode cX6_look 24 = .ok (.aload_n 0, 1) := by decide +kernel
theorem dX6_look_25 : decode cX6_look 25 = .ok (.getfield 7, 3) := by decide +kernel
theorem dX6_look_28 : decode cX6_look 28 = .ok (.bipush 30, 2) := by decide +kernel
theorem dX6_look_30 : decode cX6_look 30 = .ok (.iload_n 1, 1) := by decide +kernel
theorem dX6_look_31 : decode cX6_look 31 = .ok (.iadd, 1) := by decide +kernel
theorem dX6_look_32 : decode cX6_look 32 = .ok (.aload_n 0, 1) := by decide +kernel
theorem dX6_look_33 : decode cX6_look 33 = .ok (.getfield 7, 3) := by decide +kernel
theorem dX6_look_36 : decode cX6_look 36 = .ok (.bipush 50, 2) := by decide +kernel
theorem dX6_look_38 : decode cX6_look 38 = .ok (.iload_n 1, 1) := by decide +kernel
theorem dX6_look_39 : decode cX6_look 39 = .ok (.iadd, 1) := by decide +kernel
theorem dX6_look_40 : decode cX6_look 40 = .ok (.iaload, 1) := by decide +kernel
theorem dX6_look_41 : decode cX6_look 41 = .ok (.ifCond .ne 7, 3) := by decide +kernel
theorem dX6_look_44 : decode cX6_look 44 = .ok (.iconst 0, 1) := by decide +kernel
theorem dX6_look_45 : decode cX6_look 45 = .ok (.goto 12, 3) := by decide +kernel
theorem dX6_look_48 : decode cX6_look 48 = .ok (.aload_n 0, 1) := by decide +kernel
theorem dX6_look_49 : decode cX6_look 49 = .ok (.getfield 7, 3) := by decide +kernel
theorem dX6_look_52 : decode cX6_look 52 = .ok (.bipush 30, 2) := by decide +kernel
theorem dX6_look_54 : decode cX6_look 54 = .ok (.iload_n 1, 1) := by decide +kernel
theorem dX6_look_55 : decode cX6_look 55 = .ok (.iadd, 1) := by decide +kernel
theorem dX6_look_56 : decode cX6_look 56 = .ok (.iaload, 1) := by decide +kernel
theorem dX6_look_57 : decode cX6_look 57 = .ok (.iastore, 1) := by decide +kernel
theorem dX6_look_58 : decode cX6_look 58 = .ok (.iload_n 2, 1) := by decide +kernel
theorem dX6_look_59 : decode cX6_look 59 = .ok (.ifCond .eq 27, 3) := by decide +kernel
theorem dX6_look_62 : decode cX6_look 62 = .ok (.aload_n 0, 1) := by decide +kernel
theorem dX6_look_63 : decode cX6_look 63 = .ok (.getfield 7, 3) := by decide +kernel
theorem dX6_look_66 : decode cX6_look 66 = .ok (.bipush 20, 2) := by decide +kernel
theorem dX6_look_68 : decode cX6_look 68 = .ok (.aload_n 0, 1) := by decide +kernel
theorem dX6_look_69 : decode cX6_look 69 = .ok (.getfield 7, 3) := by decide +kernel
theorem dX6_look_72 : decode cX6_look 72 = .ok (.iconst 1, 1) := by decide +kernel
theorem dX6_look_73 : decode cX6_look 73 = .ok (.iaload, 1) := by decide +kernel
theorem dX6_look_74 : decode cX6_look 74 = .ok (.iadd, 1) := by decide +kernel
theorem dX6_look_75 : decode cX6_look 75 = .ok (.iaload, 1) := by decide +kernel
theorem dX6_look_76 : decode cX6_look 76 = .ok (.ifCond .lt 10, 3) := by decide +kernel
theorem dX6_look_79 : decode cX6_look 79 = .ok (.aload_n 0, 1) := by decide +kernel
theorem dX6_look_80 : decode cX6_look 80 = .ok (.iconst 3, 1) := by decide +kernel
theorem dX6_look_81 : decode cX6_look 81 = .ok (.iconst 4, 1) := by decide +kernel
theorem dX6_look_82 : decode cX6_look 82 = .ok (.invokevirtual 85, 3) := by decide +kernel
theorem dX6_look_85 : decode cX6_look 85 = .ok (.return_, 1) := by decide +kernel
theorem dX6_look_86 : decode cX6_look 86 = .ok (.aload_n 0, 1) := by decide +kernel
theorem dX6_look_87 : decode cX6_look 87 = .ok (.getfield 7, 3) := by decide +kernel
theorem dX6_look_90 : decode cX6_look 90 = .ok (.bipush 6, 2) := by decide +kernel
theorem dX6_look_92 : decode cX6_look 92 = .ok (.dup2, 1) := by decide +kernel
theorem dX6_look_93 : decode cX6_look 93 = .ok (.iaload, 1) := by decide +kernel
theorem dX6_look_94 : decode cX6_look 94 = .ok (.iload_n 2, 1) := by decide +kernel
theorem dX6_look_95 : decode cX6_look 95 = .ok (.ifCond .eq 7, 3) := by decide +kernel
theorem dX6_look_98 : decode cX6_look 98 = .ok (.iconst 1, 1) := by decide +kernel
theorem dX6_look_99 : decode cX6_look 99 = .ok (.goto 4, 3) := by decide +kernel
theorem dX6_look_102 : decode cX6_look 102 = .ok (.iconst 0, 1) := by decide +kernel
theorem dX6_look_103 : decode cX6_look 103 = .ok (.iadd, 1) := by decide +kernel
theorem dX6_look_104 : decode cX6_look 104 = .ok (.iastore, 1) := by decide +kernel
theorem dX6_look_105 : decode cX6_look 105 = .ok (.aload_n 0, 1) := by decide +kernel
theorem dX6_look_106 : decode cX6_look 106 = .ok (.invokevirtual 92, 3) := by decide +kernel
theorem dX6_look_109 : decode cX6_look 109 = .ok (.return_, 1) := by decide +kernel
theorem dX6_play_0 : decode cX6_play 0 = .ok (.aload_n 0, 1) := by decide +kernel
theorem dX6_play_1 : decode cX6_play 1 = .ok (.invokevirtual 89, 3) := by decide +kernel
theorem dX6_play_4 : decode cX6_play 4 = .ok (.istore_n 1, 1) := by decide +kernel
theorem dX6_play_5 : decode cX6_play 5 = .ok (.iconst 2, 1) := by decide +kernel
theorem dX6_play_6 : decode cX6_play 6 = .ok (.aload_n 0, 1) := by decide +kernel
theorem dX6_play_7 : decode cX6_play 7 = .ok (.getfield 7, 3) := by decide +kernel
theorem dX6_play_10 : decode cX6_play 10 = .ok (.bipush 20, 2) := by decide +kernel
theorem dX6_play_12 : decode cX6_play 12 = .ok (.aload_n 0, 1) := by decide +kernel
theorem dX6_play_13 : decode cX6_play 13 = .ok (.getfield 7, 3) := by decide +kernel
theorem dX6_play_16 : decode cX6_play 16 = .ok (.iconst 1, 1) := by decide +kernel
theorem dX6_play_17 : decode cX6_play 17 = .ok (.iaload, 1) := by decide +kernel
theorem dX6_play_18 : decode cX6_play 18 = .ok (.iadd, 1) := by decide +kernel
theorem dX6_play_19 : decode cX6_play 19 = .ok (.iaload, 1) := by decide +kernel
theorem dX6_play_20 : decode cX6_play 20 = .ok (.imul, 1) := by decide +kernel
theorem dX6_play_21 : decode cX6_play 21 = .ok (.iload_n 1, 1) := by decide +kernel
theorem dX6_play_22 : decode cX6_play 22 = .ok (.iconst 2, 1) := by decide +kernel
theorem dX6_play_23 : decode cX6_play 23 = .ok (.irem, 1) := by decide +kernel
theorem dX6_play_24 : decode cX6_play 24 = .ok (.iadd, 1) := by decide +kernel
theorem dX6_play_25 : decode cX6_play 25 = .ok (.istore_n 2, 1) := by decide +kernel
theorem dX6_play_26 : decode cX6_play 26 = .ok (.aload_n 0, 1) := by decide +kernel
theorem dX6_play_27 : decode cX6_play 27 = .ok (.getfield 7, 3) := by decide +kernel
theorem dX6_play_30 : decode cX6_play 30 = .ok (.bipush 70, 2) := by decide +kernel
theorem dX6_play_32 : decode cX6_play 32 = .ok (.iload_n 1, 1) := by decide +kernel
theorem dX6_play_33 : decode cX6_play 33 = .ok (.iadd, 1) := by decide +kernel
theorem dX6_play_34 : decode cX6_play 34 = .ok (.aload_n 0, 1) := by decide +kernel
theorem dX6_play_35 : decode cX6_play 35 = .ok (.getfield 7, 3) := by decide +kernel
theorem dX6_play_38 : decode cX6_play 38 = .ok (.bipush 70, 2) := by decide +kernel
theorem dX6_play_40 : decode cX6_play 40 = .ok (.iload_n 1, 1) := by decide +kernel
theorem dX6_play_41 : decode cX6_play 41 = .ok (.iadd, 1) := by decide +kernel
theorem dX6_play_42 : decode cX6_play 42 = .ok (.iaload, 1) := by decide +kernel
theorem dX6_play_43 : decode cX6_play 43 = .ok (.iconst 1, 1) := by decide +kernel
theorem dX6_play_44 : decode cX6_play 44 = .ok (.iadd, 1) := by decide +kernel
theorem dX6_play_45 : decode cX6_play 45 = .ok (.bipush 100, 2) := by decide +kernel
theorem dX6_play_47 : decode cX6_play 47 = .ok (.irem, 1) := by decide +kernel
theorem dX6_play_48 : decode cX6_play 48 = .ok (.iastore, 1) := by decide +kernel
theorem dX6_play_49 : decode cX6_play 49 = .ok (.aload_n 0, 1) := by decide +kernel
theorem dX6_play_50 : decode cX6_play 50 = .ok (.getfield 7, 3) := by decide +kernel
theorem dX6_play_53 : decode cX6_play 53 = .ok (.bipush 122, 2) := by decide +kernel
theorem dX6_play_55 : decode cX6_play 55 = .ok (.iload_n 2, 1) := by decide +kernel
theorem dX6_play_56 : decode cX6_play 56 = .ok (.iadd, 1) := by decide +kernel
theorem dX6_play_57 : decode cX6_play 57 = .ok (.aload_n 0, 1) := by decide +kernel
theorem dX6_play_58 : decode cX6_play 58 = .ok (.getfield 7, 3) := by decide +kernel
theorem dX6_play_61 : decode cX6_play 61 = .ok (.bipush 122, 2) := by decide +kernel
theorem dX6_play_63 : decode cX6_play 63 = .ok (.iload_n 2, 1) := by decide +kernel
theorem dX6_play_64 : decode cX6_play 64 = .ok (.iadd, 1) := by decide +kernel
theorem dX6_play_65 : decode cX6_play 65 = .ok (.iaload, 1) := by decide +kernel
theorem dX6_play_66 : decode cX6_play 66 = .ok (.bipush 99, 2) := by decide +kernel
theorem dX6_play_68 : decode cX6_play 68 = .ok (.if_icmp .ge 17, 3) := by decide +kernel
theorem dX6_play_71 : decode cX6_play 71 = .ok (.aload_n 0, 1) := by decide +kernel
theorem dX6_play_72 : decode cX6_play 72 = .ok (.getfield 7, 3) := by decide +kernel
theorem dX6_play_75 : decode cX6_play 75 = .ok (.bipush 122, 2) := by decide +kernel
theorem dX6_play_77 : decode cX6_play 77 = .ok (.iload_n 2, 1) := by decide +kernel
theorem dX6_play_78 : decode cX6_play 78 = .ok (.iadd, 1) := by decide +kernel
theorem dX6_play_79 : decode cX6_play 79 = .ok (.iaload, 1) := by decide +kernel
theorem dX6_play_80 : decode cX6_play 80 = .ok (.iconst 1, 1) := by decide +kernel
theorem dX6_play_81 : decode cX6_play 81 = .ok (.iadd, 1) := by decide +kernel
theorem dX6_play_82 : decode cX6_play 82 = .ok (.goto 5, 3) := by decide +kernel
theorem dX6_play_85 : decode cX6_play 85 = .ok (.bipush 99, 2) := by decide +kernel
theorem dX6_play_87 : decode cX6_play 87 = .ok (.iastore, 1) := by decide +kernel
theorem dX6_play_88 : decode cX6_play 88 = .ok (.aload_n 0, 1) := by decide +kernel
theorem dX6_play_89 : decode cX6_play 89 = .ok (.getfield 7, 3) := by decide +kernel
theorem dX6_play_92 : decode cX6_play 92 = .ok (.iconst 5, 1) := by decide +kernel
theorem dX6_play_93 : decode cX6_play 93 = .ok (.dup2, 1) := by decide +kernel
theorem dX6_play_94 : decode cX6_play 94 = .ok (.iaload, 1) := by decide +kernel
theorem dX6_play_95 : decode cX6_play 95 = .ok (.iconst 1, 1) := by decide +kernel
theorem dX6_play_96 : decode cX6_play 96 = .ok (.iadd, 1) := by decide +kernel
theorem dX6_play_97 : decode cX6_play 97 = .ok (.iastore, 1) := by decide +kernel
theorem dX6_play_98 : decode cX6_play 98 = .ok (.aload_n 0, 1) := by decide +kernel
theorem dX6_play_99 : decode cX6_play 99 = .ok (.iconst 4, 1) := by decide +kernel
theorem dX6_play_100 : decode cX6_play 100 = .ok (.aload_n 0, 1) := by decide +kernel
theorem dX6_play_101 : decode cX6_play 101 = .ok (.getfield 7, 3) := by decide +kernel
theorem dX6_play_104 : decode cX6_play 104 = .ok (.bipush 122, 2) := by decide +kernel
theorem dX6_play_106 : decode cX6_play 106 = .ok (.iload_n 2, 1) := by decide +kernel
theorem dX6_play_107 : decode cX6_play 107 = .ok (.iadd, 1) := by decide +kernel
theorem dX6_play_108 : decode cX6_play 108 = .ok (.iaload, 1) := by decide +kernel
theorem dX6_play_109 : decode cX6_play 109 = .ok (.aload_n 0, 1) := by decide +kernel
theorem dX6_play_110 : decode cX6_play 110 = .ok (.getfield 7, 3) := by decide +kernel
theorem dX6_play_113 : decode cX6_play 113 = .ok (.bipush 15, 2) := by decide +kernel
theorem dX6_play_115 : decode cX6_play 115 = .ok (.iaload, 1) := by decide +kernel
theorem dX6_play_116 : decode cX6_play 116 = .ok (.if_icmp .le 17, 3) := by decide +kernel
theorem dX6_play_119 : decode cX6_play 119 = .ok (.iconst 2, 1) := by decide +kernel
theorem dX6_play_120 : decode cX6_play 120 = .ok (.aload_n 0, 1) := by decide +kernel
theorem dX6_play_121 : decode cX6_play 121 = .ok (.getfield 7, 3) := by decide +kernel
theorem dX6_play_124 : decode cX6_play 124 = .ok (.bipush 90, 2) := by decide +kernel
theorem dX6_play_126 : decode cX6_play 126 = .ok (.iload_n 2, 1) := by decide +kernel
theorem dX6_play_127 : decode cX6_play 127 = .ok (.iadd, 1) := by decide +kernel
theorem dX6_play_128 : decode cX6_play 128 = .ok (.iaload, 1) := by decide +kernel
theorem dX6_play_129 : decode cX6_play 129 = .ok (.imul, 1) := by decide +kernel
theorem dX6_play_130 : decode cX6_play 130 = .ok (.goto 12, 3) := by decide +kernel
theorem dX6_play_133 : decode cX6_play 133 = .ok (.aload_n 0, 1) := by decide +kernel
theorem dX6_play_134 : decode cX6_play 134 = .ok (.getfield 7, 3) := by decide +kernel
theorem dX6_play_137 : decode cX6_play 137 = .ok (.bipush 90, 2) := by decide +kernel
theorem dX6_play_139 : decode cX6_play 139 = .ok (.iload_n 2, 1) := by decide +kernel
theorem dX6_play_140 : decode cX6_play 140 = .ok (.iadd, 1) := by decide +kernel
theorem dX6_play_141 : decode cX6_play 141 = .ok (.iaload, 1) := by decide +kernel
theorem dX6_play_142 : decode cX6_play 142 = .ok (.invokevirtual 85, 3) := by decide +kernel
theorem dX6_play_145 : decode cX6_play 145 = .ok (.return_, 1) := by decide +kernel
theorem dX6_tick_0 : decode cX6_tick 0 = .ok (.aload_n 0, 1) := by decide +kernel
theorem dX6_tick_1 : decode cX6_tick 1 = .ok (.getfield 7, 3) := by decide +kernel
theorem dX6_tick_4 : decode cX6_tick 4 = .ok (.iconst 0, 1) := by decide +kernel
theorem dX6_tick_5 : decode cX6_tick 5 = .ok (.dup2, 1) := by decide +kernel
theorem dX6_tick_6 : decode cX6_tick 6 = .ok (.iaload, 1) := by decide +kernel
theorem dX6_tick_7 : decode cX6_tick 7 = .ok (.iconst 1, 1) := by decide +kernel
theorem dX6_tick_8 : decode cX6_tick 8 = .ok (.iadd, 1) := by decide +kernel
theorem dX6_tick_9 : decode cX6_tick 9 = .ok (.iastore, 1) := by decide +kernel
theorem dX6_tick_10 : decode cX6_tick 10 = .ok (.aload_n 0, 1) := by decide +kernel
theorem dX6_tick_11 : decode cX6_tick 11 = .ok (.getfield 7, 3) := by decide +kernel
theorem dX6_tick_14 : decode cX6_tick 14 = .ok (.iconst 3, 1) := by decide +kernel
theorem dX6_tick_15 : decode cX6_tick 15 = .ok (.iaload, 1) := by decide +kernel
theorem dX6_tick_16 : decode cX6_tick 16 = .ok (.ifCond .ne 15, 3) := by decide +kernel
theorem dX6_tick_19 : decode cX6_tick 19 = .ok (.aload_n 0, 1) := by decide +kernel
theorem dX6_tick_20 : decode cX6_tick 20 = .ok (.invokevirtual 82, 3) := by decide +kernel
theorem dX6_tick_23 : decode cX6_tick 23 = .ok (.ifCond .le 7, 3) := by decide +kernel
theorem dX6_tick_26 : decode cX6_tick 26 = .ok (.aload_n 0, 1) := by decide +kernel
theorem dX6_tick_27 : decode cX6_tick 27 = .ok (.invokevirtual 95, 3) := by decide +kernel
theorem dX6_tick_30 : decode cX6_tick 30 = .ok (.return_, 1) := by decide +kernel
theorem dX6_tick_31 : decode cX6_tick 31 = .ok (.aload_n 0, 1) := by decide +kernel
theorem dX6_tick_32 : decode cX6_tick 32 = .ok (.getfield 7, 3) := by decide +kernel
theorem dX6_tick_35 : decode cX6_tick 35 = .ok (.iconst 4, 1) := by decide +kernel
theorem dX6_tick_36 : decode cX6_tick 36 = .ok (.dup2, 1) := by decide +kernel
theorem dX6_tick_37 : decode cX6_tick 37 = .ok (.iaload, 1) := by decide +kernel
theorem dX6_tick_38 : decode cX6_tick 38 = .ok (.iconst 1, 1) := by decide +kernel
theorem dX6_tick_39 : decode cX6_tick 39 = .ok (.isub, 1) := by decide +kernel
theorem dX6_tick_40 : decode cX6_tick 40 = .ok (.iastore, 1) := by decide +kernel
theorem dX6_tick_41 : decode cX6_tick 41 = .ok (.aload_n 0, 1) := by decide +kernel
theorem dX6_tick_42 : decode cX6_tick 42 = .ok (.getfield 7, 3) := by decide +kernel
theorem dX6_tick_45 : decode cX6_tick 45 = .ok (.iconst 4, 1) := by decide +kernel
theorem dX6_tick_46 : decode cX6_tick 46 = .ok (.iaload, 1) := by decide +kernel
theorem dX6_tick_47 : decode cX6_tick 47 = .ok (.ifCond .le 4, 3) := by decide +kernel
theorem dX6_tick_50 : decode cX6_tick 50 = .ok (.return_, 1) := by decide +kernel
theorem dX6_tick_51 : decode cX6_tick 51 = .ok (.aload_n 0, 1) := by decide +kernel
theorem dX6_tick_52 : decode cX6_tick 52 = .ok (.getfield 7, 3) := by decide +kernel
theorem dX6_tick_55 : decode cX6_tick 55 = .ok (.iconst 3, 1) := by decide +kernel
theorem dX6_tick_56 : decode cX6_tick 56 = .ok (.iaload, 1) := by decide +kernel
theorem dX6_tick_57 : decode cX6_tick 57 = .ok (.tableswitch 99 1 4 #[31, 62, 83, 90], 31) := by decide +kernel
theorem dX6_tick_88 : decode cX6_tick 88 = .ok (.aload_n 0, 1) := by decide +kernel
theorem dX6_tick_89 : decode cX6_tick 89 = .ok (.getfield 7, 3) := by decide +kernel
theorem dX6_tick_92 : decode cX6_tick 92 = .ok (.iconst 1, 1) := by decide +kernel
theorem dX6_tick_93 : decode cX6_tick 93 = .ok (.dup2, 1) := by decide +kernel
theorem dX6_tick_94 : decode cX6_tick 94 = .ok (.iaload, 1) := by decide +kernel
theorem dX6_tick_95 : decode cX6_tick 95 = .ok (.aload_n 0, 1) := by decide +kernel
theorem dX6_tick_96 : decode cX6_tick 96 = .ok (.getfield 7, 3) := by decide +kernel
theorem dX6_tick_99 : decode cX6_tick 99 = .ok (.iconst 2, 1) := by decide +kernel
theorem dX6_tick_100 : decode cX6_tick 100 = .ok (.iaload, 1) := by decide +kernel
theorem dX6_tick_101 : decode cX6_tick 101 = .ok (.iconst 1, 1) := by decide +kernel
theorem dX6_tick_102 : decode cX6_tick 102 = .ok (.if_icmp .ne 7, 3) := by decide +kernel
theorem dX6_tick_105 : decode cX6_tick 105 = .ok (.iconst 1, 1) := by decide +kernel
theorem dX6_tick_106 : decode cX6_tick 106 = .ok (.goto 4, 3) := by decide +kernel
theorem dX6_tick_109 : decode cX6_tick 109 = .ok (.iconst (-1), 1) := by decide +kernel
theorem dX6_tick_110 : decode cX6_tick 110 = .ok (.iadd, 1) := by decide +kernel
theorem dX6_tick_111 : decode cX6_tick 111 = .ok (.iastore, 1) := by decide +kernel
theorem dX6_tick_112 : decode cX6_tick 112 = .ok (.aload_n 0, 1) := by decide +kernel
theorem dX6_tick_113 : decode cX6_tick 113 = .ok (.invokevirtual 95, 3) := by decide +kernel
theorem dX6_tick_116 : decode cX6_tick 116 = .ok (.goto 44, 3) := by decide +kernel
theorem dX6_tick_119 : decode cX6_tick 119 = .ok (.aload_n 0, 1) := by decide +kernel
theorem dX6_tick_120 : decode cX6_tick 120 = .ok (.getfield 7, 3) := by decide +kernel
theorem dX6_tick_123 : decode cX6_tick 123 = .ok (.iconst 2, 1) := by decide +kernel
theorem dX6_tick_124 : decode cX6_tick 124 = .ok (.iconst 1, 1) := by decide +kernel
theorem dX6_tick_125 : decode cX6_tick 125 = .ok (.aload_n 0, 1) := by decide +kernel
theorem dX6_tick_126 : decode cX6_tick 126 = .ok (.getfield 7, 3) := by decide +kernel
theorem dX6_tick_129 : decode cX6_tick 129 = .ok (.iconst 2, 1) := by decide +kernel
theorem dX6_tick_130 : decode cX6_tick 130 = .ok (.iaload, 1) := by decide +kernel
theorem dX6_tick_131 : decode cX6_tick 131 = .ok (.isub, 1) := by decide +kernel
theorem dX6_tick_132 : decode cX6_tick 132 = .ok (.iastore, 1) := by decide +kernel
theorem dX6_tick_133 : decode cX6_tick 133 = .ok (.aload_n 0, 1) := by decide +kernel
theorem dX6_tick_134 : decode cX6_tick 134 = .ok (.invokevirtual 95, 3) := by decide +kernel
theorem dX6_tick_137 : decode cX6_tick 137 = .ok (.goto 23, 3) := by decide +kernel
theorem dX6_tick_140 : decode cX6_tick 140 = .ok (.aload_n 0, 1) := by decide +kernel
theorem dX6_tick_141 : decode cX6_tick 141 = .ok (.invokevirtual 98, 3) := by decide +kernel
theorem dX6_tick_144 : decode cX6_tick 144 = .ok (.goto 16, 3) := by decide +kernel
theorem dX6_tick_147 : decode cX6_tick 147 = .ok (.aload_n 0, 1) := by decide +kernel
theorem dX6_tick_148 : decode cX6_tick 148 = .ok (.iconst 5, 1) := by decide +kernel
theorem dX6_tick_149 : decode cX6_tick 149 = .ok (.iconst 4, 1) := by decide +kernel
theorem dX6_tick_150 : decode cX6_tick 150 = .ok (.invokevirtual 85, 3) := by decide +kernel
theorem dX6_tick_153 : decode cX6_tick 153 = .ok (.goto 7, 3) := by decide +kernel
theorem dX6_tick_156 : decode cX6_tick 156 = .ok (.aload_n 0, 1) := by decide +kernel
theorem dX6_tick_157 : decode cX6_tick 157 = .ok (.invokevirtual 92, 3) := by decide +kernel
theorem dX6_tick_160 : decode cX6_tick 160 = .ok (.return_, 1) := by decide +kernel
theorem dX6_ticks_0 : decode cX6_ticks 0 = .ok (.iload_n 1, 1) := by decide +kernel
theorem dX6_ticks_1 : decode cX6_ticks 1 = .ok (.i2l, 1) := by decide +kernel
theorem dX6_ticks_2 : decode cX6_ticks 2 = .ok (.lconst 1, 1) := by decide +kernel
theorem dX6_ticks_3 : decode cX6_ticks 3 = .ok (.ldc2_w 101, 3) := by decide +kernel
theorem dX6_ticks_6 : decode cX6_ticks 6 = .ok (.invokestatic 43, 3) := by decide +kernel
theorem dX6_ticks_9 : decode cX6_ticks 9 = .ok (.ifCond .ne 5, 3) := by decide +kernel
theorem dX6_ticks_12 : decode cX6_ticks 12 = .ok (.iconst (-1), 1) := by decide +kernel
theorem dX6_ticks_13 : decode cX6_ticks 13 = .ok (.ireturn, 1) := by decide +kernel
theorem dX6_ticks_14 : decode cX6_ticks 14 = .ok (.aload_n 0, 1) := by decide +kernel
theorem dX6_ticks_15 : decode cX6_ticks 15 = .ok (.getfield 7, 3) := by decide +kernel
theorem dX6_ticks_18 : decode cX6_ticks 18 = .ok (.iconst 0, 1) := by decide +kernel
theorem dX6_ticks_19 : decode cX6_ticks 19 = .ok (.iaload, 1) := by decide +kernel
theorem dX6_ticks_20 : decode cX6_ticks 20 = .ok (.iload_n 1, 1) := by decide +kernel
theorem dX6_ticks_21 : decode cX6_ticks 21 = .ok (.iadd, 1) := by decide +kernel
theorem dX6_ticks_22 : decode cX6_ticks 22 = .ok (.ldc 103, 2) := by decide +kernel
theorem dX6_ticks_24 : decode cX6_ticks 24 = .ok (.if_icmp .le 6, 3) := by decide +kernel
theorem dX6_ticks_27 : decode cX6_ticks 27 = .ok (.bipush (-3), 2) := by decide +kernel
theorem dX6_ticks_29 : decode cX6_ticks 29 = .ok (.ireturn, 1) := by decide +kernel
theorem dX6_ticks_30 : decode cX6_ticks 30 = .ok (.iconst 0, 1) := by decide +kernel
theorem dX6_ticks_31 : decode cX6_ticks 31 = .ok (.istore_n 2, 1) := by decide +kernel
theorem dX6_ticks_32 : decode cX6_ticks 32 = .ok (.iload_n 2, 1) := by decide +kernel
theorem dX6_ticks_33 : decode cX6_ticks 33 = .ok (.iload_n 1, 1) := by decide +kernel
theorem dX6_ticks_34 : decode cX6_ticks 34 = .ok (.if_icmp .ge 13, 3) := by decide +kernel
theorem dX6_ticks_37 : decode cX6_ticks 37 = .ok (.aload_n 0, 1) := by decide +kernel
theorem dX6_ticks_38 : decode cX6_ticks 38 = .ok (.invokevirtual 104, 3) := by decide +kernel
theorem dX6_ticks_41 : decode cX6_ticks 41 = .ok (.iinc 2 1, 3) := by decide +kernel
theorem dX6_ticks_44 : decode cX6_ticks 44 = .ok (.goto (-12), 3) := by decide +kernel
theorem dX6_ticks_47 : decode cX6_ticks 47 = .ok (.aload_n 0, 1) := by decide +kernel
theorem dX6_ticks_48 : decode cX6_ticks 48 = .ok (.getfield 7, 3) := by decide +kernel
theorem dX6_ticks_51 : decode cX6_ticks 51 = .ok (.iconst 0, 1) := by decide +kernel
theorem dX6_ticks_52 : decode cX6_ticks 52 = .ok (.iaload, 1) := by decide +kernel
theorem dX6_ticks_53 : decode cX6_ticks 53 = .ok (.ireturn, 1) := by decide +kernel
theorem dX6_carriage_0 : decode cX6_carriage 0 = .ok (.iload_n 1, 1) := by decide +kernel
theorem dX6_carriage_1 : decode cX6_carriage 1 = .ok (.i2l, 1) := by decide +kernel
theorem dX6_carriage_2 : decode cX6_carriage 2 = .ok (.lconst 0, 1) := by decide +kernel
theorem dX6_carriage_3 : decode cX6_carriage 3 = .ok (.ldc2_w 107, 3) := by decide +kernel
theorem dX6_carriage_6 : decode cX6_carriage 6 = .ok (.invokestatic 43, 3) := by decide +kernel
theorem dX6_carriage_9 : decode cX6_carriage 9 = .ok (.ifCond .eq 14, 3) := by decide +kernel
theorem dX6_carriage_12 : decode cX6_carriage 12 = .ok (.aload_n 0, 1) := by decide +kernel
theorem dX6_carriage_13 : decode cX6_carriage 13 = .ok (.getfield 7, 3) := by decide +kernel
theorem dX6_carriage_16 : decode cX6_carriage 16 = .ok (.iconst 1, 1) := by decide +kernel
theorem dX6_carriage_17 : decode cX6_carriage 17 = .ok (.iload_n 1, 1) := by decide +kernel
theorem dX6_carriage_18 : decode cX6_carriage 18 = .ok (.iadd, 1) := by decide +kernel
theorem dX6_carriage_19 : decode cX6_carriage 19 = .ok (.iaload, 1) := by decide +kernel
theorem dX6_carriage_20 : decode cX6_carriage 20 = .ok (.goto 4, 3) := by decide +kernel
theorem dX6_carriage_23 : decode cX6_carriage 23 = .ok (.iconst (-1), 1) := by decide +kernel
theorem dX6_carriage_24 : decode cX6_carriage 24 = .ok (.ireturn, 1) := by decide +kernel
theorem dX6_count_0 : decode cX6_count 0 = .ok (.iload_n 1, 1) := by decide +kernel
theorem dX6_count_1 : decode cX6_count 1 = .ok (.tableswitch 148 0 8 #[51, 59, 64, 72, 80, 88, 95, 103, 110], 51) := by decide +kernel
theorem dX6_count_52 : decode cX6_count 52 = .ok (.aload_n 0, 1) := by decide +kernel
theorem dX6_count_53 : decode cX6_count 53 = .ok (.getfield 7, 3) := by decide +kernel
theorem dX6_count_56 : decode cX6_count 56 = .ok (.bipush 16, 2) := by decide +kernel
theorem dX6_count_58 : decode cX6_count 58 = .ok (.iaload, 1) := by decide +kernel
theorem dX6_count_59 : decode cX6_count 59 = .ok (.ireturn, 1) := by decide +kernel
theorem dX6_count_60 : decode cX6_count 60 = .ok (.aload_n 0, 1) := by decide +kernel
theorem dX6_count_61 : decode cX6_count 61 = .ok (.invokevirtual 82, 3) := by decide +kernel
theorem dX6_count_64 : decode cX6_count 64 = .ok (.ireturn, 1) := by decide +kernel
theorem dX6_count_65 : decode cX6_count 65 = .ok (.aload_n 0, 1) := by decide +kernel
theorem dX6_count_66 : decode cX6_count 66 = .ok (.getfield 7, 3) := by decide +kernel
theorem dX6_count_69 : decode cX6_count 69 = .ok (.bipush 7, 2) := by decide +kernel
theorem dX6_count_71 : decode cX6_count 71 = .ok (.iaload, 1) := by decide +kernel
theorem dX6_count_72 : decode cX6_count 72 = .ok (.ireturn, 1) := by decide +kernel
theorem dX6_count_73 : decode cX6_count 73 = .ok (.aload_n 0, 1) := by decide +kernel
theorem dX6_count_74 : decode cX6_count 74 = .ok (.getfield 7, 3) := by decide +kernel
theorem dX6_count_77 : decode cX6_count 77 = .ok (.bipush 8, 2) := by decide +kernel
theorem dX6_count_79 : decode cX6_count 79 = .ok (.iaload, 1) := by decide +kernel
theorem dX6_count_80 : decode cX6_count 80 = .ok (.ireturn, 1) := by decide +kernel
theorem dX6_count_81 : decode cX6_count 81 = .ok (.aload_n 0, 1) := by decide +kernel
theorem dX6_count_82 : decode cX6_count 82 = .ok (.getfield 7, 3) := by decide +kernel
theorem dX6_count_85 : decode cX6_count 85 = .ok (.bipush 10, 2) := by decide +kernel
theorem dX6_count_87 : decode cX6_count 87 = .ok (.iaload, 1) := by decide +kernel
theorem dX6_count_88 : decode cX6_count 88 = .ok (.ireturn, 1) := by decide +kernel
theorem dX6_count_89 : decode cX6_count 89 = .ok (.aload_n 0, 1) := by decide +kernel
theorem dX6_count_90 : decode cX6_count 90 = .ok (.getfield 7, 3) := by decide +kernel
theorem dX6_count_93 : decode cX6_count 93 = .ok (.iconst 5, 1) := by decide +kernel
theorem dX6_count_94 : decode cX6_count 94 = .ok (.iaload, 1) := by decide +kernel
theorem dX6_count_95 : decode cX6_count 95 = .ok (.ireturn, 1) := by decide +kernel
theorem dX6_count_96 : decode cX6_count 96 = .ok (.aload_n 0, 1) := by decide +kernel
theorem dX6_count_97 : decode cX6_count 97 = .ok (.getfield 7, 3) := by decide +kernel
theorem dX6_count_100 : decode cX6_count 100 = .ok (.bipush 6, 2) := by decide +kernel
theorem dX6_count_102 : decode cX6_count 102 = .ok (.iaload, 1) := by decide +kernel
theorem dX6_count_103 : decode cX6_count 103 = .ok (.ireturn, 1) := by decide +kernel
theorem dX6_count_104 : decode cX6_count 104 = .ok (.aload_n 0, 1) := by decide +kernel
theorem dX6_count_105 : decode cX6_count 105 = .ok (.getfield 7, 3) := by decide +kernel
theorem dX6_count_108 : decode cX6_count 108 = .ok (.iconst 0, 1) := by decide +kernel
theorem dX6_count_109 : decode cX6_count 109 = .ok (.iaload, 1) := by decide +kernel
theorem dX6_count_110 : decode cX6_count 110 = .ok (.ireturn, 1) := by decide +kernel
theorem dX6_count_111 : decode cX6_count 111 = .ok (.iconst 0, 1) := by decide +kernel
theorem dX6_count_112 : decode cX6_count 112 = .ok (.istore_n 2, 1) := by decide +kernel
theorem dX6_count_113 : decode cX6_count 113 = .ok (.iconst 0, 1) := by decide +kernel
theorem dX6_count_114 : decode cX6_count 114 = .ok (.istore_n 3, 1) := by decide +kernel
theorem dX6_count_115 : decode cX6_count 115 = .ok (.iload_n 3, 1) := by decide +kernel
theorem dX6_count_116 : decode cX6_count 116 = .ok (.bipush 10, 2) := by decide +kernel
theorem dX6_count_118 : decode cX6_count 118 = .ok (.if_icmp .ge 29, 3) := by decide +kernel
theorem dX6_count_121 : decode cX6_count 121 = .ok (.iload_n 2, 1) := by decide +kernel
theorem dX6_count_122 : decode cX6_count 122 = .ok (.aload_n 0, 1) := by decide +kernel
theorem dX6_count_123 : decode cX6_count 123 = .ok (.getfield 7, 3) := by decide +kernel
theorem dX6_count_126 : decode cX6_count 126 = .ok (.bipush 20, 2) := by decide +kernel
theorem dX6_count_128 : decode cX6_count 128 = .ok (.iload_n 3, 1) := by decide +kernel
theorem dX6_count_129 : decode cX6_count 129 = .ok (.iadd, 1) := by decide +kernel
theorem dX6_count_130 : decode cX6_count 130 = .ok (.iaload, 1) := by decide +kernel
theorem dX6_count_131 : decode cX6_count 131 = .ok (.ifCond .ge 7, 3) := by decide +kernel
theorem dX6_count_134 : decode cX6_count 134 = .ok (.iconst 1, 1) := by decide +kernel
theorem dX6_count_135 : decode cX6_count 135 = .ok (.goto 4, 3) := by decide +kernel
theorem dX6_count_138 : decode cX6_count 138 = .ok (.iconst 0, 1) := by decide +kernel
theorem dX6_count_139 : decode cX6_count 139 = .ok (.iadd, 1) := by decide +kernel
theorem dX6_count_140 : decode cX6_count 140 = .ok (.istore_n 2, 1) := by decide +kernel
theorem dX6_count_141 : decode cX6_count 141 = .ok (.iinc 3 1, 3) := by decide +kernel
theorem dX6_count_144 : decode cX6_count 144 = .ok (.goto (-29), 3) := by decide +kernel
theorem dX6_count_147 : decode cX6_count 147 = .ok (.iload_n 2, 1) := by decide +kernel
theorem dX6_count_148 : decode cX6_count 148 = .ok (.ireturn, 1) := by decide +kernel
theorem dX6_count_149 : decode cX6_count 149 = .ok (.iconst (-1), 1) := by decide +kernel
theorem dX6_count_150 : decode cX6_count 150 = .ok (.ireturn, 1) := by decide +kernel
theorem dX6_foretell_0 : decode cX6_foretell 0 = .ok (.aload_n 0, 1) := by decide +kernel
end
section
theorem dX6_foretell_1 : decode cX6_foretell 1 = .ok (.aload_n 0, 1) := by decide +kernel
theorem dX6_foretell_2 : decode cX6_foretell 2 = .ok (.getfield 13, 3) := by decide +kernel
theorem dX6_foretell_5 : decode cX6_foretell 5 = .ok (.invokevirtual 109, 3) := by decide +kernel
theorem dX6_foretell_8 : decode cX6_foretell 8 = .ok (.aload_n 0, 1) := by decide +kernel
theorem dX6_foretell_9 : decode cX6_foretell 9 = .ok (.iconst 0, 1) := by decide +kernel
theorem dX6_foretell_10 : decode cX6_foretell 10 = .ok (.putfield 113, 3) := by decide +kernel
theorem dX6_foretell_13 : decode cX6_foretell 13 = .ok (.iconst 0, 1) := by decide +kernel
theorem dX6_foretell_14 : decode cX6_foretell 14 = .ok (.istore_n 1, 1) := by decide +kernel
theorem dX6_foretell_15 : decode cX6_foretell 15 = .ok (.iconst 0, 1) := by decide +kernel
theorem dX6_foretell_16 : decode cX6_foretell 16 = .ok (.istore_n 2, 1) := by decide +kernel
theorem dX6_foretell_17 : decode cX6_foretell 17 = .ok (.aload_n 0, 1) := by decide +kernel
theorem dX6_foretell_18 : decode cX6_foretell 18 = .ok (.getfield 113, 3) := by decide +kernel
theorem dX6_foretell_21 : decode cX6_foretell 21 = .ok (.bipush 64, 2) := by decide +kernel
theorem dX6_foretell_23 : decode cX6_foretell 23 = .ok (.if_icmp .ge 91, 3) := by decide +kernel
theorem dX6_foretell_26 : decode cX6_foretell 26 = .ok (.iload_n 2, 1) := by decide +kernel
theorem dX6_foretell_27 : decode cX6_foretell 27 = .ok (.sipush 2000, 3) := by decide +kernel
theorem dX6_foretell_30 : decode cX6_foretell 30 = .ok (.if_icmp .ge 84, 3) := by decide +kernel
theorem dX6_foretell_33 : decode cX6_foretell 33 = .ok (.aload_n 0, 1) := by decide +kernel
theorem dX6_foretell_34 : decode cX6_foretell 34 = .ok (.getfield 7, 3) := by decide +kernel
theorem dX6_foretell_37 : decode cX6_foretell 37 = .ok (.iconst 3, 1) := by decide +kernel
theorem dX6_foretell_38 : decode cX6_foretell 38 = .ok (.iaload, 1) := by decide +kernel
theorem dX6_foretell_39 : decode cX6_foretell 39 = .ok (.ifCond .ne 10, 3) := by decide +kernel
theorem dX6_foretell_42 : decode cX6_foretell 42 = .ok (.aload_n 0, 1) := by decide +kernel
theorem dX6_foretell_43 : decode cX6_foretell 43 = .ok (.invokevirtual 82, 3) := by decide +kernel
theorem dX6_foretell_46 : decode cX6_foretell 46 = .ok (.ifCond .eq 68, 3) := by decide +kernel
theorem dX6_foretell_49 : decode cX6_foretell 49 = .ok (.aload_n 0, 1) := by decide +kernel
theorem dX6_foretell_50 : decode cX6_foretell 50 = .ok (.getfield 7, 3) := by decide +kernel
theorem dX6_foretell_53 : decode cX6_foretell 53 = .ok (.iconst 5, 1) := by decide +kernel
theorem dX6_foretell_54 : decode cX6_foretell 54 = .ok (.iaload, 1) := by decide +kernel
theorem dX6_foretell_55 : decode cX6_foretell 55 = .ok (.istore_n 3, 1) := by decide +kernel
theorem dX6_foretell_56 : decode cX6_foretell 56 = .ok (.aload_n 0, 1) := by decide +kernel
theorem dX6_foretell_57 : decode cX6_foretell 57 = .ok (.invokevirtual 104, 3) := by decide +kernel
theorem dX6_foretell_60 : decode cX6_foretell 60 = .ok (.iinc 1 1, 3) := by decide +kernel
theorem dX6_foretell_63 : decode cX6_foretell 63 = .ok (.iinc 2 1, 3) := by decide +kernel
theorem dX6_foretell_66 : decode cX6_foretell 66 = .ok (.aload_n 0, 1) := by decide +kernel
theorem dX6_foretell_67 : decode cX6_foretell 67 = .ok (.getfield 7, 3) := by decide +kernel
theorem dX6_foretell_70 : decode cX6_foretell 70 = .ok (.iconst 5, 1) := by decide +kernel
theorem dX6_foretell_71 : decode cX6_foretell 71 = .ok (.iaload, 1) := by decide +kernel
theorem dX6_foretell_72 : decode cX6_foretell 72 = .ok (.iload_n 3, 1) := by decide +kernel
theorem dX6_foretell_73 : decode cX6_foretell 73 = .ok (.if_icmp .le 38, 3) := by decide +kernel
theorem dX6_foretell_76 : decode cX6_foretell 76 = .ok (.aload_n 0, 1) := by decide +kernel
theorem dX6_foretell_77 : decode cX6_foretell 77 = .ok (.getfield 16, 3) := by decide +kernel
theorem dX6_foretell_80 : decode cX6_foretell 80 = .ok (.aload_n 0, 1) := by decide +kernel
theorem dX6_foretell_81 : decode cX6_foretell 81 = .ok (.getfield 113, 3) := by decide +kernel
theorem dX6_foretell_84 : decode cX6_foretell 84 = .ok (.aload_n 0, 1) := by decide +kernel
theorem dX6_foretell_85 : decode cX6_foretell 85 = .ok (.invokevirtual 89, 3) := by decide +kernel
theorem dX6_foretell_88 : decode cX6_foretell 88 = .ok (.iastore, 1) := by decide +kernel
theorem dX6_foretell_89 : decode cX6_foretell 89 = .ok (.aload_n 0, 1) := by decide +kernel
theorem dX6_foretell_90 : decode cX6_foretell 90 = .ok (.getfield 19, 3) := by decide +kernel
theorem dX6_foretell_93 : decode cX6_foretell 93 = .ok (.aload_n 0, 1) := by decide +kernel
theorem dX6_foretell_94 : decode cX6_foretell 94 = .ok (.getfield 113, 3) := by decide +kernel
theorem dX6_foretell_97 : decode cX6_foretell 97 = .ok (.iload_n 1, 1) := by decide +kernel
theorem dX6_foretell_98 : decode cX6_foretell 98 = .ok (.iastore, 1) := by decide +kernel
theorem dX6_foretell_99 : decode cX6_foretell 99 = .ok (.aload_n 0, 1) := by decide +kernel
theorem dX6_foretell_100 : decode cX6_foretell 100 = .ok (.dup, 1) := by decide +kernel
theorem dX6_foretell_101 : decode cX6_foretell 101 = .ok (.getfield 113, 3) := by decide +kernel
theorem dX6_foretell_104 : decode cX6_foretell 104 = .ok (.iconst 1, 1) := by decide +kernel
theorem dX6_foretell_105 : decode cX6_foretell 105 = .ok (.iadd, 1) := by decide +kernel
theorem dX6_foretell_106 : decode cX6_foretell 106 = .ok (.putfield 113, 3) := by decide +kernel
theorem dX6_foretell_109 : decode cX6_foretell 109 = .ok (.iconst 0, 1) := by decide +kernel
theorem dX6_foretell_110 : decode cX6_foretell 110 = .ok (.istore_n 2, 1) := by decide +kernel
theorem dX6_foretell_111 : decode cX6_foretell 111 = .ok (.goto (-94), 3) := by decide +kernel
theorem dX6_foretell_114 : decode cX6_foretell 114 = .ok (.aload_n 0, 1) := by decide +kernel
theorem dX6_foretell_115 : decode cX6_foretell 115 = .ok (.iload_n 1, 1) := by decide +kernel
theorem dX6_foretell_116 : decode cX6_foretell 116 = .ok (.putfield 117, 3) := by decide +kernel
theorem dX6_foretell_119 : decode cX6_foretell 119 = .ok (.aload_n 0, 1) := by decide +kernel
theorem dX6_foretell_120 : decode cX6_foretell 120 = .ok (.aload_n 0, 1) := by decide +kernel
theorem dX6_foretell_121 : decode cX6_foretell 121 = .ok (.getfield 13, 3) := by decide +kernel
theorem dX6_foretell_124 : decode cX6_foretell 124 = .ok (.invokevirtual 120, 3) := by decide +kernel
theorem dX6_foretell_127 : decode cX6_foretell 127 = .ok (.return_, 1) := by decide +kernel
theorem dX6_next_0 : decode cX6_next 0 = .ok (.iload_n 1, 1) := by decide +kernel
theorem dX6_next_1 : decode cX6_next 1 = .ok (.i2l, 1) := by decide +kernel
theorem dX6_next_2 : decode cX6_next 2 = .ok (.lconst 0, 1) := by decide +kernel
theorem dX6_next_3 : decode cX6_next 3 = .ok (.ldc2_w 123, 3) := by decide +kernel
theorem dX6_next_6 : decode cX6_next 6 = .ok (.invokestatic 43, 3) := by decide +kernel
theorem dX6_next_9 : decode cX6_next 9 = .ok (.ifCond .ne 5, 3) := by decide +kernel
theorem dX6_next_12 : decode cX6_next 12 = .ok (.iconst (-1), 1) := by decide +kernel
theorem dX6_next_13 : decode cX6_next 13 = .ok (.ireturn, 1) := by decide +kernel
theorem dX6_next_14 : decode cX6_next 14 = .ok (.aload_n 0, 1) := by decide +kernel
theorem dX6_next_15 : decode cX6_next 15 = .ok (.invokevirtual 125, 3) := by decide +kernel
theorem dX6_next_18 : decode cX6_next 18 = .ok (.iload_n 1, 1) := by decide +kernel
theorem dX6_next_19 : decode cX6_next 19 = .ok (.aload_n 0, 1) := by decide +kernel
theorem dX6_next_20 : decode cX6_next 20 = .ok (.getfield 113, 3) := by decide +kernel
theorem dX6_next_23 : decode cX6_next 23 = .ok (.if_icmp .ge 12, 3) := by decide +kernel
theorem dX6_next_26 : decode cX6_next 26 = .ok (.aload_n 0, 1) := by decide +kernel
theorem dX6_next_27 : decode cX6_next 27 = .ok (.getfield 16, 3) := by decide +kernel
theorem dX6_next_30 : decode cX6_next 30 = .ok (.iload_n 1, 1) := by decide +kernel
theorem dX6_next_31 : decode cX6_next 31 = .ok (.iaload, 1) := by decide +kernel
theorem dX6_next_32 : decode cX6_next 32 = .ok (.goto 5, 3) := by decide +kernel
theorem dX6_next_35 : decode cX6_next 35 = .ok (.bipush (-4), 2) := by decide +kernel
theorem dX6_next_37 : decode cX6_next 37 = .ok (.ireturn, 1) := by decide +kernel
theorem dX6_when_0 : decode cX6_when 0 = .ok (.iload_n 1, 1) := by decide +kernel
theorem dX6_when_1 : decode cX6_when 1 = .ok (.invokestatic 67, 3) := by decide +kernel
theorem dX6_when_4 : decode cX6_when 4 = .ok (.ifCond .ne 5, 3) := by decide +kernel
theorem dX6_when_7 : decode cX6_when 7 = .ok (.iconst (-1), 1) := by decide +kernel
theorem dX6_when_8 : decode cX6_when 8 = .ok (.ireturn, 1) := by decide +kernel
theorem dX6_when_9 : decode cX6_when 9 = .ok (.aload_n 0, 1) := by decide +kernel
theorem dX6_when_10 : decode cX6_when 10 = .ok (.invokevirtual 125, 3) := by decide +kernel
theorem dX6_when_13 : decode cX6_when 13 = .ok (.iconst 0, 1) := by decide +kernel
theorem dX6_when_14 : decode cX6_when 14 = .ok (.istore_n 2, 1) := by decide +kernel
theorem dX6_when_15 : decode cX6_when 15 = .ok (.iload_n 2, 1) := by decide +kernel
theorem dX6_when_16 : decode cX6_when 16 = .ok (.aload_n 0, 1) := by decide +kernel
theorem dX6_when_17 : decode cX6_when 17 = .ok (.getfield 113, 3) := by decide +kernel
theorem dX6_when_20 : decode cX6_when 20 = .ok (.if_icmp .ge 26, 3) := by decide +kernel
theorem dX6_when_23 : decode cX6_when 23 = .ok (.aload_n 0, 1) := by decide +kernel
theorem dX6_when_24 : decode cX6_when 24 = .ok (.getfield 16, 3) := by decide +kernel
theorem dX6_when_27 : decode cX6_when 27 = .ok (.iload_n 2, 1) := by decide +kernel
theorem dX6_when_28 : decode cX6_when 28 = .ok (.iaload, 1) := by decide +kernel
theorem dX6_when_29 : decode cX6_when 29 = .ok (.iload_n 1, 1) := by decide +kernel
theorem dX6_when_30 : decode cX6_when 30 = .ok (.if_icmp .ne 10, 3) := by decide +kernel
theorem dX6_when_33 : decode cX6_when 33 = .ok (.aload_n 0, 1) := by decide +kernel
theorem dX6_when_34 : decode cX6_when 34 = .ok (.getfield 19, 3) := by decide +kernel
theorem dX6_when_37 : decode cX6_when 37 = .ok (.iload_n 2, 1) := by decide +kernel
theorem dX6_when_38 : decode cX6_when 38 = .ok (.iaload, 1) := by decide +kernel
theorem dX6_when_39 : decode cX6_when 39 = .ok (.ireturn, 1) := by decide +kernel
theorem dX6_when_40 : decode cX6_when 40 = .ok (.iinc 2 1, 3) := by decide +kernel
theorem dX6_when_43 : decode cX6_when 43 = .ok (.goto (-28), 3) := by decide +kernel
theorem dX6_when_46 : decode cX6_when 46 = .ok (.bipush (-4), 2) := by decide +kernel
theorem dX6_when_48 : decode cX6_when 48 = .ok (.ireturn, 1) := by decide +kernel
theorem dX6_isStuckIn_0 : decode cX6_isStuckIn 0 = .ok (.iconst 0, 1) := by decide +kernel
theorem dX6_isStuckIn_1 : decode cX6_isStuckIn 1 = .ok (.istore_n 1, 1) := by decide +kernel
theorem dX6_isStuckIn_2 : decode cX6_isStuckIn 2 = .ok (.iconst 0, 1) := by decide +kernel
theorem dX6_isStuckIn_3 : decode cX6_isStuckIn 3 = .ok (.istore_n 2, 1) := by decide +kernel
theorem dX6_isStuckIn_4 : decode cX6_isStuckIn 4 = .ok (.iload_n 2, 1) := by decide +kernel
theorem dX6_isStuckIn_5 : decode cX6_isStuckIn 5 = .ok (.bipush 20, 2) := by decide +kernel
theorem dX6_isStuckIn_7 : decode cX6_isStuckIn 7 = .ok (.if_icmp .ge 32, 3) := by decide +kernel
theorem dX6_isStuckIn_10 : decode cX6_isStuckIn 10 = .ok (.iload_n 1, 1) := by decide +kernel
theorem dX6_isStuckIn_11 : decode cX6_isStuckIn 11 = .ok (.ifCond .ne 16, 3) := by decide +kernel
theorem dX6_isStuckIn_14 : decode cX6_isStuckIn 14 = .ok (.aload_n 0, 1) := by decide +kernel
theorem dX6_isStuckIn_15 : decode cX6_isStuckIn 15 = .ok (.getfield 7, 3) := by decide +kernel
theorem dX6_isStuckIn_18 : decode cX6_isStuckIn 18 = .ok (.bipush 50, 2) := by decide +kernel
theorem dX6_isStuckIn_20 : decode cX6_isStuckIn 20 = .ok (.iload_n 2, 1) := by decide +kernel
theorem dX6_isStuckIn_21 : decode cX6_isStuckIn 21 = .ok (.iadd, 1) := by decide +kernel
theorem dX6_isStuckIn_22 : decode cX6_isStuckIn 22 = .ok (.iaload, 1) := by decide +kernel
theorem dX6_isStuckIn_23 : decode cX6_isStuckIn 23 = .ok (.iconst 1, 1) := by decide +kernel
theorem dX6_isStuckIn_24 : decode cX6_isStuckIn 24 = .ok (.if_icmp .ne 7, 3) := by decide +kernel
theorem dX6_isStuckIn_27 : decode cX6_isStuckIn 27 = .ok (.iconst 1, 1) := by decide +kernel
theorem dX6_isStuckIn_28 : decode cX6_isStuckIn 28 = .ok (.goto 4, 3) := by decide +kernel
theorem dX6_isStuckIn_31 : decode cX6_isStuckIn 31 = .ok (.iconst 0, 1) := by decide +kernel
theorem dX6_isStuckIn_32 : decode cX6_isStuckIn 32 = .ok (.istore_n 1, 1) := by decide +kernel
theorem dX6_isStuckIn_33 : decode cX6_isStuckIn 33 = .ok (.iinc 2 1, 3) := by decide +kernel
theorem dX6_isStuckIn_36 : decode cX6_isStuckIn 36 = .ok (.goto (-32), 3) := by decide +kernel
theorem dX6_isStuckIn_39 : decode cX6_isStuckIn 39 = .ok (.iload_n 1, 1) := by decide +kernel
theorem dX6_isStuckIn_40 : decode cX6_isStuckIn 40 = .ok (.ireturn, 1) := by decide +kernel
theorem dX6_done_0 : decode cX6_done 0 = .ok (.aload_n 0, 1) := by decide +kernel
theorem dX6_done_1 : decode cX6_done 1 = .ok (.invokevirtual 128, 3) := by decide +kernel
theorem dX6_done_4 : decode cX6_done 4 = .ok (.ifCond .eq 6, 3) := by decide +kernel
theorem dX6_done_7 : decode cX6_done 7 = .ok (.bipush (-2), 2) := by decide +kernel
theorem dX6_done_9 : decode cX6_done 9 = .ok (.ireturn, 1) := by decide +kernel
theorem dX6_done_10 : decode cX6_done 10 = .ok (.aload_n 0, 1) := by decide +kernel
theorem dX6_done_11 : decode cX6_done 11 = .ok (.invokevirtual 125, 3) := by decide +kernel
theorem dX6_done_14 : decode cX6_done 14 = .ok (.aload_n 0, 1) := by decide +kernel
theorem dX6_done_15 : decode cX6_done 15 = .ok (.getfield 117, 3) := by decide +kernel
theorem dX6_done_18 : decode cX6_done 18 = .ok (.ireturn, 1) := by decide +kernel
theorem dX6_better_0 : decode cX6_better 0 = .ok (.iload_n 1, 1) := by decide +kernel
theorem dX6_better_1 : decode cX6_better 1 = .ok (.i2l, 1) := by decide +kernel
theorem dX6_better_2 : decode cX6_better 2 = .ok (.lconst 0, 1) := by decide +kernel
theorem dX6_better_3 : decode cX6_better 3 = .ok (.ldc2_w 70, 3) := by decide +kernel
theorem dX6_better_6 : decode cX6_better 6 = .ok (.invokestatic 43, 3) := by decide +kernel
theorem dX6_better_9 : decode cX6_better 9 = .ok (.ifCond .ne 5, 3) := by decide +kernel
theorem dX6_better_12 : decode cX6_better 12 = .ok (.iconst (-1), 1) := by decide +kernel
theorem dX6_better_13 : decode cX6_better 13 = .ok (.ireturn, 1) := by decide +kernel
theorem dX6_better_14 : decode cX6_better 14 = .ok (.aload_n 0, 1) := by decide +kernel
theorem dX6_better_15 : decode cX6_better 15 = .ok (.invokevirtual 128, 3) := by decide +kernel
theorem dX6_better_18 : decode cX6_better 18 = .ok (.ifCond .eq 6, 3) := by decide +kernel
theorem dX6_better_21 : decode cX6_better 21 = .ok (.bipush (-2), 2) := by decide +kernel
theorem dX6_better_23 : decode cX6_better 23 = .ok (.ireturn, 1) := by decide +kernel
theorem dX6_better_24 : decode cX6_better 24 = .ok (.aload_n 0, 1) := by decide +kernel
theorem dX6_better_25 : decode cX6_better 25 = .ok (.invokevirtual 125, 3) := by decide +kernel
theorem dX6_better_28 : decode cX6_better 28 = .ok (.aload_n 0, 1) := by decide +kernel
theorem dX6_better_29 : decode cX6_better 29 = .ok (.getfield 117, 3) := by decide +kernel
theorem dX6_better_32 : decode cX6_better 32 = .ok (.istore_n 2, 1) := by decide +kernel
theorem dX6_better_33 : decode cX6_better 33 = .ok (.bipush (-4), 2) := by decide +kernel
theorem dX6_better_35 : decode cX6_better 35 = .ok (.istore_n 3, 1) := by decide +kernel
theorem dX6_better_36 : decode cX6_better 36 = .ok (.bipush (-4), 2) := by decide +kernel
theorem dX6_better_38 : decode cX6_better 38 = .ok (.istore 4, 2) := by decide +kernel
theorem dX6_better_40 : decode cX6_better 40 = .ok (.iconst 0, 1) := by decide +kernel
theorem dX6_better_41 : decode cX6_better 41 = .ok (.istore 5, 2) := by decide +kernel
theorem dX6_better_43 : decode cX6_better 43 = .ok (.iload 5, 2) := by decide +kernel
theorem dX6_better_45 : decode cX6_better 45 = .ok (.bipush 10, 2) := by decide +kernel
theorem dX6_better_47 : decode cX6_better 47 = .ok (.if_icmp .ge 146, 3) := by decide +kernel
theorem dX6_better_50 : decode cX6_better 50 = .ok (.iload 5, 2) := by decide +kernel
theorem dX6_better_52 : decode cX6_better 52 = .ok (.iconst 1, 1) := by decide +kernel
theorem dX6_better_53 : decode cX6_better 53 = .ok (.iadd, 1) := by decide +kernel
theorem dX6_better_54 : decode cX6_better 54 = .ok (.istore 6, 2) := by decide +kernel
theorem dX6_better_56 : decode cX6_better 56 = .ok (.iload 6, 2) := by decide +kernel
theorem dX6_better_58 : decode cX6_better 58 = .ok (.bipush 10, 2) := by decide +kernel
theorem dX6_better_60 : decode cX6_better 60 = .ok (.if_icmp .ge 127, 3) := by decide +kernel
theorem dX6_better_63 : decode cX6_better 63 = .ok (.aload_n 0, 1) := by decide +kernel
theorem dX6_better_64 : decode cX6_better 64 = .ok (.iload 5, 2) := by decide +kernel
theorem dX6_better_66 : decode cX6_better 66 = .ok (.invokevirtual 64, 3) := by decide +kernel
theorem dX6_better_69 : decode cX6_better 69 = .ok (.ifCond .ne 112, 3) := by decide +kernel
theorem dX6_better_72 : decode cX6_better 72 = .ok (.aload_n 0, 1) := by decide +kernel
theorem dX6_better_73 : decode cX6_better 73 = .ok (.iload 6, 2) := by decide +kernel
theorem dX6_better_75 : decode cX6_better 75 = .ok (.invokevirtual 64, 3) := by decide +kernel
theorem dX6_better_78 : decode cX6_better 78 = .ok (.ifCond .ne 103, 3) := by decide +kernel
theorem dX6_better_81 : decode cX6_better 81 = .ok (.aload_n 0, 1) := by decide +kernel
theorem dX6_better_82 : decode cX6_better 82 = .ok (.getfield 7, 3) := by decide +kernel
theorem dX6_better_85 : decode cX6_better 85 = .ok (.bipush 20, 2) := by decide +kernel
theorem dX6_better_87 : decode cX6_better 87 = .ok (.iload 5, 2) := by decide +kernel
theorem dX6_better_89 : decode cX6_better 89 = .ok (.iadd, 1) := by decide +kernel
theorem dX6_better_90 : decode cX6_better 90 = .ok (.iaload, 1) := by decide +kernel
theorem dX6_better_91 : decode cX6_better 91 = .ok (.istore 7, 2) := by decide +kernel
theorem dX6_better_93 : decode cX6_better 93 = .ok (.aload_n 0, 1) := by decide +kernel
theorem dX6_better_94 : decode cX6_better 94 = .ok (.getfield 7, 3) := by decide +kernel
theorem dX6_better_97 : decode cX6_better 97 = .ok (.bipush 20, 2) := by decide +kernel
theorem dX6_better_99 : decode cX6_better 99 = .ok (.iload 5, 2) := by decide +kernel
theorem dX6_better_101 : decode cX6_better 101 = .ok (.iadd, 1) := by decide +kernel
theorem dX6_better_102 : decode cX6_better 102 = .ok (.aload_n 0, 1) := by decide +kernel
theorem dX6_better_103 : decode cX6_better 103 = .ok (.getfield 7, 3) := by decide +kernel
theorem dX6_better_106 : decode cX6_better 106 = .ok (.bipush 20, 2) := by decide +kernel
theorem dX6_better_108 : decode cX6_better 108 = .ok (.iload 6, 2) := by decide +kernel
theorem dX6_better_110 : decode cX6_better 110 = .ok (.iadd, 1) := by decide +kernel
theorem dX6_better_111 : decode cX6_better 111 = .ok (.iaload, 1) := by decide +kernel
theorem dX6_better_112 : decode cX6_better 112 = .ok (.iastore, 1) := by decide +kernel
theorem dX6_better_113 : decode cX6_better 113 = .ok (.aload_n 0, 1) := by decide +kernel
theorem dX6_better_114 : decode cX6_better 114 = .ok (.getfield 7, 3) := by decide +kernel
theorem dX6_better_117 : decode cX6_better 117 = .ok (.bipush 20, 2) := by decide +kernel
theorem dX6_better_119 : decode cX6_better 119 = .ok (.iload 6, 2) := by decide +kernel
theorem dX6_better_121 : decode cX6_better 121 = .ok (.iadd, 1) := by decide +kernel
theorem dX6_better_122 : decode cX6_better 122 = .ok (.iload 7, 2) := by decide +kernel
theorem dX6_better_124 : decode cX6_better 124 = .ok (.iastore, 1) := by decide +kernel
theorem dX6_better_125 : decode cX6_better 125 = .ok (.aload_n 0, 1) := by decide +kernel
theorem dX6_better_126 : decode cX6_better 126 = .ok (.invokevirtual 125, 3) := by decide +kernel
theorem dX6_better_129 : decode cX6_better 129 = .ok (.aload_n 0, 1) := by decide +kernel
theorem dX6_better_130 : decode cX6_better 130 = .ok (.getfield 7, 3) := by decide +kernel
theorem dX6_better_133 : decode cX6_better 133 = .ok (.bipush 20, 2) := by decide +kernel
theorem dX6_better_135 : decode cX6_better 135 = .ok (.iload 6, 2) := by decide +kernel
theorem dX6_better_137 : decode cX6_better 137 = .ok (.iadd, 1) := by decide +kernel
theorem dX6_better_138 : decode cX6_better 138 = .ok (.aload_n 0, 1) := by decide +kernel
theorem dX6_better_139 : decode cX6_better 139 = .ok (.getfield 7, 3) := by decide +kernel
theorem dX6_better_142 : decode cX6_better 142 = .ok (.bipush 20, 2) := by decide +kernel
theorem dX6_better_144 : decode cX6_better 144 = .ok (.iload 5, 2) := by decide +kernel
theorem dX6_better_146 : decode cX6_better 146 = .ok (.iadd, 1) := by decide +kernel
theorem dX6_better_147 : decode cX6_better 147 = .ok (.iaload, 1) := by decide +kernel
theorem dX6_better_148 : decode cX6_better 148 = .ok (.iastore, 1) := by decide +kernel
theorem dX6_better_149 : decode cX6_better 149 = .ok (.aload_n 0, 1) := by decide +kernel
theorem dX6_better_150 : decode cX6_better 150 = .ok (.getfield 7, 3) := by decide +kernel
theorem dX6_better_153 : decode cX6_better 153 = .ok (.bipush 20, 2) := by decide +kernel
theorem dX6_better_155 : decode cX6_better 155 = .ok (.iload 5, 2) := by decide +kernel
theorem dX6_better_157 : decode cX6_better 157 = .ok (.iadd, 1) := by decide +kernel
theorem dX6_better_158 : decode cX6_better 158 = .ok (.iload 7, 2) := by decide +kernel
theorem dX6_better_160 : decode cX6_better 160 = .ok (.iastore, 1) := by decide +kernel
theorem dX6_better_161 : decode cX6_better 161 = .ok (.aload_n 0, 1) := by decide +kernel
theorem dX6_better_162 : decode cX6_better 162 = .ok (.getfield 117, 3) := by decide +kernel
theorem dX6_better_165 : decode cX6_better 165 = .ok (.iload_n 2, 1) := by decide +kernel
theorem dX6_better_166 : decode cX6_better 166 = .ok (.if_icmp .ge 15, 3) := by decide +kernel
theorem dX6_better_169 : decode cX6_better 169 = .ok (.aload_n 0, 1) := by decide +kernel
theorem dX6_better_170 : decode cX6_better 170 = .ok (.getfield 117, 3) := by decide +kernel
theorem dX6_better_173 : decode cX6_better 173 = .ok (.istore_n 2, 1) := by decide +kernel
theorem dX6_better_174 : decode cX6_better 174 = .ok (.iload 5, 2) := by decide +kernel
theorem dX6_better_176 : decode cX6_better 176 = .ok (.istore_n 3, 1) := by decide +kernel
theorem dX6_better_177 : decode cX6_better 177 = .ok (.iload 6, 2) := by decide +kernel
theorem dX6_better_179 : decode cX6_better 179 = .ok (.istore 4, 2) := by decide +kernel
theorem dX6_better_181 : decode cX6_better 181 = .ok (.iinc 6 1, 3) := by decide +kernel
theorem dX6_better_184 : decode cX6_better 184 = .ok (.goto (-128), 3) := by decide +kernel
theorem dX6_better_187 : decode cX6_better 187 = .ok (.iinc 5 1, 3) := by decide +kernel
theorem dX6_better_190 : decode cX6_better 190 = .ok (.goto (-147), 3) := by decide +kernel
theorem dX6_better_193 : decode cX6_better 193 = .ok (.iload_n 3, 1) := by decide +kernel
theorem dX6_better_194 : decode cX6_better 194 = .ok (.ifCond .ge 8, 3) := by decide +kernel
theorem dX6_better_197 : decode cX6_better 197 = .ok (.bipush (-4), 2) := by decide +kernel
theorem dX6_better_199 : decode cX6_better 199 = .ok (.goto 22, 3) := by decide +kernel
theorem dX6_better_202 : decode cX6_better 202 = .ok (.iload_n 1, 1) := by decide +kernel
theorem dX6_better_203 : decode cX6_better 203 = .ok (.ifCond .ne 7, 3) := by decide +kernel
theorem dX6_better_206 : decode cX6_better 206 = .ok (.iload_n 3, 1) := by decide +kernel
theorem dX6_better_207 : decode cX6_better 207 = .ok (.goto 14, 3) := by decide +kernel
theorem dX6_better_210 : decode cX6_better 210 = .ok (.iload_n 1, 1) := by decide +kernel
theorem dX6_better_211 : decode cX6_better 211 = .ok (.iconst 1, 1) := by decide +kernel
theorem dX6_better_212 : decode cX6_better 212 = .ok (.if_icmp .ne 8, 3) := by decide +kernel
theorem dX6_better_215 : decode cX6_better 215 = .ok (.iload 4, 2) := by decide +kernel
theorem dX6_better_217 : decode cX6_better 217 = .ok (.goto 4, 3) := by decide +kernel
theorem dX6_better_220 : decode cX6_better 220 = .ok (.iload_n 2, 1) := by decide +kernel
theorem dX6_better_221 : decode cX6_better 221 = .ok (.ireturn, 1) := by decide +kernel
theorem dX6_hear_0 : decode cX6_hear 0 = .ok (.iload_n 1, 1) := by decide +kernel
theorem dX6_hear_1 : decode cX6_hear 1 = .ok (.iload_n 2, 1) := by decide +kernel
theorem dX6_hear_2 : decode cX6_hear 2 = .ok (.invokestatic 132, 3) := by decide +kernel
theorem dX6_hear_5 : decode cX6_hear 5 = .ok (.ifCond .eq 29, 3) := by decide +kernel
theorem dX6_hear_8 : decode cX6_hear 8 = .ok (.iload 4, 2) := by decide +kernel
theorem dX6_hear_10 : decode cX6_hear 10 = .ok (.i2l, 1) := by decide +kernel
theorem dX6_hear_11 : decode cX6_hear 11 = .ok (.lconst 1, 1) := by decide +kernel
theorem dX6_hear_12 : decode cX6_hear 12 = .ok (.ldc2_w 76, 3) := by decide +kernel
theorem dX6_hear_15 : decode cX6_hear 15 = .ok (.invokestatic 43, 3) := by decide +kernel
theorem dX6_hear_18 : decode cX6_hear 18 = .ok (.ifCond .eq 16, 3) := by decide +kernel
theorem dX6_hear_21 : decode cX6_hear 21 = .ok (.iload 5, 2) := by decide +kernel
theorem dX6_hear_23 : decode cX6_hear 23 = .ok (.i2l, 1) := by decide +kernel
theorem dX6_hear_24 : decode cX6_hear 24 = .ok (.lconst 1, 1) := by decide +kernel
theorem dX6_hear_25 : decode cX6_hear 25 = .ok (.ldc2_w 74, 3) := by decide +kernel
theorem dX6_hear_28 : decode cX6_hear 28 = .ok (.invokestatic 43, 3) := by decide +kernel
theorem dX6_hear_31 : decode cX6_hear 31 = .ok (.ifCond .ne 5, 3) := by decide +kernel
theorem dX6_hear_34 : decode cX6_hear 34 = .ok (.iconst (-1), 1) := by decide +kernel
theorem dX6_hear_35 : decode cX6_hear 35 = .ok (.ireturn, 1) := by decide +kernel
theorem dX6_hear_36 : decode cX6_hear 36 = .ok (.aload_n 0, 1) := by decide +kernel
theorem dX6_hear_37 : decode cX6_hear 37 = .ok (.iload_n 1, 1) := by decide +kernel
theorem dX6_hear_38 : decode cX6_hear 38 = .ok (.iload_n 2, 1) := by decide +kernel
theorem dX6_hear_39 : decode cX6_hear 39 = .ok (.iload_n 3, 1) := by decide +kernel
theorem dX6_hear_40 : decode cX6_hear 40 = .ok (.iload 4, 2) := by decide +kernel
theorem dX6_hear_42 : decode cX6_hear 42 = .ok (.invokevirtual 136, 3) := by decide +kernel
theorem dX6_hear_45 : decode cX6_hear 45 = .ok (.istore 6, 2) := by decide +kernel
theorem dX6_hear_47 : decode cX6_hear 47 = .ok (.iload 6, 2) := by decide +kernel
theorem dX6_hear_49 : decode cX6_hear 49 = .ok (.ifCond .ge 6, 3) := by decide +kernel
theorem dX6_hear_52 : decode cX6_hear 52 = .ok (.iload 6, 2) := by decide +kernel
theorem dX6_hear_54 : decode cX6_hear 54 = .ok (.ireturn, 1) := by decide +kernel
theorem dX6_hear_55 : decode cX6_hear 55 = .ok (.iconst 0, 1) := by decide +kernel
theorem dX6_hear_56 : decode cX6_hear 56 = .ok (.istore 7, 2) := by decide +kernel
theorem dX6_hear_58 : decode cX6_hear 58 = .ok (.iconst 1, 1) := by decide +kernel
theorem dX6_hear_59 : decode cX6_hear 59 = .ok (.istore 8, 2) := by decide +kernel
theorem dX6_hear_61 : decode cX6_hear 61 = .ok (.iconst 0, 1) := by decide +kernel
theorem dX6_hear_62 : decode cX6_hear 62 = .ok (.istore 9, 2) := by decide +kernel
theorem dX6_hear_64 : decode cX6_hear 64 = .ok (.iload 9, 2) := by decide +kernel
theorem dX6_hear_66 : decode cX6_hear 66 = .ok (.iload 4, 2) := by decide +kernel
theorem dX6_hear_68 : decode cX6_hear 68 = .ok (.if_icmp .ge 70, 3) := by decide +kernel
theorem dX6_hear_71 : decode cX6_hear 71 = .ok (.aload_n 0, 1) := by decide +kernel
theorem dX6_hear_72 : decode cX6_hear 72 = .ok (.getfield 40, 3) := by decide +kernel
theorem dX6_hear_75 : decode cX6_hear 75 = .ok (.bipush 24, 2) := by decide +kernel
theorem dX6_hear_77 : decode cX6_hear 77 = .ok (.iload_n 1, 1) := by decide +kernel
theorem dX6_hear_78 : decode cX6_hear 78 = .ok (.imul, 1) := by decide +kernel
theorem dX6_hear_79 : decode cX6_hear 79 = .ok (.iload_n 3, 1) := by decide +kernel
theorem dX6_hear_80 : decode cX6_hear 80 = .ok (.iadd, 1) := by decide +kernel
theorem dX6_hear_81 : decode cX6_hear 81 = .ok (.iload 9, 2) := by decide +kernel
theorem dX6_hear_83 : decode cX6_hear 83 = .ok (.iadd, 1) := by decide +kernel
theorem dX6_hear_84 : decode cX6_hear 84 = .ok (.iaload, 1) := by decide +kernel
theorem dX6_hear_85 : decode cX6_hear 85 = .ok (.istore 10, 2) := by decide +kernel
theorem dX6_hear_87 : decode cX6_hear 87 = .ok (.iload 8, 2) := by decide +kernel
theorem dX6_hear_89 : decode cX6_hear 89 = .ok (.ifCond .eq 13, 3) := by decide +kernel
theorem dX6_hear_92 : decode cX6_hear 92 = .ok (.iload 10, 2) := by decide +kernel
theorem dX6_hear_94 : decode cX6_hear 94 = .ok (.iconst 1, 1) := by decide +kernel
theorem dX6_hear_95 : decode cX6_hear 95 = .ok (.if_icmp .lt 7, 3) := by decide +kernel
theorem dX6_hear_98 : decode cX6_hear 98 = .ok (.iconst 1, 1) := by decide +kernel
theorem dX6_hear_99 : decode cX6_hear 99 = .ok (.goto 4, 3) := by decide +kernel
theorem dX6_hear_102 : decode cX6_hear 102 = .ok (.iconst 0, 1) := by decide +kernel
theorem dX6_hear_103 : decode cX6_hear 103 = .ok (.istore 8, 2) := by decide +kernel
theorem dX6_hear_105 : decode cX6_hear 105 = .ok (.iload 10, 2) := by decide +kernel
theorem dX6_hear_107 : decode cX6_hear 107 = .ok (.iload 5, 2) := by decide +kernel
theorem dX6_hear_109 : decode cX6_hear 109 = .ok (.if_icmp .lt 23, 3) := by decide +kernel
theorem dX6_hear_112 : decode cX6_hear 112 = .ok (.iinc 7 1, 3) := by decide +kernel
theorem dX6_hear_115 : decode cX6_hear 115 = .ok (.aload_n 0, 1) := by decide +kernel
theorem dX6_hear_116 : decode cX6_hear 116 = .ok (.iload 9, 2) := by decide +kernel
theorem dX6_hear_118 : decode cX6_hear 118 = .ok (.iconst 1, 1) := by decide +kernel
theorem dX6_hear_119 : decode cX6_hear 119 = .ok (.iadd, 1) := by decide +kernel
theorem dX6_hear_120 : decode cX6_hear 120 = .ok (.putfield 140, 3) := by decide +kernel
theorem dX6_hear_123 : decode cX6_hear 123 = .ok (.aload_n 0, 1) := by decide +kernel
theorem dX6_hear_124 : decode cX6_hear 124 = .ok (.iload 4, 2) := by decide +kernel
theorem dX6_hear_126 : decode cX6_hear 126 = .ok (.iload 9, 2) := by decide +kernel
theorem dX6_hear_128 : decode cX6_hear 128 = .ok (.isub, 1) := by decide +kernel
theorem dX6_hear_129 : decode cX6_hear 129 = .ok (.putfield 143, 3) := by decide +kernel
theorem dX6_hear_132 : decode cX6_hear 132 = .ok (.iinc 9 1, 3) := by decide +kernel
theorem dX6_hear_135 : decode cX6_hear 135 = .ok (.goto (-71), 3) := by decide +kernel
theorem dX6_hear_138 : decode cX6_hear 138 = .ok (.iload 8, 2) := by decide +kernel
theorem dX6_hear_140 : decode cX6_hear 140 = .ok (.ifCond .ne 8, 3) := by decide +kernel
theorem dX6_hear_143 : decode cX6_hear 143 = .ok (.bipush (-2), 2) := by decide +kernel
theorem dX6_hear_145 : decode cX6_hear 145 = .ok (.goto 15, 3) := by decide +kernel
theorem dX6_hear_148 : decode cX6_hear 148 = .ok (.iload 7, 2) := by decide +kernel
theorem dX6_hear_150 : decode cX6_hear 150 = .ok (.iconst 1, 1) := by decide +kernel
theorem dX6_hear_151 : decode cX6_hear 151 = .ok (.if_icmp .eq 8, 3) := by decide +kernel
theorem dX6_hear_154 : decode cX6_hear 154 = .ok (.bipush (-4), 2) := by decide +kernel
theorem dX6_hear_156 : decode cX6_hear 156 = .ok (.goto 4, 3) := by decide +kernel
theorem dX6_hear_159 : decode cX6_hear 159 = .ok (.iconst 0, 1) := by decide +kernel
theorem dX6_hear_160 : decode cX6_hear 160 = .ok (.ireturn, 1) := by decide +kernel
theorem dX6_isTold_0 : decode cX6_isTold 0 = .ok (.iload_n 0, 1) := by decide +kernel
theorem dX6_isTold_1 : decode cX6_isTold 1 = .ok (.i2l, 1) := by decide +kernel
theorem dX6_isTold_2 : decode cX6_isTold 2 = .ok (.lconst 1, 1) := by decide +kernel
theorem dX6_isTold_3 : decode cX6_isTold 3 = .ok (.ldc2_w 146, 3) := by decide +kernel
theorem dX6_isTold_6 : decode cX6_isTold 6 = .ok (.invokestatic 43, 3) := by decide +kernel
theorem dX6_isTold_9 : decode cX6_isTold 9 = .ok (.ifCond .eq 19, 3) := by decide +kernel
theorem dX6_isTold_12 : decode cX6_isTold 12 = .ok (.iload_n 1, 1) := by decide +kernel
theorem dX6_isTold_13 : decode cX6_isTold 13 = .ok (.i2l, 1) := by decide +kernel
theorem dX6_isTold_14 : decode cX6_isTold 14 = .ok (.lconst 1, 1) := by decide +kernel
theorem dX6_isTold_15 : decode cX6_isTold 15 = .ok (.ldc2_w 70, 3) := by decide +kernel
theorem dX6_isTold_18 : decode cX6_isTold 18 = .ok (.invokestatic 43, 3) := by decide +kernel
theorem dX6_isTold_21 : decode cX6_isTold 21 = .ok (.ifCond .eq 7, 3) := by decide +kernel
theorem dX6_isTold_24 : decode cX6_isTold 24 = .ok (.iconst 1, 1) := by decide +kernel
theorem dX6_isTold_25 : decode cX6_isTold 25 = .ok (.goto 4, 3) := by decide +kernel
theorem dX6_isTold_28 : decode cX6_isTold 28 = .ok (.iconst 0, 1) := by decide +kernel
theorem dX6_isTold_29 : decode cX6_isTold 29 = .ok (.ireturn, 1) := by decide +kernel
theorem dX6_songOf_0 : decode cX6_songOf 0 = .ok (.iconst 2, 1) := by decide +kernel
theorem dX6_songOf_1 : decode cX6_songOf 1 = .ok (.iload_n 0, 1) := by decide +kernel
theorem dX6_songOf_2 : decode cX6_songOf 2 = .ok (.iconst 1, 1) := by decide +kernel
theorem dX6_songOf_3 : decode cX6_songOf 3 = .ok (.isub, 1) := by decide +kernel
theorem dX6_songOf_4 : decode cX6_songOf 4 = .ok (.imul, 1) := by decide +kernel
theorem dX6_songOf_5 : decode cX6_songOf 5 = .ok (.iload_n 1, 1) := by decide +kernel
theorem dX6_songOf_6 : decode cX6_songOf 6 = .ok (.iadd, 1) := by decide +kernel
theorem dX6_songOf_7 : decode cX6_songOf 7 = .ok (.iconst 1, 1) := by decide +kernel
theorem dX6_songOf_8 : decode cX6_songOf 8 = .ok (.isub, 1) := by decide +kernel
theorem dX6_songOf_9 : decode cX6_songOf 9 = .ok (.ireturn, 1) := by decide +kernel
theorem dX6_heard_0 : decode cX6_heard 0 = .ok (.aload_n 0, 1) := by decide +kernel
theorem dX6_heard_1 : decode cX6_heard 1 = .ok (.iload_n 1, 1) := by decide +kernel
theorem dX6_heard_2 : decode cX6_heard 2 = .ok (.iload_n 2, 1) := by decide +kernel
theorem dX6_heard_3 : decode cX6_heard 3 = .ok (.iload_n 3, 1) := by decide +kernel
theorem dX6_heard_4 : decode cX6_heard 4 = .ok (.iload 4, 2) := by decide +kernel
theorem dX6_heard_6 : decode cX6_heard 6 = .ok (.iload 5, 2) := by decide +kernel
theorem dX6_heard_8 : decode cX6_heard 8 = .ok (.invokevirtual 148, 3) := by decide +kernel
theorem dX6_heard_11 : decode cX6_heard 11 = .ok (.istore 6, 2) := by decide +kernel
theorem dX6_heard_13 : decode cX6_heard 13 = .ok (.iload 6, 2) := by decide +kernel
theorem dX6_heard_15 : decode cX6_heard 15 = .ok (.ifCond .ge 8, 3) := by decide +kernel
theorem dX6_heard_18 : decode cX6_heard 18 = .ok (.iload 6, 2) := by decide +kernel
theorem dX6_heard_20 : decode cX6_heard 20 = .ok (.goto 33, 3) := by decide +kernel
theorem dX6_heard_23 : decode cX6_heard 23 = .ok (.aload_n 0, 1) := by decide +kernel
theorem dX6_heard_24 : decode cX6_heard 24 = .ok (.getfield 140, 3) := by decide +kernel
theorem dX6_heard_27 : decode cX6_heard 27 = .ok (.aload_n 0, 1) := by decide +kernel
theorem dX6_heard_28 : decode cX6_heard 28 = .ok (.getfield 143, 3) := by decide +kernel
theorem dX6_heard_31 : decode cX6_heard 31 = .ok (.invokestatic 152, 3) := by decide +kernel
theorem dX6_heard_34 : decode cX6_heard 34 = .ok (.ifCond .eq 17, 3) := by decide +kernel
theorem dX6_heard_37 : decode cX6_heard 37 = .ok (.aload_n 0, 1) := by decide +kernel
theorem dX6_heard_38 : decode cX6_heard 38 = .ok (.getfield 140, 3) := by decide +kernel
theorem dX6_heard_41 : decode cX6_heard 41 = .ok (.aload_n 0, 1) := by decide +kernel
theorem dX6_heard_42 : decode cX6_heard 42 = .ok (.getfield 143, 3) := by decide +kernel
theorem dX6_heard_45 : decode cX6_heard 45 = .ok (.invokestatic 155, 3) := by decide +kernel
theorem dX6_heard_48 : decode cX6_heard 48 = .ok (.goto 5, 3) := by decide +kernel
theorem dX6_heard_51 : decode cX6_heard 51 = .ok (.bipush (-4), 2) := by decide +kernel
theorem dX6_heard_53 : decode cX6_heard 53 = .ok (.ireturn, 1) := by decide +kernel
theorem dX6_mayBe_0 : decode cX6_mayBe 0 = .ok (.aload_n 0, 1) := by decide +kernel
theorem dX6_mayBe_1 : decode cX6_mayBe 1 = .ok (.iload_n 1, 1) := by decide +kernel
theorem dX6_mayBe_2 : decode cX6_mayBe 2 = .ok (.iload_n 2, 1) := by decide +kernel
theorem dX6_mayBe_3 : decode cX6_mayBe 3 = .ok (.iload_n 3, 1) := by decide +kernel
theorem dX6_mayBe_4 : decode cX6_mayBe 4 = .ok (.iload 4, 2) := by decide +kernel
theorem dX6_mayBe_6 : decode cX6_mayBe 6 = .ok (.iload 5, 2) := by decide +kernel
theorem dX6_mayBe_8 : decode cX6_mayBe 8 = .ok (.invokevirtual 148, 3) := by decide +kernel
theorem dX6_mayBe_11 : decode cX6_mayBe 11 = .ok (.istore 6, 2) := by decide +kernel
theorem dX6_mayBe_13 : decode cX6_mayBe 13 = .ok (.iload 6, 2) := by decide +kernel
theorem dX6_mayBe_15 : decode cX6_mayBe 15 = .ok (.ifCond .ge 6, 3) := by decide +kernel
theorem dX6_mayBe_18 : decode cX6_mayBe 18 = .ok (.iload 6, 2) := by decide +kernel
theorem dX6_mayBe_20 : decode cX6_mayBe 20 = .ok (.ireturn, 1) := by decide +kernel
theorem dX6_mayBe_21 : decode cX6_mayBe 21 = .ok (.aload_n 0, 1) := by decide +kernel
theorem dX6_mayBe_22 : decode cX6_mayBe 22 = .ok (.getfield 140, 3) := by decide +kernel
theorem dX6_mayBe_25 : decode cX6_mayBe 25 = .ok (.aload_n 0, 1) := by decide +kernel
theorem dX6_mayBe_26 : decode cX6_mayBe 26 = .ok (.getfield 143, 3) := by decide +kernel
theorem dX6_mayBe_29 : decode cX6_mayBe 29 = .ok (.invokestatic 152, 3) := by decide +kernel
theorem dX6_mayBe_32 : decode cX6_mayBe 32 = .ok (.ifCond .eq 19, 3) := by decide +kernel
theorem dX6_mayBe_35 : decode cX6_mayBe 35 = .ok (.iconst 1, 1) := by decide +kernel
theorem dX6_mayBe_36 : decode cX6_mayBe 36 = .ok (.aload_n 0, 1) := by decide +kernel
theorem dX6_mayBe_37 : decode cX6_mayBe 37 = .ok (.getfield 140, 3) := by decide +kernel
theorem dX6_mayBe_40 : decode cX6_mayBe 40 = .ok (.aload_n 0, 1) := by decide +kernel
theorem dX6_mayBe_41 : decode cX6_mayBe 41 = .ok (.getfield 143, 3) := by decide +kernel
theorem dX6_mayBe_44 : decode cX6_mayBe 44 = .ok (.invokestatic 155, 3) := by decide +kernel
theorem dX6_mayBe_47 : decode cX6_mayBe 47 = .ok (.ishl, 1) := by decide +kernel
theorem dX6_mayBe_48 : decode cX6_mayBe 48 = .ok (.goto 4, 3) := by decide +kernel
theorem dX6_mayBe_51 : decode cX6_mayBe 51 = .ok (.iconst 0, 1) := by decide +kernel
theorem dX6_mayBe_52 : decode cX6_mayBe 52 = .ok (.istore 7, 2) := by decide +kernel
theorem dX6_mayBe_54 : decode cX6_mayBe 54 = .ok (.iload 7, 2) := by decide +kernel
theorem dX6_mayBe_56 : decode cX6_mayBe 56 = .ok (.aload_n 0, 1) := by decide +kernel
theorem dX6_mayBe_57 : decode cX6_mayBe 57 = .ok (.getfield 140, 3) := by decide +kernel
theorem dX6_mayBe_60 : decode cX6_mayBe 60 = .ok (.iconst 1, 1) := by decide +kernel
theorem dX6_mayBe_61 : decode cX6_mayBe 61 = .ok (.iadd, 1) := by decide +kernel
theorem dX6_mayBe_62 : decode cX6_mayBe 62 = .ok (.aload_n 0, 1) := by decide +kernel
theorem dX6_mayBe_63 : decode cX6_mayBe 63 = .ok (.getfield 143, 3) := by decide +kernel
theorem dX6_mayBe_66 : decode cX6_mayBe 66 = .ok (.invokestatic 152, 3) := by decide +kernel
theorem dX6_mayBe_69 : decode cX6_mayBe 69 = .ok (.ifCond .eq 21, 3) := by decide +kernel
theorem dX6_mayBe_72 : decode cX6_mayBe 72 = .ok (.iconst 1, 1) := by decide +kernel
theorem dX6_mayBe_73 : decode cX6_mayBe 73 = .ok (.aload_n 0, 1) := by decide +kernel
theorem dX6_mayBe_74 : decode cX6_mayBe 74 = .ok (.getfield 140, 3) := by decide +kernel
theorem dX6_mayBe_77 : decode cX6_mayBe 77 = .ok (.iconst 1, 1) := by decide +kernel
theorem dX6_mayBe_78 : decode cX6_mayBe 78 = .ok (.iadd, 1) := by decide +kernel
theorem dX6_mayBe_79 : decode cX6_mayBe 79 = .ok (.aload_n 0, 1) := by decide +kernel
theorem dX6_mayBe_80 : decode cX6_mayBe 80 = .ok (.getfield 143, 3) := by decide +kernel
theorem dX6_mayBe_83 : decode cX6_mayBe 83 = .ok (.invokestatic 155, 3) := by decide +kernel
theorem dX6_mayBe_86 : decode cX6_mayBe 86 = .ok (.ishl, 1) := by decide +kernel
theorem dX6_mayBe_87 : decode cX6_mayBe 87 = .ok (.goto 4, 3) := by decide +kernel
theorem dX6_mayBe_90 : decode cX6_mayBe 90 = .ok (.iconst 0, 1) := by decide +kernel
theorem dX6_mayBe_91 : decode cX6_mayBe 91 = .ok (.ior, 1) := by decide +kernel
theorem dX6_mayBe_92 : decode cX6_mayBe 92 = .ok (.istore 7, 2) := by decide +kernel
theorem dX6_mayBe_94 : decode cX6_mayBe 94 = .ok (.iload 7, 2) := by decide +kernel
theorem dX6_mayBe_96 : decode cX6_mayBe 96 = .ok (.aload_n 0, 1) := by decide +kernel
theorem dX6_mayBe_97 : decode cX6_mayBe 97 = .ok (.getfield 140, 3) := by decide +kernel
theorem dX6_mayBe_100 : decode cX6_mayBe 100 = .ok (.aload_n 0, 1) := by decide +kernel
theorem dX6_mayBe_101 : decode cX6_mayBe 101 = .ok (.getfield 143, 3) := by decide +kernel
theorem dX6_mayBe_104 : decode cX6_mayBe 104 = .ok (.iconst 1, 1) := by decide +kernel
theorem dX6_mayBe_105 : decode cX6_mayBe 105 = .ok (.iadd, 1) := by decide +kernel
theorem dX6_mayBe_106 : decode cX6_mayBe 106 = .ok (.invokestatic 152, 3) := by decide +kernel
theorem dX6_mayBe_109 : decode cX6_mayBe 109 = .ok (.ifCond .eq 21, 3) := by decide +kernel
theorem dX6_mayBe_112 : decode cX6_mayBe 112 = .ok (.iconst 1, 1) := by decide +kernel
theorem dX6_mayBe_113 : decode cX6_mayBe 113 = .ok (.aload_n 0, 1) := by decide +kernel
theorem dX6_mayBe_114 : decode cX6_mayBe 114 = .ok (.getfield 140, 3) := by decide +kernel
theorem dX6_mayBe_117 : decode cX6_mayBe 117 = .ok (.aload_n 0, 1) := by decide +kernel
theorem dX6_mayBe_118 : decode cX6_mayBe 118 = .ok (.getfield 143, 3) := by decide +kernel
theorem dX6_mayBe_121 : decode cX6_mayBe 121 = .ok (.iconst 1, 1) := by decide +kernel
theorem dX6_mayBe_122 : decode cX6_mayBe 122 = .ok (.iadd, 1) := by decide +kernel
theorem dX6_mayBe_123 : decode cX6_mayBe 123 = .ok (.invokestatic 155, 3) := by decide +kernel
theorem dX6_mayBe_126 : decode cX6_mayBe 126 = .ok (.ishl, 1) := by decide +kernel
theorem dX6_mayBe_127 : decode cX6_mayBe 127 = .ok (.goto 4, 3) := by decide +kernel
theorem dX6_mayBe_130 : decode cX6_mayBe 130 = .ok (.iconst 0, 1) := by decide +kernel
theorem dX6_mayBe_131 : decode cX6_mayBe 131 = .ok (.ior, 1) := by decide +kernel
theorem dX6_mayBe_132 : decode cX6_mayBe 132 = .ok (.istore 7, 2) := by decide +kernel
theorem dX6_mayBe_134 : decode cX6_mayBe 134 = .ok (.iload 7, 2) := by decide +kernel
theorem dX6_mayBe_136 : decode cX6_mayBe 136 = .ok (.ifCond .ne 8, 3) := by decide +kernel
theorem dX6_mayBe_139 : decode cX6_mayBe 139 = .ok (.bipush (-4), 2) := by decide +kernel
theorem dX6_mayBe_141 : decode cX6_mayBe 141 = .ok (.goto 5, 3) := by decide +kernel
theorem dX6_mayBe_144 : decode cX6_mayBe 144 = .ok (.iload 7, 2) := by decide +kernel
theorem dX6_mayBe_146 : decode cX6_mayBe 146 = .ok (.ireturn, 1) := by decide +kernel
theorem dX6_type_0 : decode cX6_type 0 = .ok (.iload_n 3, 1) := by decide +kernel
theorem dX6_type_1 : decode cX6_type 1 = .ok (.i2l, 1) := by decide +kernel
theorem dX6_type_2 : decode cX6_type 2 = .ok (.lconst 1, 1) := by decide +kernel
theorem dX6_type_3 : decode cX6_type 3 = .ok (.ldc2_w 159, 3) := by decide +kernel
theorem dX6_type_6 : decode cX6_type 6 = .ok (.invokestatic 43, 3) := by decide +kernel
theorem dX6_type_9 : decode cX6_type 9 = .ok (.ifCond .ne 5, 3) := by decide +kernel
theorem dX6_type_12 : decode cX6_type 12 = .ok (.iconst (-1), 1) := by decide +kernel
theorem dX6_type_13 : decode cX6_type 13 = .ok (.ireturn, 1) := by decide +kernel
theorem dX6_type_14 : decode cX6_type 14 = .ok (.iload_n 3, 1) := by decide +kernel
theorem dX6_type_15 : decode cX6_type 15 = .ok (.iconst 1, 1) := by decide +kernel
theorem dX6_type_16 : decode cX6_type 16 = .ok (.isub, 1) := by decide +kernel
theorem dX6_type_17 : decode cX6_type 17 = .ok (.istore 4, 2) := by decide +kernel
theorem dX6_type_19 : decode cX6_type 19 = .ok (.iload 4, 2) := by decide +kernel
theorem dX6_type_21 : decode cX6_type 21 = .ok (.ifCond .lt 34, 3) := by decide +kernel
theorem dX6_type_24 : decode cX6_type 24 = .ok (.lload_n 1, 1) := by decide +kernel
theorem dX6_type_25 : decode cX6_type 25 = .ok (.bipush 8, 2) := by decide +kernel
theorem dX6_type_27 : decode cX6_type 27 = .ok (.iload 4, 2) := by decide +kernel
theorem dX6_type_29 : decode cX6_type 29 = .ok (.imul, 1) := by decide +kernel
theorem dX6_type_30 : decode cX6_type 30 = .ok (.lshr, 1) := by decide +kernel
theorem dX6_type_31 : decode cX6_type 31 = .ok (.ldc2_w 161, 3) := by decide +kernel
theorem dX6_type_34 : decode cX6_type 34 = .ok (.land, 1) := by decide +kernel
theorem dX6_type_35 : decode cX6_type 35 = .ok (.ldc2_w 163, 3) := by decide +kernel
theorem dX6_type_38 : decode cX6_type 38 = .ok (.ldc2_w 165, 3) := by decide +kernel
theorem dX6_type_41 : decode cX6_type 41 = .ok (.invokestatic 43, 3) := by decide +kernel
theorem dX6_type_44 : decode cX6_type 44 = .ok (.ifCond .ne 5, 3) := by decide +kernel
theorem dX6_type_47 : decode cX6_type 47 = .ok (.iconst (-1), 1) := by decide +kernel
theorem dX6_type_48 : decode cX6_type 48 = .ok (.ireturn, 1) := by decide +kernel
theorem dX6_type_49 : decode cX6_type 49 = .ok (.iinc 4 (-1), 3) := by decide +kernel
theorem dX6_type_52 : decode cX6_type 52 = .ok (.goto (-33), 3) := by decide +kernel
theorem dX6_type_55 : decode cX6_type 55 = .ok (.aload_n 0, 1) := by decide +kernel
theorem dX6_type_56 : decode cX6_type 56 = .ok (.getfield 167, 3) := by decide +kernel
theorem dX6_type_59 : decode cX6_type 59 = .ok (.iload_n 3, 1) := by decide +kernel
theorem dX6_type_60 : decode cX6_type 60 = .ok (.iadd, 1) := by decide +kernel
theorem dX6_type_61 : decode cX6_type 61 = .ok (.bipush 80, 2) := by decide +kernel
theorem dX6_type_63 : decode cX6_type 63 = .ok (.if_icmp .le 6, 3) := by decide +kernel
theorem dX6_type_66 : decode cX6_type 66 = .ok (.bipush (-3), 2) := by decide +kernel
theorem dX6_type_68 : decode cX6_type 68 = .ok (.ireturn, 1) := by decide +kernel
theorem dX6_type_69 : decode cX6_type 69 = .ok (.iload_n 3, 1) := by decide +kernel
theorem dX6_type_70 : decode cX6_type 70 = .ok (.iconst 1, 1) := by decide +kernel
theorem dX6_type_71 : decode cX6_type 71 = .ok (.isub, 1) := by decide +kernel
theorem dX6_type_72 : decode cX6_type 72 = .ok (.istore 4, 2) := by decide +kernel
theorem dX6_type_74 : decode cX6_type 74 = .ok (.iload 4, 2) := by decide +kernel
theorem dX6_type_76 : decode cX6_type 76 = .ok (.ifCond .lt 40, 3) := by decide +kernel
theorem dX6_type_79 : decode cX6_type 79 = .ok (.aload_n 0, 1) := by decide +kernel
theorem dX6_type_80 : decode cX6_type 80 = .ok (.getfield 22, 3) := by decide +kernel
theorem dX6_type_83 : decode cX6_type 83 = .ok (.aload_n 0, 1) := by decide +kernel
theorem dX6_type_84 : decode cX6_type 84 = .ok (.getfield 167, 3) := by decide +kernel
theorem dX6_type_87 : decode cX6_type 87 = .ok (.lload_n 1, 1) := by decide +kernel
theorem dX6_type_88 : decode cX6_type 88 = .ok (.bipush 8, 2) := by decide +kernel
theorem dX6_type_90 : decode cX6_type 90 = .ok (.iload 4, 2) := by decide +kernel
theorem dX6_type_92 : decode cX6_type 92 = .ok (.imul, 1) := by decide +kernel
theorem dX6_type_93 : decode cX6_type 93 = .ok (.lshr, 1) := by decide +kernel
theorem dX6_type_94 : decode cX6_type 94 = .ok (.ldc2_w 161, 3) := by decide +kernel
theorem dX6_type_97 : decode cX6_type 97 = .ok (.land, 1) := by decide +kernel
theorem dX6_type_98 : decode cX6_type 98 = .ok (.l2i, 1) := by decide +kernel
theorem dX6_type_99 : decode cX6_type 99 = .ok (.iastore, 1) := by decide +kernel
theorem dX6_type_100 : decode cX6_type 100 = .ok (.aload_n 0, 1) := by decide +kernel
theorem dX6_type_101 : decode cX6_type 101 = .ok (.dup, 1) := by decide +kernel
theorem dX6_type_102 : decode cX6_type 102 = .ok (.getfield 167, 3) := by decide +kernel
theorem dX6_type_105 : decode cX6_type 105 = .ok (.iconst 1, 1) := by decide +kernel
theorem dX6_type_106 : decode cX6_type 106 = .ok (.iadd, 1) := by decide +kernel
theorem dX6_type_107 : decode cX6_type 107 = .ok (.putfield 167, 3) := by decide +kernel
theorem dX6_type_110 : decode cX6_type 110 = .ok (.iinc 4 (-1), 3) := by decide +kernel
theorem dX6_type_113 : decode cX6_type 113 = .ok (.goto (-39), 3) := by decide +kernel
theorem dX6_type_116 : decode cX6_type 116 = .ok (.aload_n 0, 1) := by decide +kernel
theorem dX6_type_117 : decode cX6_type 117 = .ok (.getfield 167, 3) := by decide +kernel
theorem dX6_type_120 : decode cX6_type 120 = .ok (.ireturn, 1) := by decide +kernel
theorem dX6_nextByte_0 : decode cX6_nextByte 0 = .ok (.aload_n 0, 1) := by decide +kernel
theorem dX6_nextByte_1 : decode cX6_nextByte 1 = .ok (.getfield 170, 3) := by decide +kernel
theorem dX6_nextByte_4 : decode cX6_nextByte 4 = .ok (.aload_n 0, 1) := by decide +kernel
theorem dX6_nextByte_5 : decode cX6_nextByte 5 = .ok (.getfield 167, 3) := by decide +kernel
theorem dX6_nextByte_8 : decode cX6_nextByte 8 = .ok (.if_icmp .ge 30, 3) := by decide +kernel
theorem dX6_nextByte_11 : decode cX6_nextByte 11 = .ok (.aload_n 0, 1) := by decide +kernel
theorem dX6_nextByte_12 : decode cX6_nextByte 12 = .ok (.getfield 22, 3) := by decide +kernel
theorem dX6_nextByte_15 : decode cX6_nextByte 15 = .ok (.aload_n 0, 1) := by decide +kernel
theorem dX6_nextByte_16 : decode cX6_nextByte 16 = .ok (.getfield 170, 3) := by decide +kernel
theorem dX6_nextByte_19 : decode cX6_nextByte 19 = .ok (.iaload, 1) := by decide +kernel
theorem dX6_nextByte_20 : decode cX6_nextByte 20 = .ok (.bipush 32, 2) := by decide +kernel
theorem dX6_nextByte_22 : decode cX6_nextByte 22 = .ok (.if_icmp .ne 16, 3) := by decide +kernel
theorem dX6_nextByte_25 : decode cX6_nextByte 25 = .ok (.aload_n 0, 1) := by decide +kernel
theorem dX6_nextByte_26 : decode cX6_nextByte 26 = .ok (.dup, 1) := by decide +kernel
theorem dX6_nextByte_27 : decode cX6_nextByte 27 = .ok (.getfield 170, 3) := by decide +kernel
theorem dX6_nextByte_30 : decode cX6_nextByte 30 = .ok (.iconst 1, 1) := by decide +kernel
theorem dX6_nextByte_31 : decode cX6_nextByte 31 = .ok (.iadd, 1) := by decide +kernel
theorem dX6_nextByte_32 : decode cX6_nextByte 32 = .ok (.putfield 170, 3) := by decide +kernel
theorem dX6_nextByte_35 : decode cX6_nextByte 35 = .ok (.goto (-35), 3) := by decide +kernel
theorem dX6_nextByte_38 : decode cX6_nextByte 38 = .ok (.aload_n 0, 1) := by decide +kernel
theorem dX6_nextByte_39 : decode cX6_nextByte 39 = .ok (.getfield 170, 3) := by decide +kernel
theorem dX6_nextByte_42 : decode cX6_nextByte 42 = .ok (.aload_n 0, 1) := by decide +kernel
theorem dX6_nextByte_43 : decode cX6_nextByte 43 = .ok (.getfield 167, 3) := by decide +kernel
theorem dX6_nextByte_46 : decode cX6_nextByte 46 = .ok (.if_icmp .ge 15, 3) := by decide +kernel
theorem dX6_nextByte_49 : decode cX6_nextByte 49 = .ok (.aload_n 0, 1) := by decide +kernel
theorem dX6_nextByte_50 : decode cX6_nextByte 50 = .ok (.getfield 22, 3) := by decide +kernel
theorem dX6_nextByte_53 : decode cX6_nextByte 53 = .ok (.aload_n 0, 1) := by decide +kernel
theorem dX6_nextByte_54 : decode cX6_nextByte 54 = .ok (.getfield 170, 3) := by decide +kernel
theorem dX6_nextByte_57 : decode cX6_nextByte 57 = .ok (.iaload, 1) := by decide +kernel
theorem dX6_nextByte_58 : decode cX6_nextByte 58 = .ok (.goto 4, 3) := by decide +kernel
theorem dX6_nextByte_61 : decode cX6_nextByte 61 = .ok (.iconst (-1), 1) := by decide +kernel
theorem dX6_nextByte_62 : decode cX6_nextByte 62 = .ok (.ireturn, 1) := by decide +kernel
theorem dX6_readNumber_0 : decode cX6_readNumber 0 = .ok (.aload_n 0, 1) := by decide +kernel
theorem dX6_readNumber_1 : decode cX6_readNumber 1 = .ok (.invokevirtual 173, 3) := by decide +kernel
theorem dX6_readNumber_4 : decode cX6_readNumber 4 = .ok (.pop, 1) := by decide +kernel
theorem dX6_readNumber_5 : decode cX6_readNumber 5 = .ok (.aload_n 0, 1) := by decide +kernel
theorem dX6_readNumber_6 : decode cX6_readNumber 6 = .ok (.getfield 170, 3) := by decide +kernel
theorem dX6_readNumber_9 : decode cX6_readNumber 9 = .ok (.istore_n 2, 1) := by decide +kernel
theorem dX6_readNumber_10 : decode cX6_readNumber 10 = .ok (.iconst 0, 1) := by decide +kernel
theorem dX6_readNumber_11 : decode cX6_readNumber 11 = .ok (.istore_n 3, 1) := by decide +kernel
theorem dX6_readNumber_12 : decode cX6_readNumber 12 = .ok (.aload_n 0, 1) := by decide +kernel
theorem dX6_readNumber_13 : decode cX6_readNumber 13 = .ok (.getfield 170, 3) := by decide +kernel
theorem dX6_readNumber_16 : decode cX6_readNumber 16 = .ok (.aload_n 0, 1) := by decide +kernel
theorem dX6_readNumber_17 : decode cX6_readNumber 17 = .ok (.getfield 167, 3) := by decide +kernel
theorem dX6_readNumber_20 : decode cX6_readNumber 20 = .ok (.if_icmp .ge 67, 3) := by decide +kernel
theorem dX6_readNumber_23 : decode cX6_readNumber 23 = .ok (.aload_n 0, 1) := by decide +kernel
theorem dX6_readNumber_24 : decode cX6_readNumber 24 = .ok (.getfield 22, 3) := by decide +kernel
theorem dX6_readNumber_27 : decode cX6_readNumber 27 = .ok (.aload_n 0, 1) := by decide +kernel
theorem dX6_readNumber_28 : decode cX6_readNumber 28 = .ok (.getfield 170, 3) := by decide +kernel
theorem dX6_readNumber_31 : decode cX6_readNumber 31 = .ok (.iaload, 1) := by decide +kernel
theorem dX6_readNumber_32 : decode cX6_readNumber 32 = .ok (.i2l, 1) := by decide +kernel
theorem dX6_readNumber_33 : decode cX6_readNumber 33 = .ok (.ldc2_w 176, 3) := by decide +kernel
theorem dX6_readNumber_36 : decode cX6_readNumber 36 = .ok (.ldc2_w 178, 3) := by decide +kernel
theorem dX6_readNumber_39 : decode cX6_readNumber 39 = .ok (.invokestatic 43, 3) := by decide +kernel
theorem dX6_readNumber_42 : decode cX6_readNumber 42 = .ok (.ifCond .eq 45, 3) := by decide +kernel
theorem dX6_readNumber_45 : decode cX6_readNumber 45 = .ok (.iload_n 3, 1) := by decide +kernel
theorem dX6_readNumber_46 : decode cX6_readNumber 46 = .ok (.sipush 9999, 3) := by decide +kernel
theorem dX6_readNumber_49 : decode cX6_readNumber 49 = .ok (.if_icmp .le 7, 3) := by decide +kernel
theorem dX6_readNumber_52 : decode cX6_readNumber 52 = .ok (.iload_n 3, 1) := by decide +kernel
theorem dX6_readNumber_53 : decode cX6_readNumber 53 = .ok (.goto 20, 3) := by decide +kernel
theorem dX6_readNumber_56 : decode cX6_readNumber 56 = .ok (.bipush 10, 2) := by decide +kernel
theorem dX6_readNumber_58 : decode cX6_readNumber 58 = .ok (.iload_n 3, 1) := by decide +kernel
theorem dX6_readNumber_59 : decode cX6_readNumber 59 = .ok (.imul, 1) := by decide +kernel
theorem dX6_readNumber_60 : decode cX6_readNumber 60 = .ok (.aload_n 0, 1) := by decide +kernel
theorem dX6_readNumber_61 : decode cX6_readNumber 61 = .ok (.getfield 22, 3) := by decide +kernel
theorem dX6_readNumber_64 : decode cX6_readNumber 64 = .ok (.aload_n 0, 1) := by decide +kernel
theorem dX6_readNumber_65 : decode cX6_readNumber 65 = .ok (.getfield 170, 3) := by decide +kernel
theorem dX6_readNumber_68 : decode cX6_readNumber 68 = .ok (.iaload, 1) := by decide +kernel
theorem dX6_readNumber_69 : decode cX6_readNumber 69 = .ok (.iadd, 1) := by decide +kernel
theorem dX6_readNumber_70 : decode cX6_readNumber 70 = .ok (.bipush 48, 2) := by decide +kernel
theorem dX6_readNumber_72 : decode cX6_readNumber 72 = .ok (.isub, 1) := by decide +kernel
theorem dX6_readNumber_73 : decode cX6_readNumber 73 = .ok (.istore_n 3, 1) := by decide +kernel
theorem dX6_readNumber_74 : decode cX6_readNumber 74 = .ok (.aload_n 0, 1) := by decide +kernel
theorem dX6_readNumber_75 : decode cX6_readNumber 75 = .ok (.dup, 1) := by decide +kernel
theorem dX6_readNumber_76 : decode cX6_readNumber 76 = .ok (.getfield 170, 3) := by decide +kernel
theorem dX6_readNumber_79 : decode cX6_readNumber 79 = .ok (.iconst 1, 1) := by decide +kernel
theorem dX6_readNumber_80 : decode cX6_readNumber 80 = .ok (.iadd, 1) := by decide +kernel
theorem dX6_readNumber_81 : decode cX6_readNumber 81 = .ok (.putfield 170, 3) := by decide +kernel
theorem dX6_readNumber_84 : decode cX6_readNumber 84 = .ok (.goto (-72), 3) := by decide +kernel
theorem dX6_readNumber_87 : decode cX6_readNumber 87 = .ok (.aload_n 0, 1) := by decide +kernel
theorem dX6_readNumber_88 : decode cX6_readNumber 88 = .ok (.getfield 170, 3) := by decide +kernel
theorem dX6_readNumber_91 : decode cX6_readNumber 91 = .ok (.iload_n 2, 1) := by decide +kernel
theorem dX6_readNumber_92 : decode cX6_readNumber 92 = .ok (.if_icmp .ne 5, 3) := by decide +kernel
theorem dX6_readNumber_95 : decode cX6_readNumber 95 = .ok (.iconst (-1), 1) := by decide +kernel
theorem dX6_readNumber_96 : decode cX6_readNumber 96 = .ok (.ireturn, 1) := by decide +kernel
theorem dX6_readNumber_97 : decode cX6_readNumber 97 = .ok (.iload_n 3, 1) := by decide +kernel
theorem dX6_readNumber_98 : decode cX6_readNumber 98 = .ok (.i2l, 1) := by decide +kernel
theorem dX6_readNumber_99 : decode cX6_readNumber 99 = .ok (.lconst 1, 1) := by decide +kernel
theorem dX6_readNumber_100 : decode cX6_readNumber 100 = .ok (.iload_n 1, 1) := by decide +kernel
theorem dX6_readNumber_101 : decode cX6_readNumber 101 = .ok (.i2l, 1) := by decide +kernel
theorem dX6_readNumber_102 : decode cX6_readNumber 102 = .ok (.invokestatic 43, 3) := by decide +kernel
theorem dX6_readNumber_105 : decode cX6_readNumber 105 = .ok (.ifCond .ne 10, 3) := by decide +kernel
theorem dX6_readNumber_108 : decode cX6_readNumber 108 = .ok (.aload_n 0, 1) := by decide +kernel
theorem dX6_readNumber_109 : decode cX6_readNumber 109 = .ok (.iload_n 2, 1) := by decide +kernel
theorem dX6_readNumber_110 : decode cX6_readNumber 110 = .ok (.putfield 170, 3) := by decide +kernel
theorem dX6_readNumber_113 : decode cX6_readNumber 113 = .ok (.iconst (-1), 1) := by decide +kernel
theorem dX6_readNumber_114 : decode cX6_readNumber 114 = .ok (.ireturn, 1) := by decide +kernel
theorem dX6_readNumber_115 : decode cX6_readNumber 115 = .ok (.iload_n 3, 1) := by decide +kernel
theorem dX6_readNumber_116 : decode cX6_readNumber 116 = .ok (.ireturn, 1) := by decide +kernel
theorem dX6_readAct_0 : decode cX6_readAct 0 = .ok (.aload_n 0, 1) := by decide +kernel
theorem dX6_readAct_1 : decode cX6_readAct 1 = .ok (.invokevirtual 173, 3) := by decide +kernel
theorem dX6_readAct_4 : decode cX6_readAct 4 = .ok (.istore_n 1, 1) := by decide +kernel
theorem dX6_readAct_5 : decode cX6_readAct 5 = .ok (.iload_n 1, 1) := by decide +kernel
theorem dX6_readAct_6 : decode cX6_readAct 6 = .ok (.i2l, 1) := by decide +kernel
theorem dX6_readAct_7 : decode cX6_readAct 7 = .ok (.ldc2_w 180, 3) := by decide +kernel
theorem dX6_readAct_10 : decode cX6_readAct 10 = .ok (.ldc2_w 182, 3) := by decide +kernel
theorem dX6_readAct_13 : decode cX6_readAct 13 = .ok (.invokestatic 43, 3) := by decide +kernel
theorem dX6_readAct_16 : decode cX6_readAct 16 = .ok (.ifCond .eq 73, 3) := by decide +kernel
theorem dX6_readAct_19 : decode cX6_readAct 19 = .ok (.aload_n 0, 1) := by decide +kernel
theorem dX6_readAct_20 : decode cX6_readAct 20 = .ok (.dup, 1) := by decide +kernel
theorem dX6_readAct_21 : decode cX6_readAct 21 = .ok (.getfield 170, 3) := by decide +kernel
theorem dX6_readAct_24 : decode cX6_readAct 24 = .ok (.iconst 1, 1) := by decide +kernel
theorem dX6_readAct_25 : decode cX6_readAct 25 = .ok (.iadd, 1) := by decide +kernel
theorem dX6_readAct_26 : decode cX6_readAct 26 = .ok (.putfield 170, 3) := by decide +kernel
theorem dX6_readAct_29 : decode cX6_readAct 29 = .ok (.aload_n 0, 1) := by decide +kernel
theorem dX6_readAct_30 : decode cX6_readAct 30 = .ok (.invokevirtual 173, 3) := by decide +kernel
theorem dX6_readAct_33 : decode cX6_readAct 33 = .ok (.bipush 49, 2) := by decide +kernel
theorem dX6_readAct_35 : decode cX6_readAct 35 = .ok (.isub, 1) := by decide +kernel
theorem dX6_readAct_36 : decode cX6_readAct 36 = .ok (.istore_n 2, 1) := by decide +kernel
theorem dX6_readAct_37 : decode cX6_readAct 37 = .ok (.iload_n 2, 1) := by decide +kernel
theorem dX6_readAct_38 : decode cX6_readAct 38 = .ok (.i2l, 1) := by decide +kernel
theorem dX6_readAct_39 : decode cX6_readAct 39 = .ok (.lconst 0, 1) := by decide +kernel
theorem dX6_readAct_40 : decode cX6_readAct 40 = .ok (.lconst 1, 1) := by decide +kernel
theorem dX6_readAct_41 : decode cX6_readAct 41 = .ok (.invokestatic 43, 3) := by decide +kernel
theorem dX6_readAct_44 : decode cX6_readAct 44 = .ok (.ifCond .ne 5, 3) := by decide +kernel
theorem dX6_readAct_47 : decode cX6_readAct 47 = .ok (.iconst 0, 1) := by decide +kernel
theorem dX6_readAct_48 : decode cX6_readAct 48 = .ok (.ireturn, 1) := by decide +kernel
theorem dX6_readAct_49 : decode cX6_readAct 49 = .ok (.aload_n 0, 1) := by decide +kernel
theorem dX6_readAct_50 : decode cX6_readAct 50 = .ok (.dup, 1) := by decide +kernel
theorem dX6_readAct_51 : decode cX6_readAct 51 = .ok (.getfield 170, 3) := by decide +kernel
theorem dX6_readAct_54 : decode cX6_readAct 54 = .ok (.iconst 1, 1) := by decide +kernel
theorem dX6_readAct_55 : decode cX6_readAct 55 = .ok (.iadd, 1) := by decide +kernel
theorem dX6_readAct_56 : decode cX6_readAct 56 = .ok (.putfield 170, 3) := by decide +kernel
theorem dX6_readAct_59 : decode cX6_readAct 59 = .ok (.aload_n 0, 1) := by decide +kernel
theorem dX6_readAct_60 : decode cX6_readAct 60 = .ok (.getfield 25, 3) := by decide +kernel
theorem dX6_readAct_63 : decode cX6_readAct 63 = .ok (.aload_n 0, 1) := by decide +kernel
theorem dX6_readAct_64 : decode cX6_readAct 64 = .ok (.getfield 184, 3) := by decide +kernel
theorem dX6_readAct_67 : decode cX6_readAct 67 = .ok (.iconst 0, 1) := by decide +kernel
theorem dX6_readAct_68 : decode cX6_readAct 68 = .ok (.iastore, 1) := by decide +kernel
theorem dX6_readAct_69 : decode cX6_readAct 69 = .ok (.aload_n 0, 1) := by decide +kernel
theorem dX6_readAct_70 : decode cX6_readAct 70 = .ok (.getfield 28, 3) := by decide +kernel
theorem dX6_readAct_73 : decode cX6_readAct 73 = .ok (.aload_n 0, 1) := by decide +kernel
theorem dX6_readAct_74 : decode cX6_readAct 74 = .ok (.getfield 184, 3) := by decide +kernel
theorem dX6_readAct_77 : decode cX6_readAct 77 = .ok (.iconst 2, 1) := by decide +kernel
theorem dX6_readAct_78 : decode cX6_readAct 78 = .ok (.iload_n 1, 1) := by decide +kernel
theorem dX6_readAct_79 : decode cX6_readAct 79 = .ok (.bipush 97, 2) := by decide +kernel
theorem dX6_readAct_81 : decode cX6_readAct 81 = .ok (.isub, 1) := by decide +kernel
theorem dX6_readAct_82 : decode cX6_readAct 82 = .ok (.imul, 1) := by decide +kernel
theorem dX6_readAct_83 : decode cX6_readAct 83 = .ok (.iload_n 2, 1) := by decide +kernel
theorem dX6_readAct_84 : decode cX6_readAct 84 = .ok (.iadd, 1) := by decide +kernel
theorem dX6_readAct_85 : decode cX6_readAct 85 = .ok (.iastore, 1) := by decide +kernel
theorem dX6_readAct_86 : decode cX6_readAct 86 = .ok (.goto 88, 3) := by decide +kernel
theorem dX6_readAct_89 : decode cX6_readAct 89 = .ok (.iload_n 1, 1) := by decide +kernel
theorem dX6_readAct_90 : decode cX6_readAct 90 = .ok (.bipush 43, 2) := by decide +kernel
theorem dX6_readAct_92 : decode cX6_readAct 92 = .ok (.if_icmp .eq 9, 3) := by decide +kernel
theorem dX6_readAct_95 : decode cX6_readAct 95 = .ok (.iload_n 1, 1) := by decide +kernel
theorem dX6_readAct_96 : decode cX6_readAct 96 = .ok (.bipush 116, 2) := by decide +kernel
theorem dX6_readAct_98 : decode cX6_readAct 98 = .ok (.if_icmp .ne 74, 3) := by decide +kernel
theorem dX6_readAct_101 : decode cX6_readAct 101 = .ok (.aload_n 0, 1) := by decide +kernel
theorem dX6_readAct_102 : decode cX6_readAct 102 = .ok (.dup, 1) := by decide +kernel
theorem dX6_readAct_103 : decode cX6_readAct 103 = .ok (.getfield 170, 3) := by decide +kernel
theorem dX6_readAct_106 : decode cX6_readAct 106 = .ok (.iconst 1, 1) := by decide +kernel
theorem dX6_readAct_107 : decode cX6_readAct 107 = .ok (.iadd, 1) := by decide +kernel
theorem dX6_readAct_108 : decode cX6_readAct 108 = .ok (.putfield 170, 3) := by decide +kernel
theorem dX6_readAct_111 : decode cX6_readAct 111 = .ok (.aload_n 0, 1) := by decide +kernel
theorem dX6_readAct_112 : decode cX6_readAct 112 = .ok (.getfield 25, 3) := by decide +kernel
theorem dX6_readAct_115 : decode cX6_readAct 115 = .ok (.aload_n 0, 1) := by decide +kernel
theorem dX6_readAct_116 : decode cX6_readAct 116 = .ok (.getfield 184, 3) := by decide +kernel
theorem dX6_readAct_119 : decode cX6_readAct 119 = .ok (.iload_n 1, 1) := by decide +kernel
theorem dX6_readAct_120 : decode cX6_readAct 120 = .ok (.bipush 43, 2) := by decide +kernel
theorem dX6_readAct_122 : decode cX6_readAct 122 = .ok (.if_icmp .ne 7, 3) := by decide +kernel
theorem dX6_readAct_125 : decode cX6_readAct 125 = .ok (.iconst 1, 1) := by decide +kernel
theorem dX6_readAct_126 : decode cX6_readAct 126 = .ok (.goto 4, 3) := by decide +kernel
theorem dX6_readAct_129 : decode cX6_readAct 129 = .ok (.iconst 2, 1) := by decide +kernel
theorem dX6_readAct_130 : decode cX6_readAct 130 = .ok (.iastore, 1) := by decide +kernel
theorem dX6_readAct_131 : decode cX6_readAct 131 = .ok (.aload_n 0, 1) := by decide +kernel
theorem dX6_readAct_132 : decode cX6_readAct 132 = .ok (.getfield 28, 3) := by decide +kernel
theorem dX6_readAct_135 : decode cX6_readAct 135 = .ok (.aload_n 0, 1) := by decide +kernel
theorem dX6_readAct_136 : decode cX6_readAct 136 = .ok (.getfield 184, 3) := by decide +kernel
theorem dX6_readAct_139 : decode cX6_readAct 139 = .ok (.aload_n 0, 1) := by decide +kernel
theorem dX6_readAct_140 : decode cX6_readAct 140 = .ok (.iload_n 1, 1) := by decide +kernel
theorem dX6_readAct_141 : decode cX6_readAct 141 = .ok (.bipush 43, 2) := by decide +kernel
theorem dX6_readAct_143 : decode cX6_readAct 143 = .ok (.if_icmp .ne 8, 3) := by decide +kernel
theorem dX6_readAct_146 : decode cX6_readAct 146 = .ok (.bipush 99, 2) := by decide +kernel
theorem dX6_readAct_148 : decode cX6_readAct 148 = .ok (.goto 6, 3) := by decide +kernel
theorem dX6_readAct_151 : decode cX6_readAct 151 = .ok (.sipush 999, 3) := by decide +kernel
theorem dX6_readAct_154 : decode cX6_readAct 154 = .ok (.invokevirtual 187, 3) := by decide +kernel
theorem dX6_readAct_157 : decode cX6_readAct 157 = .ok (.iastore, 1) := by decide +kernel
theorem dX6_readAct_158 : decode cX6_readAct 158 = .ok (.aload_n 0, 1) := by decide +kernel
theorem dX6_readAct_159 : decode cX6_readAct 159 = .ok (.getfield 28, 3) := by decide +kernel
theorem dX6_readAct_162 : decode cX6_readAct 162 = .ok (.aload_n 0, 1) := by decide +kernel
theorem dX6_readAct_163 : decode cX6_readAct 163 = .ok (.getfield 184, 3) := by decide +kernel
theorem dX6_readAct_166 : decode cX6_readAct 166 = .ok (.iaload, 1) := by decide +kernel
theorem dX6_readAct_167 : decode cX6_readAct 167 = .ok (.ifCond .ge 7, 3) := by decide +kernel
theorem dX6_readAct_170 : decode cX6_readAct 170 = .ok (.iconst 0, 1) := by decide +kernel
theorem dX6_readAct_171 : decode cX6_readAct 171 = .ok (.ireturn, 1) := by decide +kernel
theorem dX6_readAct_172 : decode cX6_readAct 172 = .ok (.iconst 0, 1) := by decide +kernel
theorem dX6_readAct_173 : decode cX6_readAct 173 = .ok (.ireturn, 1) := by decide +kernel
theorem dX6_readAct_174 : decode cX6_readAct 174 = .ok (.aload_n 0, 1) := by decide +kernel
theorem dX6_readAct_175 : decode cX6_readAct 175 = .ok (.dup, 1) := by decide +kernel
theorem dX6_readAct_176 : decode cX6_readAct 176 = .ok (.getfield 184, 3) := by decide +kernel
theorem dX6_readAct_179 : decode cX6_readAct 179 = .ok (.iconst 1, 1) := by decide +kernel
theorem dX6_readAct_180 : decode cX6_readAct 180 = .ok (.iadd, 1) := by decide +kernel
theorem dX6_readAct_181 : decode cX6_readAct 181 = .ok (.putfield 184, 3) := by decide +kernel
theorem dX6_readAct_184 : decode cX6_readAct 184 = .ok (.iconst 1, 1) := by decide +kernel
theorem dX6_readAct_185 : decode cX6_readAct 185 = .ok (.ireturn, 1) := by decide +kernel
theorem dX6_evening_0 : decode cX6_evening 0 = .ok (.aload_n 0, 1) := by decide +kernel
theorem dX6_evening_1 : decode cX6_evening 1 = .ok (.iconst 0, 1) := by decide +kernel
theorem dX6_evening_2 : decode cX6_evening 2 = .ok (.putfield 170, 3) := by decide +kernel
theorem dX6_evening_5 : decode cX6_evening 5 = .ok (.aload_n 0, 1) := by decide +kernel
theorem dX6_evening_6 : decode cX6_evening 6 = .ok (.iconst 0, 1) := by decide +kernel
theorem dX6_evening_7 : decode cX6_evening 7 = .ok (.putfield 184, 3) := by decide +kernel
theorem dX6_evening_10 : decode cX6_evening 10 = .ok (.aload_n 0, 1) := by decide +kernel
theorem dX6_evening_11 : decode cX6_evening 11 = .ok (.invokevirtual 190, 3) := by decide +kernel
theorem dX6_evening_14 : decode cX6_evening 14 = .ok (.istore_n 1, 1) := by decide +kernel
theorem dX6_evening_15 : decode cX6_evening 15 = .ok (.iload_n 1, 1) := by decide +kernel
theorem dX6_evening_16 : decode cX6_evening 16 = .ok (.ifCond .eq 18, 3) := by decide +kernel
theorem dX6_evening_19 : decode cX6_evening 19 = .ok (.aload_n 0, 1) := by decide +kernel
theorem dX6_evening_20 : decode cX6_evening 20 = .ok (.invokevirtual 173, 3) := by decide +kernel
theorem dX6_evening_23 : decode cX6_evening 23 = .ok (.ifCond .lt 11, 3) := by decide +kernel
theorem dX6_evening_26 : decode cX6_evening 26 = .ok (.aload_n 0, 1) := by decide +kernel
theorem dX6_evening_27 : decode cX6_evening 27 = .ok (.invokevirtual 190, 3) := by decide +kernel
theorem dX6_evening_30 : decode cX6_evening 30 = .ok (.istore_n 1, 1) := by decide +kernel
theorem dX6_evening_31 : decode cX6_evening 31 = .ok (.goto (-16), 3) := by decide +kernel
theorem dX6_evening_34 : decode cX6_evening 34 = .ok (.aload_n 0, 1) := by decide +kernel
theorem dX6_evening_35 : decode cX6_evening 35 = .ok (.iconst 0, 1) := by decide +kernel
theorem dX6_evening_36 : decode cX6_evening 36 = .ok (.putfield 167, 3) := by decide +kernel
theorem dX6_evening_39 : decode cX6_evening 39 = .ok (.iload_n 1, 1) := by decide +kernel
theorem dX6_evening_40 : decode cX6_evening 40 = .ok (.ifCond .ne 11, 3) := by decide +kernel
theorem dX6_evening_43 : decode cX6_evening 43 = .ok (.bipush (-20), 2) := by decide +kernel
theorem dX6_evening_45 : decode cX6_evening 45 = .ok (.aload_n 0, 1) := by decide +kernel
theorem dX6_evening_46 : decode cX6_evening 46 = .ok (.getfield 170, 3) := by decide +kernel
theorem dX6_evening_49 : decode cX6_evening 49 = .ok (.isub, 1) := by decide +kernel
theorem dX6_evening_50 : decode cX6_evening 50 = .ok (.ireturn, 1) := by decide +kernel
theorem dX6_evening_51 : decode cX6_evening 51 = .ok (.iconst 0, 1) := by decide +kernel
theorem dX6_evening_52 : decode cX6_evening 52 = .ok (.istore_n 2, 1) := by decide +kernel
theorem dX6_evening_53 : decode cX6_evening 53 = .ok (.iload_n 2, 1) := by decide +kernel
theorem dX6_evening_54 : decode cX6_evening 54 = .ok (.aload_n 0, 1) := by decide +kernel
theorem dX6_evening_55 : decode cX6_evening 55 = .ok (.getfield 184, 3) := by decide +kernel
theorem dX6_evening_58 : decode cX6_evening 58 = .ok (.if_icmp .ge 71, 3) := by decide +kernel
theorem dX6_evening_61 : decode cX6_evening 61 = .ok (.aload_n 0, 1) := by decide +kernel
theorem dX6_evening_62 : decode cX6_evening 62 = .ok (.getfield 25, 3) := by decide +kernel
theorem dX6_evening_65 : decode cX6_evening 65 = .ok (.iload_n 2, 1) := by decide +kernel
theorem dX6_evening_66 : decode cX6_evening 66 = .ok (.iaload, 1) := by decide +kernel
theorem dX6_evening_67 : decode cX6_evening 67 = .ok (.ifCond .ne 16, 3) := by decide +kernel
theorem dX6_evening_70 : decode cX6_evening 70 = .ok (.aload_n 0, 1) := by decide +kernel
theorem dX6_evening_71 : decode cX6_evening 71 = .ok (.aload_n 0, 1) := by decide +kernel
theorem dX6_evening_72 : decode cX6_evening 72 = .ok (.getfield 28, 3) := by decide +kernel
theorem dX6_evening_75 : decode cX6_evening 75 = .ok (.iload_n 2, 1) := by decide +kernel
theorem dX6_evening_76 : decode cX6_evening 76 = .ok (.iaload, 1) := by decide +kernel
theorem dX6_evening_77 : decode cX6_evening 77 = .ok (.invokevirtual 193, 3) := by decide +kernel
theorem dX6_evening_80 : decode cX6_evening 80 = .ok (.goto 36, 3) := by decide +kernel
theorem dX6_evening_83 : decode cX6_evening 83 = .ok (.aload_n 0, 1) := by decide +kernel
theorem dX6_evening_84 : decode cX6_evening 84 = .ok (.getfield 25, 3) := by decide +kernel
theorem dX6_evening_87 : decode cX6_evening 87 = .ok (.iload_n 2, 1) := by decide +kernel
theorem dX6_evening_88 : decode cX6_evening 88 = .ok (.iaload, 1) := by decide +kernel
theorem dX6_evening_89 : decode cX6_evening 89 = .ok (.iconst 1, 1) := by decide +kernel
theorem dX6_evening_90 : decode cX6_evening 90 = .ok (.if_icmp .ne 16, 3) := by decide +kernel
theorem dX6_evening_93 : decode cX6_evening 93 = .ok (.aload_n 0, 1) := by decide +kernel
theorem dX6_evening_94 : decode cX6_evening 94 = .ok (.aload_n 0, 1) := by decide +kernel
theorem dX6_evening_95 : decode cX6_evening 95 = .ok (.getfield 28, 3) := by decide +kernel
theorem dX6_evening_98 : decode cX6_evening 98 = .ok (.iload_n 2, 1) := by decide +kernel
theorem dX6_evening_99 : decode cX6_evening 99 = .ok (.iaload, 1) := by decide +kernel
theorem dX6_evening_100 : decode cX6_evening 100 = .ok (.invokevirtual 196, 3) := by decide +kernel
theorem dX6_evening_103 : decode cX6_evening 103 = .ok (.goto 13, 3) := by decide +kernel
theorem dX6_evening_106 : decode cX6_evening 106 = .ok (.aload_n 0, 1) := by decide +kernel
theorem dX6_evening_107 : decode cX6_evening 107 = .ok (.aload_n 0, 1) := by decide +kernel
theorem dX6_evening_108 : decode cX6_evening 108 = .ok (.getfield 28, 3) := by decide +kernel
theorem dX6_evening_111 : decode cX6_evening 111 = .ok (.iload_n 2, 1) := by decide +kernel
theorem dX6_evening_112 : decode cX6_evening 112 = .ok (.iaload, 1) := by decide +kernel
theorem dX6_evening_113 : decode cX6_evening 113 = .ok (.invokevirtual 199, 3) := by decide +kernel
theorem dX6_evening_116 : decode cX6_evening 116 = .ok (.istore_n 3, 1) := by decide +kernel
theorem dX6_evening_117 : decode cX6_evening 117 = .ok (.iload_n 3, 1) := by decide +kernel
theorem dX6_evening_118 : decode cX6_evening 118 = .ok (.ifCond .ge 5, 3) := by decide +kernel
theorem dX6_evening_121 : decode cX6_evening 121 = .ok (.iload_n 2, 1) := by decide +kernel
theorem dX6_evening_122 : decode cX6_evening 122 = .ok (.ireturn, 1) := by decide +kernel
theorem dX6_evening_123 : decode cX6_evening 123 = .ok (.iinc 2 1, 3) := by decide +kernel
theorem dX6_evening_126 : decode cX6_evening 126 = .ok (.goto (-73), 3) := by decide +kernel
theorem dX6_evening_129 : decode cX6_evening 129 = .ok (.aload_n 0, 1) := by decide +kernel
theorem dX6_evening_130 : decode cX6_evening 130 = .ok (.getfield 184, 3) := by decide +kernel
theorem dX6_evening_133 : decode cX6_evening 133 = .ok (.ireturn, 1) := by decide +kernel
theorem dX6_image_0 : decode cX6_image 0 = .ok (.aload_n 0, 1) := by decide +kernel
theorem dX6_image_1 : decode cX6_image 1 = .ok (.aload_n 0, 1) := by decide +kernel
theorem dX6_image_2 : decode cX6_image 2 = .ok (.getfield 31, 3) := by decide +kernel
theorem dX6_image_5 : decode cX6_image 5 = .ok (.invokevirtual 109, 3) := by decide +kernel
theorem dX6_image_8 : decode cX6_image 8 = .ok (.aload_n 0, 1) := by decide +kernel
theorem dX6_image_9 : decode cX6_image 9 = .ok (.iconst 1, 1) := by decide +kernel
theorem dX6_image_10 : decode cX6_image 10 = .ok (.putfield 202, 3) := by decide +kernel
theorem dX6_image_13 : decode cX6_image 13 = .ok (.iconst 1, 1) := by decide +kernel
theorem dX6_image_14 : decode cX6_image 14 = .ok (.ireturn, 1) := by decide +kernel
theorem dX6_restore_0 : decode cX6_restore 0 = .ok (.aload_n 0, 1) := by decide +kernel
theorem dX6_restore_1 : decode cX6_restore 1 = .ok (.getfield 202, 3) := by decide +kernel
theorem dX6_restore_4 : decode cX6_restore 4 = .ok (.ifCond .ne 6, 3) := by decide +kernel
theorem dX6_restore_7 : decode cX6_restore 7 = .ok (.bipush (-4), 2) := by decide +kernel
theorem dX6_restore_9 : decode cX6_restore 9 = .ok (.ireturn, 1) := by decide +kernel
theorem dX6_restore_10 : decode cX6_restore 10 = .ok (.aload_n 0, 1) := by decide +kernel
theorem dX6_restore_11 : decode cX6_restore 11 = .ok (.aload_n 0, 1) := by decide +kernel
theorem dX6_restore_12 : decode cX6_restore 12 = .ok (.getfield 31, 3) := by decide +kernel
theorem dX6_restore_15 : decode cX6_restore 15 = .ok (.invokevirtual 120, 3) := by decide +kernel
theorem dX6_restore_18 : decode cX6_restore 18 = .ok (.iconst 1, 1) := by decide +kernel
theorem dX6_restore_19 : decode cX6_restore 19 = .ok (.ireturn, 1) := by decide +kernel
theorem dX6_isSheet_0 : decode cX6_isSheet 0 = .ok (.iload_n 0, 1) := by decide +kernel
theorem dX6_isSheet_1 : decode cX6_isSheet 1 = .ok (.i2l, 1) := by decide +kernel
theorem dX6_isSheet_2 : decode cX6_isSheet 2 = .ok (.lconst 0, 1) := by decide +kernel
theorem dX6_isSheet_3 : decode cX6_isSheet 3 = .ok (.ldc2_w 107, 3) := by decide +kernel
theorem dX6_isSheet_6 : decode cX6_isSheet 6 = .ok (.invokestatic 43, 3) := by decide +kernel
theorem dX6_isSheet_9 : decode cX6_isSheet 9 = .ok (.ifCond .eq 19, 3) := by decide +kernel
theorem dX6_isSheet_12 : decode cX6_isSheet 12 = .ok (.iload_n 1, 1) := by decide +kernel
theorem dX6_isSheet_13 : decode cX6_isSheet 13 = .ok (.i2l, 1) := by decide +kernel
theorem dX6_isSheet_14 : decode cX6_isSheet 14 = .ok (.lconst 0, 1) := by decide +kernel
theorem dX6_isSheet_15 : decode cX6_isSheet 15 = .ok (.ldc2_w 70, 3) := by decide +kernel
theorem dX6_isSheet_18 : decode cX6_isSheet 18 = .ok (.invokestatic 43, 3) := by decide +kernel
theorem dX6_isSheet_21 : decode cX6_isSheet 21 = .ok (.ifCond .eq 7, 3) := by decide +kernel
theorem dX6_isSheet_24 : decode cX6_isSheet 24 = .ok (.iconst 1, 1) := by decide +kernel
theorem dX6_isSheet_25 : decode cX6_isSheet 25 = .ok (.goto 4, 3) := by decide +kernel
theorem dX6_isSheet_28 : decode cX6_isSheet 28 = .ok (.iconst 0, 1) := by decide +kernel
theorem dX6_isSheet_29 : decode cX6_isSheet 29 = .ok (.ireturn, 1) := by decide +kernel
theorem dX6_sheet_0 : decode cX6_sheet 0 = .ok (.iload_n 1, 1) := by decide +kernel
theorem dX6_sheet_1 : decode cX6_sheet 1 = .ok (.iload_n 2, 1) := by decide +kernel
theorem dX6_sheet_2 : decode cX6_sheet 2 = .ok (.invokestatic 132, 3) := by decide +kernel
theorem dX6_sheet_5 : decode cX6_sheet 5 = .ok (.ifCond .eq 9, 3) := by decide +kernel
theorem dX6_sheet_8 : decode cX6_sheet 8 = .ok (.iload_n 3, 1) := by decide +kernel
theorem dX6_sheet_9 : decode cX6_sheet 9 = .ok (.bipush 24, 2) := by decide +kernel
theorem dX6_sheet_11 : decode cX6_sheet 11 = .ok (.if_icmp .le 5, 3) := by decide +kernel
theorem dX6_sheet_14 : decode cX6_sheet 14 = .ok (.iconst (-1), 1) := by decide +kernel
theorem dX6_sheet_15 : decode cX6_sheet 15 = .ok (.ireturn, 1) := by decide +kernel
theorem dX6_sheet_16 : decode cX6_sheet 16 = .ok (.iload_n 3, 1) := by decide +kernel
theorem dX6_sheet_17 : decode cX6_sheet 17 = .ok (.ifCond .ge 6, 3) := by decide +kernel
theorem dX6_sheet_20 : decode cX6_sheet 20 = .ok (.bipush (-14), 2) := by decide +kernel
theorem dX6_sheet_22 : decode cX6_sheet 22 = .ok (.ireturn, 1) := by decide +kernel
theorem dX6_sheet_23 : decode cX6_sheet 23 = .ok (.aload_n 0, 1) := by decide +kernel
theorem dX6_sheet_24 : decode cX6_sheet 24 = .ok (.getfield 34, 3) := by decide +kernel
theorem dX6_sheet_27 : decode cX6_sheet 27 = .ok (.iload_n 1, 1) := by decide +kernel
theorem dX6_sheet_28 : decode cX6_sheet 28 = .ok (.iload_n 2, 1) := by decide +kernel
theorem dX6_sheet_29 : decode cX6_sheet 29 = .ok (.iastore, 1) := by decide +kernel
theorem dX6_sheet_30 : decode cX6_sheet 30 = .ok (.aload_n 0, 1) := by decide +kernel
theorem dX6_sheet_31 : decode cX6_sheet 31 = .ok (.getfield 37, 3) := by decide +kernel
theorem dX6_sheet_34 : decode cX6_sheet 34 = .ok (.iload_n 1, 1) := by decide +kernel
theorem dX6_sheet_35 : decode cX6_sheet 35 = .ok (.iload_n 3, 1) := by decide +kernel
theorem dX6_sheet_36 : decode cX6_sheet 36 = .ok (.iastore, 1) := by decide +kernel
theorem dX6_sheet_37 : decode cX6_sheet 37 = .ok (.iconst 0, 1) := by decide +kernel
theorem dX6_sheet_38 : decode cX6_sheet 38 = .ok (.istore 4, 2) := by decide +kernel
theorem dX6_sheet_40 : decode cX6_sheet 40 = .ok (.iload 4, 2) := by decide +kernel
theorem dX6_sheet_42 : decode cX6_sheet 42 = .ok (.bipush 24, 2) := by decide +kernel
theorem dX6_sheet_44 : decode cX6_sheet 44 = .ok (.if_icmp .ge 22, 3) := by decide +kernel
theorem dX6_sheet_47 : decode cX6_sheet 47 = .ok (.aload_n 0, 1) := by decide +kernel
theorem dX6_sheet_48 : decode cX6_sheet 48 = .ok (.getfield 40, 3) := by decide +kernel
theorem dX6_sheet_51 : decode cX6_sheet 51 = .ok (.bipush 24, 2) := by decide +kernel
theorem dX6_sheet_53 : decode cX6_sheet 53 = .ok (.iload_n 1, 1) := by decide +kernel
theorem dX6_sheet_54 : decode cX6_sheet 54 = .ok (.imul, 1) := by decide +kernel
theorem dX6_sheet_55 : decode cX6_sheet 55 = .ok (.iload 4, 2) := by decide +kernel
theorem dX6_sheet_57 : decode cX6_sheet 57 = .ok (.iadd, 1) := by decide +kernel
theorem dX6_sheet_58 : decode cX6_sheet 58 = .ok (.iconst 0, 1) := by decide +kernel
theorem dX6_sheet_59 : decode cX6_sheet 59 = .ok (.iastore, 1) := by decide +kernel
theorem dX6_sheet_60 : decode cX6_sheet 60 = .ok (.iinc 4 1, 3) := by decide +kernel
theorem dX6_sheet_63 : decode cX6_sheet 63 = .ok (.goto (-23), 3) := by decide +kernel
theorem dX6_sheet_66 : decode cX6_sheet 66 = .ok (.iload_n 3, 1) := by decide +kernel
theorem dX6_sheet_67 : decode cX6_sheet 67 = .ok (.ireturn, 1) := by decide +kernel
theorem dX6_drop_0 : decode cX6_drop 0 = .ok (.iload_n 1, 1) := by decide +kernel
theorem dX6_drop_1 : decode cX6_drop 1 = .ok (.i2l, 1) := by decide +kernel
theorem dX6_drop_2 : decode cX6_drop 2 = .ok (.lconst 0, 1) := by decide +kernel
theorem dX6_drop_3 : decode cX6_drop 3 = .ok (.ldc2_w 107, 3) := by decide +kernel
theorem dX6_drop_6 : decode cX6_drop 6 = .ok (.invokestatic 43, 3) := by decide +kernel
theorem dX6_drop_9 : decode cX6_drop 9 = .ok (.ifCond .ne 5, 3) := by decide +kernel
theorem dX6_drop_12 : decode cX6_drop 12 = .ok (.iconst (-1), 1) := by decide +kernel
theorem dX6_drop_13 : decode cX6_drop 13 = .ok (.ireturn, 1) := by decide +kernel
theorem dX6_drop_14 : decode cX6_drop 14 = .ok (.aload_n 0, 1) := by decide +kernel
theorem dX6_drop_15 : decode cX6_drop 15 = .ok (.getfield 34, 3) := by decide +kernel
theorem dX6_drop_18 : decode cX6_drop 18 = .ok (.iload_n 1, 1) := by decide +kernel
theorem dX6_drop_19 : decode cX6_drop 19 = .ok (.iaload, 1) := by decide +kernel
theorem dX6_drop_20 : decode cX6_drop 20 = .ok (.ifCond .ge 6, 3) := by decide +kernel
theorem dX6_drop_23 : decode cX6_drop 23 = .ok (.bipush (-11), 2) := by decide +kernel
theorem dX6_drop_25 : decode cX6_drop 25 = .ok (.ireturn, 1) := by decide +kernel
theorem dX6_drop_26 : decode cX6_drop 26 = .ok (.aload_n 0, 1) := by decide +kernel
theorem dX6_drop_27 : decode cX6_drop 27 = .ok (.getfield 34, 3) := by decide +kernel
theorem dX6_drop_30 : decode cX6_drop 30 = .ok (.iload_n 1, 1) := by decide +kernel
theorem dX6_drop_31 : decode cX6_drop 31 = .ok (.iconst (-1), 1) := by decide +kernel
theorem dX6_drop_32 : decode cX6_drop 32 = .ok (.iastore, 1) := by decide +kernel
theorem dX6_drop_33 : decode cX6_drop 33 = .ok (.aload_n 0, 1) := by decide +kernel
theorem dX6_drop_34 : decode cX6_drop 34 = .ok (.getfield 37, 3) := by decide +kernel
theorem dX6_drop_37 : decode cX6_drop 37 = .ok (.iload_n 1, 1) := by decide +kernel
theorem dX6_drop_38 : decode cX6_drop 38 = .ok (.iaload, 1) := by decide +kernel
theorem dX6_drop_39 : decode cX6_drop 39 = .ok (.ireturn, 1) := by decide +kernel
theorem dX6_lacksRow_0 : decode cX6_lacksRow 0 = .ok (.aload_n 0, 1) := by decide +kernel
theorem dX6_lacksRow_1 : decode cX6_lacksRow 1 = .ok (.getfield 34, 3) := by decide +kernel
theorem dX6_lacksRow_4 : decode cX6_lacksRow 4 = .ok (.iload_n 1, 1) := by decide +kernel
theorem dX6_lacksRow_5 : decode cX6_lacksRow 5 = .ok (.iaload, 1) := by decide +kernel
theorem dX6_lacksRow_6 : decode cX6_lacksRow 6 = .ok (.iload_n 2, 1) := by decide +kernel
theorem dX6_lacksRow_7 : decode cX6_lacksRow 7 = .ok (.if_icmp .eq 20, 3) := by decide +kernel
theorem dX6_lacksRow_10 : decode cX6_lacksRow 10 = .ok (.aload_n 0, 1) := by decide +kernel
theorem dX6_lacksRow_11 : decode cX6_lacksRow 11 = .ok (.getfield 34, 3) := by decide +kernel
theorem dX6_lacksRow_14 : decode cX6_lacksRow 14 = .ok (.iload_n 1, 1) := by decide +kernel
theorem dX6_lacksRow_15 : decode cX6_lacksRow 15 = .ok (.iaload, 1) := by decide +kernel
theorem dX6_lacksRow_16 : decode cX6_lacksRow 16 = .ok (.ifCond .ge 8, 3) := by decide +kernel
theorem dX6_lacksRow_19 : decode cX6_lacksRow 19 = .ok (.bipush (-11), 2) := by decide +kernel
theorem dX6_lacksRow_21 : decode cX6_lacksRow 21 = .ok (.goto 5, 3) := by decide +kernel
theorem dX6_lacksRow_24 : decode cX6_lacksRow 24 = .ok (.bipush (-12), 2) := by decide +kernel
theorem dX6_lacksRow_26 : decode cX6_lacksRow 26 = .ok (.ireturn, 1) := by decide +kernel
theorem dX6_lacksRow_27 : decode cX6_lacksRow 27 = .ok (.iload_n 3, 1) := by decide +kernel
theorem dX6_lacksRow_28 : decode cX6_lacksRow 28 = .ok (.i2l, 1) := by decide +kernel
theorem dX6_lacksRow_29 : decode cX6_lacksRow 29 = .ok (.lconst 0, 1) := by decide +kernel
theorem dX6_lacksRow_30 : decode cX6_lacksRow 30 = .ok (.aload_n 0, 1) := by decide +kernel
theorem dX6_lacksRow_31 : decode cX6_lacksRow 31 = .ok (.getfield 37, 3) := by decide +kernel
theorem dX6_lacksRow_34 : decode cX6_lacksRow 34 = .ok (.iload_n 1, 1) := by decide +kernel
theorem dX6_lacksRow_35 : decode cX6_lacksRow 35 = .ok (.iaload, 1) := by decide +kernel
theorem dX6_lacksRow_36 : decode cX6_lacksRow 36 = .ok (.iload 4, 2) := by decide +kernel
theorem dX6_lacksRow_38 : decode cX6_lacksRow 38 = .ok (.isub, 1) := by decide +kernel
theorem dX6_lacksRow_39 : decode cX6_lacksRow 39 = .ok (.i2l, 1) := by decide +kernel
theorem dX6_lacksRow_40 : decode cX6_lacksRow 40 = .ok (.invokestatic 43, 3) := by decide +kernel
theorem dX6_lacksRow_43 : decode cX6_lacksRow 43 = .ok (.ifCond .eq 7, 3) := by decide +kernel
theorem dX6_lacksRow_46 : decode cX6_lacksRow 46 = .ok (.iconst 0, 1) := by decide +kernel
theorem dX6_lacksRow_47 : decode cX6_lacksRow 47 = .ok (.goto 5, 3) := by decide +kernel
theorem dX6_lacksRow_50 : decode cX6_lacksRow 50 = .ok (.bipush (-13), 2) := by decide +kernel
theorem dX6_lacksRow_52 : decode cX6_lacksRow 52 = .ok (.ireturn, 1) := by decide +kernel
theorem dX6_item_0 : decode cX6_item 0 = .ok (.iload_n 1, 1) := by decide +kernel
theorem dX6_item_1 : decode cX6_item 1 = .ok (.iload_n 2, 1) := by decide +kernel
theorem dX6_item_2 : decode cX6_item 2 = .ok (.invokestatic 132, 3) := by decide +kernel
theorem dX6_item_5 : decode cX6_item 5 = .ok (.ifCond .ne 5, 3) := by decide +kernel
theorem dX6_item_8 : decode cX6_item 8 = .ok (.iconst (-1), 1) := by decide +kernel
theorem dX6_item_9 : decode cX6_item 9 = .ok (.ireturn, 1) := by decide +kernel
theorem dX6_item_10 : decode cX6_item 10 = .ok (.aload_n 0, 1) := by decide +kernel
theorem dX6_item_11 : decode cX6_item 11 = .ok (.iload_n 1, 1) := by decide +kernel
theorem dX6_item_12 : decode cX6_item 12 = .ok (.iload_n 2, 1) := by decide +kernel
theorem dX6_item_13 : decode cX6_item 13 = .ok (.iload_n 3, 1) := by decide +kernel
theorem dX6_item_14 : decode cX6_item 14 = .ok (.iconst 1, 1) := by decide +kernel
theorem dX6_item_15 : decode cX6_item 15 = .ok (.invokevirtual 136, 3) := by decide +kernel
theorem dX6_item_18 : decode cX6_item 18 = .ok (.istore 5, 2) := by decide +kernel
theorem dX6_item_20 : decode cX6_item 20 = .ok (.iload 5, 2) := by decide +kernel
theorem dX6_item_22 : decode cX6_item 22 = .ok (.ifCond .ge 6, 3) := by decide +kernel
theorem dX6_item_25 : decode cX6_item 25 = .ok (.iload 5, 2) := by decide +kernel
theorem dX6_item_27 : decode cX6_item 27 = .ok (.ireturn, 1) := by decide +kernel
theorem dX6_item_28 : decode cX6_item 28 = .ok (.aload_n 0, 1) := by decide +kernel
theorem dX6_item_29 : decode cX6_item 29 = .ok (.getfield 40, 3) := by decide +kernel
theorem dX6_item_32 : decode cX6_item 32 = .ok (.bipush 24, 2) := by decide +kernel
theorem dX6_item_34 : decode cX6_item 34 = .ok (.iload_n 1, 1) := by decide +kernel
theorem dX6_item_35 : decode cX6_item 35 = .ok (.imul, 1) := by decide +kernel
theorem dX6_item_36 : decode cX6_item 36 = .ok (.iload_n 3, 1) := by decide +kernel
theorem dX6_item_37 : decode cX6_item 37 = .ok (.iadd, 1) := by decide +kernel
theorem dX6_item_38 : decode cX6_item 38 = .ok (.iload_n 2, 1) := by decide +kernel
theorem dX6_item_39 : decode cX6_item 39 = .ok (.ifCond .ne 14, 3) := by decide +kernel
theorem dX6_item_42 : decode cX6_item 42 = .ok (.iload 4, 2) := by decide +kernel
theorem dX6_item_44 : decode cX6_item 44 = .ok (.bipush 24, 2) := by decide +kernel
theorem dX6_item_46 : decode cX6_item 46 = .ok (.ishl, 1) := by decide +kernel
theorem dX6_item_47 : decode cX6_item 47 = .ok (.bipush 24, 2) := by decide +kernel
theorem dX6_item_49 : decode cX6_item 49 = .ok (.ishr, 1) := by decide +kernel
theorem dX6_item_50 : decode cX6_item 50 = .ok (.goto 21, 3) := by decide +kernel
theorem dX6_item_53 : decode cX6_item 53 = .ok (.iload_n 2, 1) := by decide +kernel
theorem dX6_item_54 : decode cX6_item 54 = .ok (.iconst 1, 1) := by decide +kernel
theorem dX6_item_55 : decode cX6_item 55 = .ok (.if_icmp .ne 14, 3) := by decide +kernel
theorem dX6_item_58 : decode cX6_item 58 = .ok (.iload 4, 2) := by decide +kernel
theorem dX6_item_60 : decode cX6_item 60 = .ok (.bipush 16, 2) := by decide +kernel
theorem dX6_item_62 : decode cX6_item 62 = .ok (.ishl, 1) := by decide +kernel
theorem dX6_item_63 : decode cX6_item 63 = .ok (.bipush 16, 2) := by decide +kernel
theorem dX6_item_65 : decode cX6_item 65 = .ok (.ishr, 1) := by decide +kernel
theorem dX6_item_66 : decode cX6_item 66 = .ok (.goto 5, 3) := by decide +kernel
theorem dX6_item_69 : decode cX6_item 69 = .ok (.iload 4, 2) := by decide +kernel
theorem dX6_item_71 : decode cX6_item 71 = .ok (.iastore, 1) := by decide +kernel
theorem dX6_item_72 : decode cX6_item 72 = .ok (.iconst 1, 1) := by decide +kernel
theorem dX6_item_73 : decode cX6_item 73 = .ok (.ireturn, 1) := by decide +kernel
theorem dJ6_bitCount_0f7a4_0 : decode cJ6_bitCount_0f7a4 0 = .ok (.iload_n 0, 1) := by decide +kernel
theorem dJ6_bitCount_0f7a4_1 : decode cJ6_bitCount_0f7a4 1 = .ok (.iload_n 0, 1) := by decide +kernel
theorem dJ6_bitCount_0f7a4_2 : decode cJ6_bitCount_0f7a4 2 = .ok (.iconst 1, 1) := by decide +kernel
theorem dJ6_bitCount_0f7a4_3 : decode cJ6_bitCount_0f7a4 3 = .ok (.iushr, 1) := by decide +kernel
theorem dJ6_bitCount_0f7a4_4 : decode cJ6_bitCount_0f7a4 4 = .ok (.ldc_w 265, 3) := by decide +kernel
theorem dJ6_bitCount_0f7a4_7 : decode cJ6_bitCount_0f7a4 7 = .ok (.iand, 1) := by decide +kernel
theorem dJ6_bitCount_0f7a4_8 : decode cJ6_bitCount_0f7a4 8 = .ok (.isub, 1) := by decide +kernel
theorem dJ6_bitCount_0f7a4_9 : decode cJ6_bitCount_0f7a4 9 = .ok (.istore_n 0, 1) := by decide +kernel
theorem dJ6_bitCount_0f7a4_10 : decode cJ6_bitCount_0f7a4 10 = .ok (.iload_n 0, 1) := by decide +kernel
theorem dJ6_bitCount_0f7a4_11 : decode cJ6_bitCount_0f7a4 11 = .ok (.ldc_w 266, 3) := by decide +kernel
theorem dJ6_bitCount_0f7a4_14 : decode cJ6_bitCount_0f7a4 14 = .ok (.iand, 1) := by decide +kernel
theorem dJ6_bitCount_0f7a4_15 : decode cJ6_bitCount_0f7a4 15 = .ok (.iload_n 0, 1) := by decide +kernel
theorem dJ6_bitCount_0f7a4_16 : decode cJ6_bitCount_0f7a4 16 = .ok (.iconst 2, 1) := by decide +kernel
theorem dJ6_bitCount_0f7a4_17 : decode cJ6_bitCount_0f7a4 17 = .ok (.iushr, 1) := by decide +kernel
theorem dJ6_bitCount_0f7a4_18 : decode cJ6_bitCount_0f7a4 18 = .ok (.ldc_w 266, 3) := by decide +kernel
theorem dJ6_bitCount_0f7a4_21 : decode cJ6_bitCount_0f7a4 21 = .ok (.iand, 1) := by decide +kernel
theorem dJ6_bitCount_0f7a4_22 : decode cJ6_bitCount_0f7a4 22 = .ok (.iadd, 1) := by decide +kernel
theorem dJ6_bitCount_0f7a4_23 : decode cJ6_bitCount_0f7a4 23 = .ok (.istore_n 0, 1) := by decide +kernel
theorem dJ6_bitCount_0f7a4_24 : decode cJ6_bitCount_0f7a4 24 = .ok (.iload_n 0, 1) := by decide +kernel
theorem dJ6_bitCount_0f7a4_25 : decode cJ6_bitCount_0f7a4 25 = .ok (.iload_n 0, 1) := by decide +kernel
theorem dJ6_bitCount_0f7a4_26 : decode cJ6_bitCount_0f7a4 26 = .ok (.iconst 4, 1) := by decide +kernel
theorem dJ6_bitCount_0f7a4_27 : decode cJ6_bitCount_0f7a4 27 = .ok (.iushr, 1) := by decide +kernel
theorem dJ6_bitCount_0f7a4_28 : decode cJ6_bitCount_0f7a4 28 = .ok (.iadd, 1) := by decide +kernel
theorem dJ6_bitCount_0f7a4_29 : decode cJ6_bitCount_0f7a4 29 = .ok (.ldc_w 267, 3) := by decide +kernel
theorem dJ6_bitCount_0f7a4_32 : decode cJ6_bitCount_0f7a4 32 = .ok (.iand, 1) := by decide +kernel
theorem dJ6_bitCount_0f7a4_33 : decode cJ6_bitCount_0f7a4 33 = .ok (.istore_n 0, 1) := by decide +kernel
theorem dJ6_bitCount_0f7a4_34 : decode cJ6_bitCount_0f7a4 34 = .ok (.iload_n 0, 1) := by decide +kernel
theorem dJ6_bitCount_0f7a4_35 : decode cJ6_bitCount_0f7a4 35 = .ok (.iload_n 0, 1) := by decide +kernel
theorem dJ6_bitCount_0f7a4_36 : decode cJ6_bitCount_0f7a4 36 = .ok (.bipush 8, 2) := by decide +kernel
theorem dJ6_bitCount_0f7a4_38 : decode cJ6_bitCount_0f7a4 38 = .ok (.iushr, 1) := by decide +kernel
theorem dJ6_bitCount_0f7a4_39 : decode cJ6_bitCount_0f7a4 39 = .ok (.iadd, 1) := by decide +kernel
theorem dJ6_bitCount_0f7a4_40 : decode cJ6_bitCount_0f7a4 40 = .ok (.istore_n 0, 1) := by decide +kernel
theorem dJ6_bitCount_0f7a4_41 : decode cJ6_bitCount_0f7a4 41 = .ok (.iload_n 0, 1) := by decide +kernel
theorem dJ6_bitCount_0f7a4_42 : decode cJ6_bitCount_0f7a4 42 = .ok (.iload_n 0, 1) := by decide +kernel
theorem dJ6_bitCount_0f7a4_43 : decode cJ6_bitCount_0f7a4 43 = .ok (.bipush 16, 2) := by decide +kernel
theorem dJ6_bitCount_0f7a4_45 : decode cJ6_bitCount_0f7a4 45 = .ok (.iushr, 1) := by decide +kernel
theorem dJ6_bitCount_0f7a4_46 : decode cJ6_bitCount_0f7a4 46 = .ok (.iadd, 1) := by decide +kernel
theorem dJ6_bitCount_0f7a4_47 : decode cJ6_bitCount_0f7a4 47 = .ok (.istore_n 0, 1) := by decide +kernel
theorem dJ6_bitCount_0f7a4_48 : decode cJ6_bitCount_0f7a4 48 = .ok (.iload_n 0, 1) := by decide +kernel
theorem dJ6_bitCount_0f7a4_49 : decode cJ6_bitCount_0f7a4 49 = .ok (.bipush 63, 2) := by decide +kernel
theorem dJ6_bitCount_0f7a4_51 : decode cJ6_bitCount_0f7a4 51 = .ok (.iand, 1) := by decide +kernel
theorem dJ6_bitCount_0f7a4_52 : decode cJ6_bitCount_0f7a4 52 = .ok (.ireturn, 1) := by decide +kernel
theorem dJ9_max_7cf53_0 : decode cJ9_max_7cf53 0 = .ok (.iload_n 0, 1) := by decide +kernel
theorem dJ9_max_7cf53_1 : decode cJ9_max_7cf53 1 = .ok (.iload_n 1, 1) := by decide +kernel
theorem dJ9_max_7cf53_2 : decode cJ9_max_7cf53 2 = .ok (.if_icmp .lt 7, 3) := by decide +kernel
theorem dJ9_max_7cf53_5 : decode cJ9_max_7cf53 5 = .ok (.iload_n 0, 1) := by decide +kernel
theorem dJ9_max_7cf53_6 : decode cJ9_max_7cf53 6 = .ok (.goto 4, 3) := by decide +kernel
theorem dJ9_max_7cf53_9 : decode cJ9_max_7cf53 9 = .ok (.iload_n 1, 1) := by decide +kernel
theorem dJ9_max_7cf53_10 : decode cJ9_max_7cf53 10 = .ok (.ireturn, 1) := by decide +kernel
theorem dJ9_min_7cf53_0 : decode cJ9_min_7cf53 0 = .ok (.iload_n 0, 1) := by decide +kernel
theorem dJ9_min_7cf53_1 : decode cJ9_min_7cf53 1 = .ok (.iload_n 1, 1) := by decide +kernel
theorem dJ9_min_7cf53_2 : decode cJ9_min_7cf53 2 = .ok (.if_icmp .gt 7, 3) := by decide +kernel
theorem dJ9_min_7cf53_5 : decode cJ9_min_7cf53 5 = .ok (.iload_n 0, 1) := by decide +kernel
theorem dJ9_min_7cf53_6 : decode cJ9_min_7cf53 6 = .ok (.goto 4, 3) := by decide +kernel
theorem dJ9_min_7cf53_9 : decode cJ9_min_7cf53 9 = .ok (.iload_n 1, 1) := by decide +kernel
theorem dJ9_min_7cf53_10 : decode cJ9_min_7cf53 10 = .ok (.ireturn, 1) := by decide +kernel
theorem dL_law_0 : decode cL_law 0 = .ok (.new 7, 3) := by decide +kernel
theorem dL_law_3 : decode cL_law 3 = .ok (.dup, 1) := by decide +kernel
theorem dL_law_4 : decode cL_law 4 = .ok (.invokespecial 9, 3) := by decide +kernel
theorem dL_law_7 : decode cL_law 7 = .ok (.astore_n 1, 1) := by decide +kernel
theorem dL_law_8 : decode cL_law 8 = .ok (.new 10, 3) := by decide +kernel
theorem dL_law_11 : decode cL_law 11 = .ok (.dup, 1) := by decide +kernel
theorem dL_law_12 : decode cL_law 12 = .ok (.invokespecial 12, 3) := by decide +kernel
theorem dL_law_15 : decode cL_law 15 = .ok (.astore_n 2, 1) := by decide +kernel
theorem dL_law_16 : decode cL_law 16 = .ok (.iconst 0, 1) := by decide +kernel
theorem dL_law_17 : decode cL_law 17 = .ok (.istore_n 3, 1) := by decide +kernel
theorem dL_law_18 : decode cL_law 18 = .ok (.iload_n 3, 1) := by decide +kernel
theorem dL_law_19 : decode cL_law 19 = .ok (.aload_n 0, 1) := by decide +kernel
theorem dL_law_20 : decode cL_law 20 = .ok (.arraylength, 1) := by decide +kernel
theorem dL_law_21 : decode cL_law 21 = .ok (.bipush 6, 2) := by decide +kernel
theorem dL_law_23 : decode cL_law 23 = .ok (.isub, 1) := by decide +kernel
theorem dL_law_24 : decode cL_law 24 = .ok (.if_icmp .gt 915, 3) := by decide +kernel
theorem dL_law_27 : decode cL_law 27 = .ok (.aload_n 0, 1) := by decide +kernel
theorem dL_law_28 : decode cL_law 28 = .ok (.iload_n 3, 1) := by decide +kernel
theorem dL_law_29 : decode cL_law 29 = .ok (.iaload, 1) := by decide +kernel
theorem dL_law_30 : decode cL_law 30 = .ok (.bipush 31, 2) := by decide +kernel
theorem dL_law_32 : decode cL_law 32 = .ok (.iand, 1) := by decide +kernel
theorem dL_law_33 : decode cL_law 33 = .ok (.tableswitch 900 0 24 #[115, 148, 181, 214, 247, 280, 323, 346, 379, 402, 425, 448, 471, 494, 517, 530, 553, 616, 679, 742, 755, 768, 781, 824, 847], 115) := by decide +kernel
theorem dL_law_148 : decode cL_law 148 = .ok (.aload_n 1, 1) := by decide +kernel
theorem dL_law_149 : decode cL_law 149 = .ok (.aload_n 0, 1) := by decide +kernel
theorem dL_law_150 : decode cL_law 150 = .ok (.iload_n 3, 1) := by decide +kernel
theorem dL_law_151 : decode cL_law 151 = .ok (.iconst 1, 1) := by decide +kernel
theorem dL_law_152 : decode cL_law 152 = .ok (.iadd, 1) := by decide +kernel
theorem dL_law_153 : decode cL_law 153 = .ok (.iaload, 1) := by decide +kernel
theorem dL_law_154 : decode cL_law 154 = .ok (.aload_n 0, 1) := by decide +kernel
theorem dL_law_155 : decode cL_law 155 = .ok (.iload_n 3, 1) := by decide +kernel
theorem dL_law_156 : decode cL_law 156 = .ok (.iconst 2, 1) := by decide +kernel
theorem dL_law_157 : decode cL_law 157 = .ok (.iadd, 1) := by decide +kernel
theorem dL_law_158 : decode cL_law 158 = .ok (.iaload, 1) := by decide +kernel
theorem dL_law_159 : decode cL_law 159 = .ok (.invokevirtual 13, 3) := by decide +kernel
theorem dL_law_162 : decode cL_law 162 = .ok (.aload_n 2, 1) := by decide +kernel
theorem dL_law_163 : decode cL_law 163 = .ok (.aload_n 0, 1) := by decide +kernel
theorem dL_law_164 : decode cL_law 164 = .ok (.iload_n 3, 1) := by decide +kernel
theorem dL_law_165 : decode cL_law 165 = .ok (.iconst 1, 1) := by decide +kernel
theorem dL_law_166 : decode cL_law 166 = .ok (.iadd, 1) := by decide +kernel
theorem dL_law_167 : decode cL_law 167 = .ok (.iaload, 1) := by decide +kernel
theorem dL_law_168 : decode cL_law 168 = .ok (.aload_n 0, 1) := by decide +kernel
theorem dL_law_169 : decode cL_law 169 = .ok (.iload_n 3, 1) := by decide +kernel
theorem dL_law_170 : decode cL_law 170 = .ok (.iconst 2, 1) := by decide +kernel
theorem dL_law_171 : decode cL_law 171 = .ok (.iadd, 1) := by decide +kernel
theorem dL_law_172 : decode cL_law 172 = .ok (.iaload, 1) := by decide +kernel
theorem dL_law_173 : decode cL_law 173 = .ok (.invokevirtual 17, 3) := by decide +kernel
theorem dL_law_176 : decode cL_law 176 = .ok (.if_icmp .eq 757, 3) := by decide +kernel
theorem dL_law_179 : decode cL_law 179 = .ok (.iconst 0, 1) := by decide +kernel
theorem dL_law_180 : decode cL_law 180 = .ok (.ireturn, 1) := by decide +kernel
theorem dL_law_181 : decode cL_law 181 = .ok (.aload_n 1, 1) := by decide +kernel
theorem dL_law_182 : decode cL_law 182 = .ok (.aload_n 0, 1) := by decide +kernel
theorem dL_law_183 : decode cL_law 183 = .ok (.iload_n 3, 1) := by decide +kernel
theorem dL_law_184 : decode cL_law 184 = .ok (.iconst 1, 1) := by decide +kernel
theorem dL_law_185 : decode cL_law 185 = .ok (.iadd, 1) := by decide +kernel
theorem dL_law_186 : decode cL_law 186 = .ok (.iaload, 1) := by decide +kernel
theorem dL_law_187 : decode cL_law 187 = .ok (.aload_n 0, 1) := by decide +kernel
theorem dL_law_188 : decode cL_law 188 = .ok (.iload_n 3, 1) := by decide +kernel
theorem dL_law_189 : decode cL_law 189 = .ok (.iconst 2, 1) := by decide +kernel
theorem dL_law_190 : decode cL_law 190 = .ok (.iadd, 1) := by decide +kernel
theorem dL_law_191 : decode cL_law 191 = .ok (.iaload, 1) := by decide +kernel
theorem dL_law_192 : decode cL_law 192 = .ok (.invokevirtual 18, 3) := by decide +kernel
theorem dL_law_195 : decode cL_law 195 = .ok (.aload_n 2, 1) := by decide +kernel
theorem dL_law_196 : decode cL_law 196 = .ok (.aload_n 0, 1) := by decide +kernel
theorem dL_law_197 : decode cL_law 197 = .ok (.iload_n 3, 1) := by decide +kernel
theorem dL_law_198 : decode cL_law 198 = .ok (.iconst 1, 1) := by decide +kernel
theorem dL_law_199 : decode cL_law 199 = .ok (.iadd, 1) := by decide +kernel
theorem dL_law_200 : decode cL_law 200 = .ok (.iaload, 1) := by decide +kernel
theorem dL_law_201 : decode cL_law 201 = .ok (.aload_n 0, 1) := by decide +kernel
theorem dL_law_202 : decode cL_law 202 = .ok (.iload_n 3, 1) := by decide +kernel
theorem dL_law_203 : decode cL_law 203 = .ok (.iconst 2, 1) := by decide +kernel
theorem dL_law_204 : decode cL_law 204 = .ok (.iadd, 1) := by decide +kernel
theorem dL_law_205 : decode cL_law 205 = .ok (.iaload, 1) := by decide +kernel
theorem dL_law_206 : decode cL_law 206 = .ok (.invokevirtual 21, 3) := by decide +kernel
theorem dL_law_209 : decode cL_law 209 = .ok (.if_icmp .eq 724, 3) := by decide +kernel
theorem dL_law_212 : decode cL_law 212 = .ok (.iconst 0, 1) := by decide +kernel
theorem dL_law_213 : decode cL_law 213 = .ok (.ireturn, 1) := by decide +kernel
theorem dL_law_214 : decode cL_law 214 = .ok (.aload_n 1, 1) := by decide +kernel
theorem dL_law_215 : decode cL_law 215 = .ok (.aload_n 0, 1) := by decide +kernel
theorem dL_law_216 : decode cL_law 216 = .ok (.iload_n 3, 1) := by decide +kernel
theorem dL_law_217 : decode cL_law 217 = .ok (.iconst 1, 1) := by decide +kernel
theorem dL_law_218 : decode cL_law 218 = .ok (.iadd, 1) := by decide +kernel
theorem dL_law_219 : decode cL_law 219 = .ok (.iaload, 1) := by decide +kernel
theorem dL_law_220 : decode cL_law 220 = .ok (.aload_n 0, 1) := by decide +kernel
theorem dL_law_221 : decode cL_law 221 = .ok (.iload_n 3, 1) := by decide +kernel
theorem dL_law_222 : decode cL_law 222 = .ok (.iconst 2, 1) := by decide +kernel
theorem dL_law_223 : decode cL_law 223 = .ok (.iadd, 1) := by decide +kernel
theorem dL_law_224 : decode cL_law 224 = .ok (.iaload, 1) := by decide +kernel
theorem dL_law_225 : decode cL_law 225 = .ok (.invokevirtual 22, 3) := by decide +kernel
theorem dL_law_228 : decode cL_law 228 = .ok (.aload_n 2, 1) := by decide +kernel
theorem dL_law_229 : decode cL_law 229 = .ok (.aload_n 0, 1) := by decide +kernel
theorem dL_law_230 : decode cL_law 230 = .ok (.iload_n 3, 1) := by decide +kernel
theorem dL_law_231 : decode cL_law 231 = .ok (.iconst 1, 1) := by decide +kernel
theorem dL_law_232 : decode cL_law 232 = .ok (.iadd, 1) := by decide +kernel
theorem dL_law_233 : decode cL_law 233 = .ok (.iaload, 1) := by decide +kernel
theorem dL_law_234 : decode cL_law 234 = .ok (.aload_n 0, 1) := by decide +kernel
theorem dL_law_235 : decode cL_law 235 = .ok (.iload_n 3, 1) := by decide +kernel
theorem dL_law_236 : decode cL_law 236 = .ok (.iconst 2, 1) := by decide +kernel
theorem dL_law_237 : decode cL_law 237 = .ok (.iadd, 1) := by decide +kernel
theorem dL_law_238 : decode cL_law 238 = .ok (.iaload, 1) := by decide +kernel
theorem dL_law_239 : decode cL_law 239 = .ok (.invokevirtual 25, 3) := by decide +kernel
theorem dL_law_242 : decode cL_law 242 = .ok (.if_icmp .eq 691, 3) := by decide +kernel
theorem dL_law_245 : decode cL_law 245 = .ok (.iconst 0, 1) := by decide +kernel
theorem dL_law_246 : decode cL_law 246 = .ok (.ireturn, 1) := by decide +kernel
theorem dL_law_247 : decode cL_law 247 = .ok (.aload_n 1, 1) := by decide +kernel
theorem dL_law_248 : decode cL_law 248 = .ok (.aload_n 0, 1) := by decide +kernel
theorem dL_law_249 : decode cL_law 249 = .ok (.iload_n 3, 1) := by decide +kernel
theorem dL_law_250 : decode cL_law 250 = .ok (.iconst 1, 1) := by decide +kernel
theorem dL_law_251 : decode cL_law 251 = .ok (.iadd, 1) := by decide +kernel
theorem dL_law_252 : decode cL_law 252 = .ok (.iaload, 1) := by decide +kernel
theorem dL_law_253 : decode cL_law 253 = .ok (.aload_n 0, 1) := by decide +kernel
theorem dL_law_254 : decode cL_law 254 = .ok (.iload_n 3, 1) := by decide +kernel
theorem dL_law_255 : decode cL_law 255 = .ok (.iconst 2, 1) := by decide +kernel
theorem dL_law_256 : decode cL_law 256 = .ok (.iadd, 1) := by decide +kernel
theorem dL_law_257 : decode cL_law 257 = .ok (.iaload, 1) := by decide +kernel
theorem dL_law_258 : decode cL_law 258 = .ok (.invokevirtual 26, 3) := by decide +kernel
theorem dL_law_261 : decode cL_law 261 = .ok (.aload_n 2, 1) := by decide +kernel
theorem dL_law_262 : decode cL_law 262 = .ok (.aload_n 0, 1) := by decide +kernel
theorem dL_law_263 : decode cL_law 263 = .ok (.iload_n 3, 1) := by decide +kernel
theorem dL_law_264 : decode cL_law 264 = .ok (.iconst 1, 1) := by decide +kernel
theorem dL_law_265 : decode cL_law 265 = .ok (.iadd, 1) := by decide +kernel
theorem dL_law_266 : decode cL_law 266 = .ok (.iaload, 1) := by decide +kernel
theorem dL_law_267 : decode cL_law 267 = .ok (.aload_n 0, 1) := by decide +kernel
theorem dL_law_268 : decode cL_law 268 = .ok (.iload_n 3, 1) := by decide +kernel
theorem dL_law_269 : decode cL_law 269 = .ok (.iconst 2, 1) := by decide +kernel
theorem dL_law_270 : decode cL_law 270 = .ok (.iadd, 1) := by decide +kernel
theorem dL_law_271 : decode cL_law 271 = .ok (.iaload, 1) := by decide +kernel
theorem dL_law_272 : decode cL_law 272 = .ok (.invokevirtual 29, 3) := by decide +kernel
theorem dL_law_275 : decode cL_law 275 = .ok (.if_icmp .eq 658, 3) := by decide +kernel
theorem dL_law_278 : decode cL_law 278 = .ok (.iconst 0, 1) := by decide +kernel
theorem dL_law_279 : decode cL_law 279 = .ok (.ireturn, 1) := by decide +kernel
theorem dL_law_280 : decode cL_law 280 = .ok (.aload_n 1, 1) := by decide +kernel
theorem dL_law_281 : decode cL_law 281 = .ok (.aload_n 0, 1) := by decide +kernel
theorem dL_law_282 : decode cL_law 282 = .ok (.iload_n 3, 1) := by decide +kernel
theorem dL_law_283 : decode cL_law 283 = .ok (.iconst 1, 1) := by decide +kernel
theorem dL_law_284 : decode cL_law 284 = .ok (.iadd, 1) := by decide +kernel
theorem dL_law_285 : decode cL_law 285 = .ok (.iaload, 1) := by decide +kernel
theorem dL_law_286 : decode cL_law 286 = .ok (.aload_n 0, 1) := by decide +kernel
theorem dL_law_287 : decode cL_law 287 = .ok (.iload_n 3, 1) := by decide +kernel
theorem dL_law_288 : decode cL_law 288 = .ok (.iconst 2, 1) := by decide +kernel
theorem dL_law_289 : decode cL_law 289 = .ok (.iadd, 1) := by decide +kernel
theorem dL_law_290 : decode cL_law 290 = .ok (.iaload, 1) := by decide +kernel
theorem dL_law_291 : decode cL_law 291 = .ok (.invokevirtual 30, 3) := by decide +kernel
theorem dL_law_294 : decode cL_law 294 = .ok (.aload_n 2, 1) := by decide +kernel
theorem dL_law_295 : decode cL_law 295 = .ok (.aload_n 0, 1) := by decide +kernel
theorem dL_law_296 : decode cL_law 296 = .ok (.iload_n 3, 1) := by decide +kernel
theorem dL_law_297 : decode cL_law 297 = .ok (.iconst 1, 1) := by decide +kernel
theorem dL_law_298 : decode cL_law 298 = .ok (.iadd, 1) := by decide +kernel
theorem dL_law_299 : decode cL_law 299 = .ok (.iaload, 1) := by decide +kernel
theorem dL_law_300 : decode cL_law 300 = .ok (.aload_n 0, 1) := by decide +kernel
theorem dL_law_301 : decode cL_law 301 = .ok (.iload_n 3, 1) := by decide +kernel
theorem dL_law_302 : decode cL_law 302 = .ok (.iconst 2, 1) := by decide +kernel
theorem dL_law_303 : decode cL_law 303 = .ok (.iadd, 1) := by decide +kernel
theorem dL_law_304 : decode cL_law 304 = .ok (.iaload, 1) := by decide +kernel
theorem dL_law_305 : decode cL_law 305 = .ok (.invokevirtual 33, 3) := by decide +kernel
theorem dL_law_308 : decode cL_law 308 = .ok (.if_icmp .eq 625, 3) := by decide +kernel
theorem dL_law_311 : decode cL_law 311 = .ok (.iconst 0, 1) := by decide +kernel
theorem dL_law_312 : decode cL_law 312 = .ok (.ireturn, 1) := by decide +kernel
theorem dL_law_313 : decode cL_law 313 = .ok (.aload_n 1, 1) := by decide +kernel
theorem dL_law_314 : decode cL_law 314 = .ok (.aload_n 0, 1) := by decide +kernel
theorem dL_law_315 : decode cL_law 315 = .ok (.iload_n 3, 1) := by decide +kernel
theorem dL_law_316 : decode cL_law 316 = .ok (.iconst 1, 1) := by decide +kernel
theorem dL_law_317 : decode cL_law 317 = .ok (.iadd, 1) := by decide +kernel
theorem dL_law_318 : decode cL_law 318 = .ok (.iaload, 1) := by decide +kernel
theorem dL_law_319 : decode cL_law 319 = .ok (.aload_n 0, 1) := by decide +kernel
theorem dL_law_320 : decode cL_law 320 = .ok (.iload_n 3, 1) := by decide +kernel
theorem dL_law_321 : decode cL_law 321 = .ok (.iconst 2, 1) := by decide +kernel
theorem dL_law_322 : decode cL_law 322 = .ok (.iadd, 1) := by decide +kernel
theorem dL_law_323 : decode cL_law 323 = .ok (.iaload, 1) := by decide +kernel
theorem dL_law_324 : decode cL_law 324 = .ok (.aload_n 0, 1) := by decide +kernel
theorem dL_law_325 : decode cL_law 325 = .ok (.iload_n 3, 1) := by decide +kernel
theorem dL_law_326 : decode cL_law 326 = .ok (.iconst 3, 1) := by decide +kernel
theorem dL_law_327 : decode cL_law 327 = .ok (.iadd, 1) := by decide +kernel
theorem dL_law_328 : decode cL_law 328 = .ok (.iaload, 1) := by decide +kernel
theorem dL_law_329 : decode cL_law 329 = .ok (.invokevirtual 34, 3) := by decide +kernel
theorem dL_law_332 : decode cL_law 332 = .ok (.aload_n 2, 1) := by decide +kernel
theorem dL_law_333 : decode cL_law 333 = .ok (.aload_n 0, 1) := by decide +kernel
theorem dL_law_334 : decode cL_law 334 = .ok (.iload_n 3, 1) := by decide +kernel
theorem dL_law_335 : decode cL_law 335 = .ok (.iconst 1, 1) := by decide +kernel
theorem dL_law_336 : decode cL_law 336 = .ok (.iadd, 1) := by decide +kernel
theorem dL_law_337 : decode cL_law 337 = .ok (.iaload, 1) := by decide +kernel
theorem dL_law_338 : decode cL_law 338 = .ok (.aload_n 0, 1) := by decide +kernel
theorem dL_law_339 : decode cL_law 339 = .ok (.iload_n 3, 1) := by decide +kernel
theorem dL_law_340 : decode cL_law 340 = .ok (.iconst 2, 1) := by decide +kernel
theorem dL_law_341 : decode cL_law 341 = .ok (.iadd, 1) := by decide +kernel
theorem dL_law_342 : decode cL_law 342 = .ok (.iaload, 1) := by decide +kernel
theorem dL_law_343 : decode cL_law 343 = .ok (.aload_n 0, 1) := by decide +kernel
theorem dL_law_344 : decode cL_law 344 = .ok (.iload_n 3, 1) := by decide +kernel
theorem dL_law_345 : decode cL_law 345 = .ok (.iconst 3, 1) := by decide +kernel
theorem dL_law_346 : decode cL_law 346 = .ok (.iadd, 1) := by decide +kernel
theorem dL_law_347 : decode cL_law 347 = .ok (.iaload, 1) := by decide +kernel
theorem dL_law_348 : decode cL_law 348 = .ok (.invokevirtual 38, 3) := by decide +kernel
theorem dL_law_351 : decode cL_law 351 = .ok (.if_icmp .eq 582, 3) := by decide +kernel
theorem dL_law_354 : decode cL_law 354 = .ok (.iconst 0, 1) := by decide +kernel
theorem dL_law_355 : decode cL_law 355 = .ok (.ireturn, 1) := by decide +kernel
theorem dL_law_356 : decode cL_law 356 = .ok (.aload_n 1, 1) := by decide +kernel
theorem dL_law_357 : decode cL_law 357 = .ok (.aload_n 0, 1) := by decide +kernel
theorem dL_law_358 : decode cL_law 358 = .ok (.iload_n 3, 1) := by decide +kernel
theorem dL_law_359 : decode cL_law 359 = .ok (.iconst 1, 1) := by decide +kernel
theorem dL_law_360 : decode cL_law 360 = .ok (.iadd, 1) := by decide +kernel
theorem dL_law_361 : decode cL_law 361 = .ok (.iaload, 1) := by decide +kernel
theorem dL_law_362 : decode cL_law 362 = .ok (.invokevirtual 39, 3) := by decide +kernel
theorem dL_law_365 : decode cL_law 365 = .ok (.aload_n 2, 1) := by decide +kernel
theorem dL_law_366 : decode cL_law 366 = .ok (.aload_n 0, 1) := by decide +kernel
theorem dL_law_367 : decode cL_law 367 = .ok (.iload_n 3, 1) := by decide +kernel
theorem dL_law_368 : decode cL_law 368 = .ok (.iconst 1, 1) := by decide +kernel
theorem dL_law_369 : decode cL_law 369 = .ok (.iadd, 1) := by decide +kernel
theorem dL_law_370 : decode cL_law 370 = .ok (.iaload, 1) := by decide +kernel
theorem dL_law_371 : decode cL_law 371 = .ok (.invokevirtual 43, 3) := by decide +kernel
theorem dL_law_374 : decode cL_law 374 = .ok (.if_icmp .eq 559, 3) := by decide +kernel
theorem dL_law_377 : decode cL_law 377 = .ok (.iconst 0, 1) := by decide +kernel
theorem dL_law_378 : decode cL_law 378 = .ok (.ireturn, 1) := by decide +kernel
theorem dL_law_379 : decode cL_law 379 = .ok (.aload_n 1, 1) := by decide +kernel
theorem dL_law_380 : decode cL_law 380 = .ok (.aload_n 0, 1) := by decide +kernel
theorem dL_law_381 : decode cL_law 381 = .ok (.iload_n 3, 1) := by decide +kernel
theorem dL_law_382 : decode cL_law 382 = .ok (.iconst 1, 1) := by decide +kernel
theorem dL_law_383 : decode cL_law 383 = .ok (.iadd, 1) := by decide +kernel
theorem dL_law_384 : decode cL_law 384 = .ok (.iaload, 1) := by decide +kernel
theorem dL_law_385 : decode cL_law 385 = .ok (.aload_n 0, 1) := by decide +kernel
theorem dL_law_386 : decode cL_law 386 = .ok (.iload_n 3, 1) := by decide +kernel
theorem dL_law_387 : decode cL_law 387 = .ok (.iconst 2, 1) := by decide +kernel
theorem dL_law_388 : decode cL_law 388 = .ok (.iadd, 1) := by decide +kernel
theorem dL_law_389 : decode cL_law 389 = .ok (.iaload, 1) := by decide +kernel
theorem dL_law_390 : decode cL_law 390 = .ok (.invokevirtual 44, 3) := by decide +kernel
theorem dL_law_393 : decode cL_law 393 = .ok (.aload_n 2, 1) := by decide +kernel
theorem dL_law_394 : decode cL_law 394 = .ok (.aload_n 0, 1) := by decide +kernel
theorem dL_law_395 : decode cL_law 395 = .ok (.iload_n 3, 1) := by decide +kernel
theorem dL_law_396 : decode cL_law 396 = .ok (.iconst 1, 1) := by decide +kernel
theorem dL_law_397 : decode cL_law 397 = .ok (.iadd, 1) := by decide +kernel
theorem dL_law_398 : decode cL_law 398 = .ok (.iaload, 1) := by decide +kernel
theorem dL_law_399 : decode cL_law 399 = .ok (.aload_n 0, 1) := by decide +kernel
theorem dL_law_400 : decode cL_law 400 = .ok (.iload_n 3, 1) := by decide +kernel
theorem dL_law_401 : decode cL_law 401 = .ok (.iconst 2, 1) := by decide +kernel
theorem dL_law_402 : decode cL_law 402 = .ok (.iadd, 1) := by decide +kernel
theorem dL_law_403 : decode cL_law 403 = .ok (.iaload, 1) := by decide +kernel
theorem dL_law_404 : decode cL_law 404 = .ok (.invokevirtual 47, 3) := by decide +kernel
theorem dL_law_407 : decode cL_law 407 = .ok (.if_icmp .eq 526, 3) := by decide +kernel
theorem dL_law_410 : decode cL_law 410 = .ok (.iconst 0, 1) := by decide +kernel
theorem dL_law_411 : decode cL_law 411 = .ok (.ireturn, 1) := by decide +kernel
theorem dL_law_412 : decode cL_law 412 = .ok (.aload_n 1, 1) := by decide +kernel
theorem dL_law_413 : decode cL_law 413 = .ok (.aload_n 0, 1) := by decide +kernel
theorem dL_law_414 : decode cL_law 414 = .ok (.iload_n 3, 1) := by decide +kernel
theorem dL_law_415 : decode cL_law 415 = .ok (.iconst 1, 1) := by decide +kernel
theorem dL_law_416 : decode cL_law 416 = .ok (.iadd, 1) := by decide +kernel
theorem dL_law_417 : decode cL_law 417 = .ok (.iaload, 1) := by decide +kernel
theorem dL_law_418 : decode cL_law 418 = .ok (.invokevirtual 48, 3) := by decide +kernel
theorem dL_law_421 : decode cL_law 421 = .ok (.aload_n 2, 1) := by decide +kernel
theorem dL_law_422 : decode cL_law 422 = .ok (.aload_n 0, 1) := by decide +kernel
theorem dL_law_423 : decode cL_law 423 = .ok (.iload_n 3, 1) := by decide +kernel
theorem dL_law_424 : decode cL_law 424 = .ok (.iconst 1, 1) := by decide +kernel
theorem dL_law_425 : decode cL_law 425 = .ok (.iadd, 1) := by decide +kernel
theorem dL_law_426 : decode cL_law 426 = .ok (.iaload, 1) := by decide +kernel
theorem dL_law_427 : decode cL_law 427 = .ok (.invokevirtual 51, 3) := by decide +kernel
theorem dL_law_430 : decode cL_law 430 = .ok (.if_icmp .eq 503, 3) := by decide +kernel
theorem dL_law_433 : decode cL_law 433 = .ok (.iconst 0, 1) := by decide +kernel
theorem dL_law_434 : decode cL_law 434 = .ok (.ireturn, 1) := by decide +kernel
theorem dL_law_435 : decode cL_law 435 = .ok (.aload_n 1, 1) := by decide +kernel
theorem dL_law_436 : decode cL_law 436 = .ok (.aload_n 0, 1) := by decide +kernel
theorem dL_law_437 : decode cL_law 437 = .ok (.iload_n 3, 1) := by decide +kernel
theorem dL_law_438 : decode cL_law 438 = .ok (.iconst 1, 1) := by decide +kernel
theorem dL_law_439 : decode cL_law 439 = .ok (.iadd, 1) := by decide +kernel
theorem dL_law_440 : decode cL_law 440 = .ok (.iaload, 1) := by decide +kernel
theorem dL_law_441 : decode cL_law 441 = .ok (.invokevirtual 52, 3) := by decide +kernel
theorem dL_law_444 : decode cL_law 444 = .ok (.aload_n 2, 1) := by decide +kernel
theorem dL_law_445 : decode cL_law 445 = .ok (.aload_n 0, 1) := by decide +kernel
theorem dL_law_446 : decode cL_law 446 = .ok (.iload_n 3, 1) := by decide +kernel
theorem dL_law_447 : decode cL_law 447 = .ok (.iconst 1, 1) := by decide +kernel
theorem dL_law_448 : decode cL_law 448 = .ok (.iadd, 1) := by decide +kernel
theorem dL_law_449 : decode cL_law 449 = .ok (.iaload, 1) := by decide +kernel
theorem dL_law_450 : decode cL_law 450 = .ok (.invokevirtual 55, 3) := by decide +kernel
theorem dL_law_453 : decode cL_law 453 = .ok (.if_icmp .eq 480, 3) := by decide +kernel
theorem dL_law_456 : decode cL_law 456 = .ok (.iconst 0, 1) := by decide +kernel
theorem dL_law_457 : decode cL_law 457 = .ok (.ireturn, 1) := by decide +kernel
theorem dL_law_458 : decode cL_law 458 = .ok (.aload_n 1, 1) := by decide +kernel
theorem dL_law_459 : decode cL_law 459 = .ok (.aload_n 0, 1) := by decide +kernel
theorem dL_law_460 : decode cL_law 460 = .ok (.iload_n 3, 1) := by decide +kernel
theorem dL_law_461 : decode cL_law 461 = .ok (.iconst 1, 1) := by decide +kernel
theorem dL_law_462 : decode cL_law 462 = .ok (.iadd, 1) := by decide +kernel
theorem dL_law_463 : decode cL_law 463 = .ok (.iaload, 1) := by decide +kernel
theorem dL_law_464 : decode cL_law 464 = .ok (.invokevirtual 56, 3) := by decide +kernel
theorem dL_law_467 : decode cL_law 467 = .ok (.aload_n 2, 1) := by decide +kernel
theorem dL_law_468 : decode cL_law 468 = .ok (.aload_n 0, 1) := by decide +kernel
theorem dL_law_469 : decode cL_law 469 = .ok (.iload_n 3, 1) := by decide +kernel
theorem dL_law_470 : decode cL_law 470 = .ok (.iconst 1, 1) := by decide +kernel
theorem dL_law_471 : decode cL_law 471 = .ok (.iadd, 1) := by decide +kernel
theorem dL_law_472 : decode cL_law 472 = .ok (.iaload, 1) := by decide +kernel
theorem dL_law_473 : decode cL_law 473 = .ok (.invokevirtual 59, 3) := by decide +kernel
theorem dL_law_476 : decode cL_law 476 = .ok (.if_icmp .eq 457, 3) := by decide +kernel
theorem dL_law_479 : decode cL_law 479 = .ok (.iconst 0, 1) := by decide +kernel
theorem dL_law_480 : decode cL_law 480 = .ok (.ireturn, 1) := by decide +kernel
theorem dL_law_481 : decode cL_law 481 = .ok (.aload_n 1, 1) := by decide +kernel
theorem dL_law_482 : decode cL_law 482 = .ok (.aload_n 0, 1) := by decide +kernel
theorem dL_law_483 : decode cL_law 483 = .ok (.iload_n 3, 1) := by decide +kernel
theorem dL_law_484 : decode cL_law 484 = .ok (.iconst 1, 1) := by decide +kernel
theorem dL_law_485 : decode cL_law 485 = .ok (.iadd, 1) := by decide +kernel
theorem dL_law_486 : decode cL_law 486 = .ok (.iaload, 1) := by decide +kernel
theorem dL_law_487 : decode cL_law 487 = .ok (.invokevirtual 60, 3) := by decide +kernel
theorem dL_law_490 : decode cL_law 490 = .ok (.aload_n 2, 1) := by decide +kernel
theorem dL_law_491 : decode cL_law 491 = .ok (.aload_n 0, 1) := by decide +kernel
theorem dL_law_492 : decode cL_law 492 = .ok (.iload_n 3, 1) := by decide +kernel
theorem dL_law_493 : decode cL_law 493 = .ok (.iconst 1, 1) := by decide +kernel
theorem dL_law_494 : decode cL_law 494 = .ok (.iadd, 1) := by decide +kernel
theorem dL_law_495 : decode cL_law 495 = .ok (.iaload, 1) := by decide +kernel
theorem dL_law_496 : decode cL_law 496 = .ok (.invokevirtual 63, 3) := by decide +kernel
theorem dL_law_499 : decode cL_law 499 = .ok (.if_icmp .eq 434, 3) := by decide +kernel
theorem dL_law_502 : decode cL_law 502 = .ok (.iconst 0, 1) := by decide +kernel
theorem dL_law_503 : decode cL_law 503 = .ok (.ireturn, 1) := by decide +kernel
theorem dL_law_504 : decode cL_law 504 = .ok (.aload_n 1, 1) := by decide +kernel
theorem dL_law_505 : decode cL_law 505 = .ok (.aload_n 0, 1) := by decide +kernel
theorem dL_law_506 : decode cL_law 506 = .ok (.iload_n 3, 1) := by decide +kernel
theorem dL_law_507 : decode cL_law 507 = .ok (.iconst 1, 1) := by decide +kernel
theorem dL_law_508 : decode cL_law 508 = .ok (.iadd, 1) := by decide +kernel
theorem dL_law_509 : decode cL_law 509 = .ok (.iaload, 1) := by decide +kernel
theorem dL_law_510 : decode cL_law 510 = .ok (.invokevirtual 64, 3) := by decide +kernel
theorem dL_law_513 : decode cL_law 513 = .ok (.aload_n 2, 1) := by decide +kernel
theorem dL_law_514 : decode cL_law 514 = .ok (.aload_n 0, 1) := by decide +kernel
theorem dL_law_515 : decode cL_law 515 = .ok (.iload_n 3, 1) := by decide +kernel
theorem dL_law_516 : decode cL_law 516 = .ok (.iconst 1, 1) := by decide +kernel
theorem dL_law_517 : decode cL_law 517 = .ok (.iadd, 1) := by decide +kernel
theorem dL_law_518 : decode cL_law 518 = .ok (.iaload, 1) := by decide +kernel
theorem dL_law_519 : decode cL_law 519 = .ok (.invokevirtual 67, 3) := by decide +kernel
theorem dL_law_522 : decode cL_law 522 = .ok (.if_icmp .eq 411, 3) := by decide +kernel
theorem dL_law_525 : decode cL_law 525 = .ok (.iconst 0, 1) := by decide +kernel
theorem dL_law_526 : decode cL_law 526 = .ok (.ireturn, 1) := by decide +kernel
theorem dL_law_527 : decode cL_law 527 = .ok (.aload_n 1, 1) := by decide +kernel
theorem dL_law_528 : decode cL_law 528 = .ok (.aload_n 0, 1) := by decide +kernel
theorem dL_law_529 : decode cL_law 529 = .ok (.iload_n 3, 1) := by decide +kernel
theorem dL_law_530 : decode cL_law 530 = .ok (.iconst 1, 1) := by decide +kernel
theorem dL_law_531 : decode cL_law 531 = .ok (.iadd, 1) := by decide +kernel
theorem dL_law_532 : decode cL_law 532 = .ok (.iaload, 1) := by decide +kernel
theorem dL_law_533 : decode cL_law 533 = .ok (.invokevirtual 68, 3) := by decide +kernel
theorem dL_law_536 : decode cL_law 536 = .ok (.aload_n 2, 1) := by decide +kernel
theorem dL_law_537 : decode cL_law 537 = .ok (.aload_n 0, 1) := by decide +kernel
theorem dL_law_538 : decode cL_law 538 = .ok (.iload_n 3, 1) := by decide +kernel
theorem dL_law_539 : decode cL_law 539 = .ok (.iconst 1, 1) := by decide +kernel
theorem dL_law_540 : decode cL_law 540 = .ok (.iadd, 1) := by decide +kernel
theorem dL_law_541 : decode cL_law 541 = .ok (.iaload, 1) := by decide +kernel
theorem dL_law_542 : decode cL_law 542 = .ok (.invokevirtual 71, 3) := by decide +kernel
theorem dL_law_545 : decode cL_law 545 = .ok (.if_icmp .eq 388, 3) := by decide +kernel
theorem dL_law_548 : decode cL_law 548 = .ok (.iconst 0, 1) := by decide +kernel
theorem dL_law_549 : decode cL_law 549 = .ok (.ireturn, 1) := by decide +kernel
theorem dL_law_550 : decode cL_law 550 = .ok (.aload_n 1, 1) := by decide +kernel
theorem dL_law_551 : decode cL_law 551 = .ok (.invokevirtual 72, 3) := by decide +kernel
theorem dL_law_554 : decode cL_law 554 = .ok (.aload_n 2, 1) := by decide +kernel
theorem dL_law_555 : decode cL_law 555 = .ok (.invokevirtual 76, 3) := by decide +kernel
theorem dL_law_558 : decode cL_law 558 = .ok (.if_icmp .eq 375, 3) := by decide +kernel
theorem dL_law_561 : decode cL_law 561 = .ok (.iconst 0, 1) := by decide +kernel
theorem dL_law_562 : decode cL_law 562 = .ok (.ireturn, 1) := by decide +kernel
theorem dL_law_563 : decode cL_law 563 = .ok (.aload_n 1, 1) := by decide +kernel
theorem dL_law_564 : decode cL_law 564 = .ok (.aload_n 0, 1) := by decide +kernel
theorem dL_law_565 : decode cL_law 565 = .ok (.iload_n 3, 1) := by decide +kernel
theorem dL_law_566 : decode cL_law 566 = .ok (.iconst 1, 1) := by decide +kernel
theorem dL_law_567 : decode cL_law 567 = .ok (.iadd, 1) := by decide +kernel
theorem dL_law_568 : decode cL_law 568 = .ok (.iaload, 1) := by decide +kernel
theorem dL_law_569 : decode cL_law 569 = .ok (.invokevirtual 77, 3) := by decide +kernel
theorem dL_law_572 : decode cL_law 572 = .ok (.aload_n 2, 1) := by decide +kernel
theorem dL_law_573 : decode cL_law 573 = .ok (.aload_n 0, 1) := by decide +kernel
theorem dL_law_574 : decode cL_law 574 = .ok (.iload_n 3, 1) := by decide +kernel
theorem dL_law_575 : decode cL_law 575 = .ok (.iconst 1, 1) := by decide +kernel
theorem dL_law_576 : decode cL_law 576 = .ok (.iadd, 1) := by decide +kernel
theorem dL_law_577 : decode cL_law 577 = .ok (.iaload, 1) := by decide +kernel
theorem dL_law_578 : decode cL_law 578 = .ok (.invokevirtual 80, 3) := by decide +kernel
theorem dL_law_581 : decode cL_law 581 = .ok (.if_icmp .eq 352, 3) := by decide +kernel
theorem dL_law_584 : decode cL_law 584 = .ok (.iconst 0, 1) := by decide +kernel
theorem dL_law_585 : decode cL_law 585 = .ok (.ireturn, 1) := by decide +kernel
theorem dL_law_586 : decode cL_law 586 = .ok (.aload_n 1, 1) := by decide +kernel
theorem dL_law_587 : decode cL_law 587 = .ok (.aload_n 0, 1) := by decide +kernel
theorem dL_law_588 : decode cL_law 588 = .ok (.iload_n 3, 1) := by decide +kernel
theorem dL_law_589 : decode cL_law 589 = .ok (.iconst 1, 1) := by decide +kernel
theorem dL_law_590 : decode cL_law 590 = .ok (.iadd, 1) := by decide +kernel
theorem dL_law_591 : decode cL_law 591 = .ok (.iaload, 1) := by decide +kernel
theorem dL_law_592 : decode cL_law 592 = .ok (.aload_n 0, 1) := by decide +kernel
theorem dL_law_593 : decode cL_law 593 = .ok (.iload_n 3, 1) := by decide +kernel
theorem dL_law_594 : decode cL_law 594 = .ok (.iconst 2, 1) := by decide +kernel
theorem dL_law_595 : decode cL_law 595 = .ok (.iadd, 1) := by decide +kernel
theorem dL_law_596 : decode cL_law 596 = .ok (.iaload, 1) := by decide +kernel
theorem dL_law_597 : decode cL_law 597 = .ok (.aload_n 0, 1) := by decide +kernel
theorem dL_law_598 : decode cL_law 598 = .ok (.iload_n 3, 1) := by decide +kernel
theorem dL_law_599 : decode cL_law 599 = .ok (.iconst 3, 1) := by decide +kernel
theorem dL_law_600 : decode cL_law 600 = .ok (.iadd, 1) := by decide +kernel
theorem dL_law_601 : decode cL_law 601 = .ok (.iaload, 1) := by decide +kernel
theorem dL_law_602 : decode cL_law 602 = .ok (.aload_n 0, 1) := by decide +kernel
theorem dL_law_603 : decode cL_law 603 = .ok (.iload_n 3, 1) := by decide +kernel
theorem dL_law_604 : decode cL_law 604 = .ok (.iconst 4, 1) := by decide +kernel
theorem dL_law_605 : decode cL_law 605 = .ok (.iadd, 1) := by decide +kernel
theorem dL_law_606 : decode cL_law 606 = .ok (.iaload, 1) := by decide +kernel
theorem dL_law_607 : decode cL_law 607 = .ok (.aload_n 0, 1) := by decide +kernel
theorem dL_law_608 : decode cL_law 608 = .ok (.iload_n 3, 1) := by decide +kernel
theorem dL_law_609 : decode cL_law 609 = .ok (.iconst 5, 1) := by decide +kernel
theorem dL_law_610 : decode cL_law 610 = .ok (.iadd, 1) := by decide +kernel
theorem dL_law_611 : decode cL_law 611 = .ok (.iaload, 1) := by decide +kernel
theorem dL_law_612 : decode cL_law 612 = .ok (.invokevirtual 81, 3) := by decide +kernel
theorem dL_law_615 : decode cL_law 615 = .ok (.aload_n 2, 1) := by decide +kernel
theorem dL_law_616 : decode cL_law 616 = .ok (.aload_n 0, 1) := by decide +kernel
theorem dL_law_617 : decode cL_law 617 = .ok (.iload_n 3, 1) := by decide +kernel
theorem dL_law_618 : decode cL_law 618 = .ok (.iconst 1, 1) := by decide +kernel
theorem dL_law_619 : decode cL_law 619 = .ok (.iadd, 1) := by decide +kernel
theorem dL_law_620 : decode cL_law 620 = .ok (.iaload, 1) := by decide +kernel
theorem dL_law_621 : decode cL_law 621 = .ok (.aload_n 0, 1) := by decide +kernel
theorem dL_law_622 : decode cL_law 622 = .ok (.iload_n 3, 1) := by decide +kernel
theorem dL_law_623 : decode cL_law 623 = .ok (.iconst 2, 1) := by decide +kernel
theorem dL_law_624 : decode cL_law 624 = .ok (.iadd, 1) := by decide +kernel
theorem dL_law_625 : decode cL_law 625 = .ok (.iaload, 1) := by decide +kernel
theorem dL_law_626 : decode cL_law 626 = .ok (.aload_n 0, 1) := by decide +kernel
theorem dL_law_627 : decode cL_law 627 = .ok (.iload_n 3, 1) := by decide +kernel
theorem dL_law_628 : decode cL_law 628 = .ok (.iconst 3, 1) := by decide +kernel
theorem dL_law_629 : decode cL_law 629 = .ok (.iadd, 1) := by decide +kernel
theorem dL_law_630 : decode cL_law 630 = .ok (.iaload, 1) := by decide +kernel
theorem dL_law_631 : decode cL_law 631 = .ok (.aload_n 0, 1) := by decide +kernel
theorem dL_law_632 : decode cL_law 632 = .ok (.iload_n 3, 1) := by decide +kernel
theorem dL_law_633 : decode cL_law 633 = .ok (.iconst 4, 1) := by decide +kernel
theorem dL_law_634 : decode cL_law 634 = .ok (.iadd, 1) := by decide +kernel
theorem dL_law_635 : decode cL_law 635 = .ok (.iaload, 1) := by decide +kernel
theorem dL_law_636 : decode cL_law 636 = .ok (.aload_n 0, 1) := by decide +kernel
theorem dL_law_637 : decode cL_law 637 = .ok (.iload_n 3, 1) := by decide +kernel
theorem dL_law_638 : decode cL_law 638 = .ok (.iconst 5, 1) := by decide +kernel
theorem dL_law_639 : decode cL_law 639 = .ok (.iadd, 1) := by decide +kernel
theorem dL_law_640 : decode cL_law 640 = .ok (.iaload, 1) := by decide +kernel
theorem dL_law_641 : decode cL_law 641 = .ok (.invokevirtual 85, 3) := by decide +kernel
theorem dL_law_644 : decode cL_law 644 = .ok (.if_icmp .eq 289, 3) := by decide +kernel
theorem dL_law_647 : decode cL_law 647 = .ok (.iconst 0, 1) := by decide +kernel
theorem dL_law_648 : decode cL_law 648 = .ok (.ireturn, 1) := by decide +kernel
theorem dL_law_649 : decode cL_law 649 = .ok (.aload_n 1, 1) := by decide +kernel
theorem dL_law_650 : decode cL_law 650 = .ok (.aload_n 0, 1) := by decide +kernel
theorem dL_law_651 : decode cL_law 651 = .ok (.iload_n 3, 1) := by decide +kernel
theorem dL_law_652 : decode cL_law 652 = .ok (.iconst 1, 1) := by decide +kernel
theorem dL_law_653 : decode cL_law 653 = .ok (.iadd, 1) := by decide +kernel
theorem dL_law_654 : decode cL_law 654 = .ok (.iaload, 1) := by decide +kernel
theorem dL_law_655 : decode cL_law 655 = .ok (.aload_n 0, 1) := by decide +kernel
theorem dL_law_656 : decode cL_law 656 = .ok (.iload_n 3, 1) := by decide +kernel
theorem dL_law_657 : decode cL_law 657 = .ok (.iconst 2, 1) := by decide +kernel
theorem dL_law_658 : decode cL_law 658 = .ok (.iadd, 1) := by decide +kernel
theorem dL_law_659 : decode cL_law 659 = .ok (.iaload, 1) := by decide +kernel
theorem dL_law_660 : decode cL_law 660 = .ok (.aload_n 0, 1) := by decide +kernel
theorem dL_law_661 : decode cL_law 661 = .ok (.iload_n 3, 1) := by decide +kernel
theorem dL_law_662 : decode cL_law 662 = .ok (.iconst 3, 1) := by decide +kernel
theorem dL_law_663 : decode cL_law 663 = .ok (.iadd, 1) := by decide +kernel
theorem dL_law_664 : decode cL_law 664 = .ok (.iaload, 1) := by decide +kernel
theorem dL_law_665 : decode cL_law 665 = .ok (.aload_n 0, 1) := by decide +kernel
theorem dL_law_666 : decode cL_law 666 = .ok (.iload_n 3, 1) := by decide +kernel
theorem dL_law_667 : decode cL_law 667 = .ok (.iconst 4, 1) := by decide +kernel
theorem dL_law_668 : decode cL_law 668 = .ok (.iadd, 1) := by decide +kernel
theorem dL_law_669 : decode cL_law 669 = .ok (.iaload, 1) := by decide +kernel
theorem dL_law_670 : decode cL_law 670 = .ok (.aload_n 0, 1) := by decide +kernel
theorem dL_law_671 : decode cL_law 671 = .ok (.iload_n 3, 1) := by decide +kernel
theorem dL_law_672 : decode cL_law 672 = .ok (.iconst 5, 1) := by decide +kernel
theorem dL_law_673 : decode cL_law 673 = .ok (.iadd, 1) := by decide +kernel
theorem dL_law_674 : decode cL_law 674 = .ok (.iaload, 1) := by decide +kernel
theorem dL_law_675 : decode cL_law 675 = .ok (.invokevirtual 86, 3) := by decide +kernel
theorem dL_law_678 : decode cL_law 678 = .ok (.aload_n 2, 1) := by decide +kernel
theorem dL_law_679 : decode cL_law 679 = .ok (.aload_n 0, 1) := by decide +kernel
theorem dL_law_680 : decode cL_law 680 = .ok (.iload_n 3, 1) := by decide +kernel
theorem dL_law_681 : decode cL_law 681 = .ok (.iconst 1, 1) := by decide +kernel
theorem dL_law_682 : decode cL_law 682 = .ok (.iadd, 1) := by decide +kernel
theorem dL_law_683 : decode cL_law 683 = .ok (.iaload, 1) := by decide +kernel
theorem dL_law_684 : decode cL_law 684 = .ok (.aload_n 0, 1) := by decide +kernel
theorem dL_law_685 : decode cL_law 685 = .ok (.iload_n 3, 1) := by decide +kernel
theorem dL_law_686 : decode cL_law 686 = .ok (.iconst 2, 1) := by decide +kernel
theorem dL_law_687 : decode cL_law 687 = .ok (.iadd, 1) := by decide +kernel
theorem dL_law_688 : decode cL_law 688 = .ok (.iaload, 1) := by decide +kernel
theorem dL_law_689 : decode cL_law 689 = .ok (.aload_n 0, 1) := by decide +kernel
theorem dL_law_690 : decode cL_law 690 = .ok (.iload_n 3, 1) := by decide +kernel
theorem dL_law_691 : decode cL_law 691 = .ok (.iconst 3, 1) := by decide +kernel
theorem dL_law_692 : decode cL_law 692 = .ok (.iadd, 1) := by decide +kernel
theorem dL_law_693 : decode cL_law 693 = .ok (.iaload, 1) := by decide +kernel
theorem dL_law_694 : decode cL_law 694 = .ok (.aload_n 0, 1) := by decide +kernel
theorem dL_law_695 : decode cL_law 695 = .ok (.iload_n 3, 1) := by decide +kernel
theorem dL_law_696 : decode cL_law 696 = .ok (.iconst 4, 1) := by decide +kernel
theorem dL_law_697 : decode cL_law 697 = .ok (.iadd, 1) := by decide +kernel
theorem dL_law_698 : decode cL_law 698 = .ok (.iaload, 1) := by decide +kernel
theorem dL_law_699 : decode cL_law 699 = .ok (.aload_n 0, 1) := by decide +kernel
theorem dL_law_700 : decode cL_law 700 = .ok (.iload_n 3, 1) := by decide +kernel
theorem dL_law_701 : decode cL_law 701 = .ok (.iconst 5, 1) := by decide +kernel
theorem dL_law_702 : decode cL_law 702 = .ok (.iadd, 1) := by decide +kernel
theorem dL_law_703 : decode cL_law 703 = .ok (.iaload, 1) := by decide +kernel
theorem dL_law_704 : decode cL_law 704 = .ok (.invokevirtual 89, 3) := by decide +kernel
theorem dL_law_707 : decode cL_law 707 = .ok (.if_icmp .eq 226, 3) := by decide +kernel
theorem dL_law_710 : decode cL_law 710 = .ok (.iconst 0, 1) := by decide +kernel
theorem dL_law_711 : decode cL_law 711 = .ok (.ireturn, 1) := by decide +kernel
theorem dL_law_712 : decode cL_law 712 = .ok (.aload_n 1, 1) := by decide +kernel
theorem dL_law_713 : decode cL_law 713 = .ok (.aload_n 0, 1) := by decide +kernel
theorem dL_law_714 : decode cL_law 714 = .ok (.iload_n 3, 1) := by decide +kernel
theorem dL_law_715 : decode cL_law 715 = .ok (.iconst 1, 1) := by decide +kernel
theorem dL_law_716 : decode cL_law 716 = .ok (.iadd, 1) := by decide +kernel
theorem dL_law_717 : decode cL_law 717 = .ok (.iaload, 1) := by decide +kernel
theorem dL_law_718 : decode cL_law 718 = .ok (.i2l, 1) := by decide +kernel
theorem dL_law_719 : decode cL_law 719 = .ok (.bipush 32, 2) := by decide +kernel
theorem dL_law_721 : decode cL_law 721 = .ok (.lshl, 1) := by decide +kernel
theorem dL_law_722 : decode cL_law 722 = .ok (.aload_n 0, 1) := by decide +kernel
theorem dL_law_723 : decode cL_law 723 = .ok (.iload_n 3, 1) := by decide +kernel
theorem dL_law_724 : decode cL_law 724 = .ok (.iconst 2, 1) := by decide +kernel
theorem dL_law_725 : decode cL_law 725 = .ok (.iadd, 1) := by decide +kernel
theorem dL_law_726 : decode cL_law 726 = .ok (.iaload, 1) := by decide +kernel
theorem dL_law_727 : decode cL_law 727 = .ok (.i2l, 1) := by decide +kernel
theorem dL_law_728 : decode cL_law 728 = .ok (.ldc2_w 90, 3) := by decide +kernel
theorem dL_law_731 : decode cL_law 731 = .ok (.land, 1) := by decide +kernel
theorem dL_law_732 : decode cL_law 732 = .ok (.lor, 1) := by decide +kernel
theorem dL_law_733 : decode cL_law 733 = .ok (.aload_n 0, 1) := by decide +kernel
theorem dL_law_734 : decode cL_law 734 = .ok (.iload_n 3, 1) := by decide +kernel
theorem dL_law_735 : decode cL_law 735 = .ok (.iconst 3, 1) := by decide +kernel
theorem dL_law_736 : decode cL_law 736 = .ok (.iadd, 1) := by decide +kernel
theorem dL_law_737 : decode cL_law 737 = .ok (.iaload, 1) := by decide +kernel
theorem dL_law_738 : decode cL_law 738 = .ok (.invokevirtual 92, 3) := by decide +kernel
theorem dL_law_741 : decode cL_law 741 = .ok (.aload_n 2, 1) := by decide +kernel
theorem dL_law_742 : decode cL_law 742 = .ok (.aload_n 0, 1) := by decide +kernel
theorem dL_law_743 : decode cL_law 743 = .ok (.iload_n 3, 1) := by decide +kernel
theorem dL_law_744 : decode cL_law 744 = .ok (.iconst 1, 1) := by decide +kernel
theorem dL_law_745 : decode cL_law 745 = .ok (.iadd, 1) := by decide +kernel
theorem dL_law_746 : decode cL_law 746 = .ok (.iaload, 1) := by decide +kernel
theorem dL_law_747 : decode cL_law 747 = .ok (.i2l, 1) := by decide +kernel
theorem dL_law_748 : decode cL_law 748 = .ok (.bipush 32, 2) := by decide +kernel
theorem dL_law_750 : decode cL_law 750 = .ok (.lshl, 1) := by decide +kernel
theorem dL_law_751 : decode cL_law 751 = .ok (.aload_n 0, 1) := by decide +kernel
theorem dL_law_752 : decode cL_law 752 = .ok (.iload_n 3, 1) := by decide +kernel
theorem dL_law_753 : decode cL_law 753 = .ok (.iconst 2, 1) := by decide +kernel
theorem dL_law_754 : decode cL_law 754 = .ok (.iadd, 1) := by decide +kernel
theorem dL_law_755 : decode cL_law 755 = .ok (.iaload, 1) := by decide +kernel
theorem dL_law_756 : decode cL_law 756 = .ok (.i2l, 1) := by decide +kernel
theorem dL_law_757 : decode cL_law 757 = .ok (.ldc2_w 90, 3) := by decide +kernel
theorem dL_law_760 : decode cL_law 760 = .ok (.land, 1) := by decide +kernel
theorem dL_law_761 : decode cL_law 761 = .ok (.lor, 1) := by decide +kernel
theorem dL_law_762 : decode cL_law 762 = .ok (.aload_n 0, 1) := by decide +kernel
theorem dL_law_763 : decode cL_law 763 = .ok (.iload_n 3, 1) := by decide +kernel
theorem dL_law_764 : decode cL_law 764 = .ok (.iconst 3, 1) := by decide +kernel
theorem dL_law_765 : decode cL_law 765 = .ok (.iadd, 1) := by decide +kernel
theorem dL_law_766 : decode cL_law 766 = .ok (.iaload, 1) := by decide +kernel
theorem dL_law_767 : decode cL_law 767 = .ok (.invokevirtual 96, 3) := by decide +kernel
theorem dL_law_770 : decode cL_law 770 = .ok (.if_icmp .eq 163, 3) := by decide +kernel
theorem dL_law_773 : decode cL_law 773 = .ok (.iconst 0, 1) := by decide +kernel
theorem dL_law_774 : decode cL_law 774 = .ok (.ireturn, 1) := by decide +kernel
theorem dL_law_775 : decode cL_law 775 = .ok (.aload_n 1, 1) := by decide +kernel
theorem dL_law_776 : decode cL_law 776 = .ok (.invokevirtual 97, 3) := by decide +kernel
theorem dL_law_779 : decode cL_law 779 = .ok (.aload_n 2, 1) := by decide +kernel
theorem dL_law_780 : decode cL_law 780 = .ok (.invokevirtual 100, 3) := by decide +kernel
theorem dL_law_783 : decode cL_law 783 = .ok (.if_icmp .eq 150, 3) := by decide +kernel
theorem dL_law_786 : decode cL_law 786 = .ok (.iconst 0, 1) := by decide +kernel
theorem dL_law_787 : decode cL_law 787 = .ok (.ireturn, 1) := by decide +kernel
theorem dL_law_788 : decode cL_law 788 = .ok (.aload_n 1, 1) := by decide +kernel
theorem dL_law_789 : decode cL_law 789 = .ok (.invokevirtual 101, 3) := by decide +kernel
theorem dL_law_792 : decode cL_law 792 = .ok (.aload_n 2, 1) := by decide +kernel
theorem dL_law_793 : decode cL_law 793 = .ok (.invokevirtual 104, 3) := by decide +kernel
theorem dL_law_796 : decode cL_law 796 = .ok (.if_icmp .eq 137, 3) := by decide +kernel
theorem dL_law_799 : decode cL_law 799 = .ok (.iconst 0, 1) := by decide +kernel
theorem dL_law_800 : decode cL_law 800 = .ok (.ireturn, 1) := by decide +kernel
theorem dL_law_801 : decode cL_law 801 = .ok (.aload_n 1, 1) := by decide +kernel
theorem dL_law_802 : decode cL_law 802 = .ok (.invokevirtual 105, 3) := by decide +kernel
theorem dL_law_805 : decode cL_law 805 = .ok (.aload_n 2, 1) := by decide +kernel
theorem dL_law_806 : decode cL_law 806 = .ok (.invokevirtual 108, 3) := by decide +kernel
theorem dL_law_809 : decode cL_law 809 = .ok (.if_icmp .eq 124, 3) := by decide +kernel
theorem dL_law_812 : decode cL_law 812 = .ok (.iconst 0, 1) := by decide +kernel
theorem dL_law_813 : decode cL_law 813 = .ok (.ireturn, 1) := by decide +kernel
theorem dL_law_814 : decode cL_law 814 = .ok (.aload_n 1, 1) := by decide +kernel
theorem dL_law_815 : decode cL_law 815 = .ok (.aload_n 0, 1) := by decide +kernel
theorem dL_law_816 : decode cL_law 816 = .ok (.iload_n 3, 1) := by decide +kernel
theorem dL_law_817 : decode cL_law 817 = .ok (.iconst 1, 1) := by decide +kernel
theorem dL_law_818 : decode cL_law 818 = .ok (.iadd, 1) := by decide +kernel
theorem dL_law_819 : decode cL_law 819 = .ok (.iaload, 1) := by decide +kernel
theorem dL_law_820 : decode cL_law 820 = .ok (.aload_n 0, 1) := by decide +kernel
theorem dL_law_821 : decode cL_law 821 = .ok (.iload_n 3, 1) := by decide +kernel
theorem dL_law_822 : decode cL_law 822 = .ok (.iconst 2, 1) := by decide +kernel
theorem dL_law_823 : decode cL_law 823 = .ok (.iadd, 1) := by decide +kernel
theorem dL_law_824 : decode cL_law 824 = .ok (.iaload, 1) := by decide +kernel
theorem dL_law_825 : decode cL_law 825 = .ok (.aload_n 0, 1) := by decide +kernel
theorem dL_law_826 : decode cL_law 826 = .ok (.iload_n 3, 1) := by decide +kernel
theorem dL_law_827 : decode cL_law 827 = .ok (.iconst 3, 1) := by decide +kernel
theorem dL_law_828 : decode cL_law 828 = .ok (.iadd, 1) := by decide +kernel
theorem dL_law_829 : decode cL_law 829 = .ok (.iaload, 1) := by decide +kernel
theorem dL_law_830 : decode cL_law 830 = .ok (.invokevirtual 109, 3) := by decide +kernel
theorem dL_law_833 : decode cL_law 833 = .ok (.aload_n 2, 1) := by decide +kernel
theorem dL_law_834 : decode cL_law 834 = .ok (.aload_n 0, 1) := by decide +kernel
theorem dL_law_835 : decode cL_law 835 = .ok (.iload_n 3, 1) := by decide +kernel
theorem dL_law_836 : decode cL_law 836 = .ok (.iconst 1, 1) := by decide +kernel
theorem dL_law_837 : decode cL_law 837 = .ok (.iadd, 1) := by decide +kernel
theorem dL_law_838 : decode cL_law 838 = .ok (.iaload, 1) := by decide +kernel
theorem dL_law_839 : decode cL_law 839 = .ok (.aload_n 0, 1) := by decide +kernel
theorem dL_law_840 : decode cL_law 840 = .ok (.iload_n 3, 1) := by decide +kernel
theorem dL_law_841 : decode cL_law 841 = .ok (.iconst 2, 1) := by decide +kernel
theorem dL_law_842 : decode cL_law 842 = .ok (.iadd, 1) := by decide +kernel
theorem dL_law_843 : decode cL_law 843 = .ok (.iaload, 1) := by decide +kernel
theorem dL_law_844 : decode cL_law 844 = .ok (.aload_n 0, 1) := by decide +kernel
theorem dL_law_845 : decode cL_law 845 = .ok (.iload_n 3, 1) := by decide +kernel
theorem dL_law_846 : decode cL_law 846 = .ok (.iconst 3, 1) := by decide +kernel
theorem dL_law_847 : decode cL_law 847 = .ok (.iadd, 1) := by decide +kernel
theorem dL_law_848 : decode cL_law 848 = .ok (.iaload, 1) := by decide +kernel
theorem dL_law_849 : decode cL_law 849 = .ok (.invokevirtual 112, 3) := by decide +kernel
theorem dL_law_852 : decode cL_law 852 = .ok (.if_icmp .eq 81, 3) := by decide +kernel
theorem dL_law_855 : decode cL_law 855 = .ok (.iconst 0, 1) := by decide +kernel
theorem dL_law_856 : decode cL_law 856 = .ok (.ireturn, 1) := by decide +kernel
theorem dL_law_857 : decode cL_law 857 = .ok (.aload_n 1, 1) := by decide +kernel
theorem dL_law_858 : decode cL_law 858 = .ok (.aload_n 0, 1) := by decide +kernel
theorem dL_law_859 : decode cL_law 859 = .ok (.iload_n 3, 1) := by decide +kernel
theorem dL_law_860 : decode cL_law 860 = .ok (.iconst 1, 1) := by decide +kernel
theorem dL_law_861 : decode cL_law 861 = .ok (.iadd, 1) := by decide +kernel
theorem dL_law_862 : decode cL_law 862 = .ok (.iaload, 1) := by decide +kernel
theorem dL_law_863 : decode cL_law 863 = .ok (.invokevirtual 113, 3) := by decide +kernel
theorem dL_law_866 : decode cL_law 866 = .ok (.aload_n 2, 1) := by decide +kernel
theorem dL_law_867 : decode cL_law 867 = .ok (.aload_n 0, 1) := by decide +kernel
theorem dL_law_868 : decode cL_law 868 = .ok (.iload_n 3, 1) := by decide +kernel
theorem dL_law_869 : decode cL_law 869 = .ok (.iconst 1, 1) := by decide +kernel
theorem dL_law_870 : decode cL_law 870 = .ok (.iadd, 1) := by decide +kernel
theorem dL_law_871 : decode cL_law 871 = .ok (.iaload, 1) := by decide +kernel
theorem dL_law_872 : decode cL_law 872 = .ok (.invokevirtual 116, 3) := by decide +kernel
theorem dL_law_875 : decode cL_law 875 = .ok (.if_icmp .eq 58, 3) := by decide +kernel
theorem dL_law_878 : decode cL_law 878 = .ok (.iconst 0, 1) := by decide +kernel
theorem dL_law_879 : decode cL_law 879 = .ok (.ireturn, 1) := by decide +kernel
theorem dL_law_880 : decode cL_law 880 = .ok (.aload_n 1, 1) := by decide +kernel
theorem dL_law_881 : decode cL_law 881 = .ok (.aload_n 0, 1) := by decide +kernel
theorem dL_law_882 : decode cL_law 882 = .ok (.iload_n 3, 1) := by decide +kernel
theorem dL_law_883 : decode cL_law 883 = .ok (.iconst 1, 1) := by decide +kernel
theorem dL_law_884 : decode cL_law 884 = .ok (.iadd, 1) := by decide +kernel
theorem dL_law_885 : decode cL_law 885 = .ok (.iaload, 1) := by decide +kernel
theorem dL_law_886 : decode cL_law 886 = .ok (.aload_n 0, 1) := by decide +kernel
theorem dL_law_887 : decode cL_law 887 = .ok (.iload_n 3, 1) := by decide +kernel
theorem dL_law_888 : decode cL_law 888 = .ok (.iconst 2, 1) := by decide +kernel
theorem dL_law_889 : decode cL_law 889 = .ok (.iadd, 1) := by decide +kernel
theorem dL_law_890 : decode cL_law 890 = .ok (.iaload, 1) := by decide +kernel
theorem dL_law_891 : decode cL_law 891 = .ok (.aload_n 0, 1) := by decide +kernel
theorem dL_law_892 : decode cL_law 892 = .ok (.iload_n 3, 1) := by decide +kernel
theorem dL_law_893 : decode cL_law 893 = .ok (.iconst 3, 1) := by decide +kernel
theorem dL_law_894 : decode cL_law 894 = .ok (.iadd, 1) := by decide +kernel
theorem dL_law_895 : decode cL_law 895 = .ok (.iaload, 1) := by decide +kernel
theorem dL_law_896 : decode cL_law 896 = .ok (.aload_n 0, 1) := by decide +kernel
theorem dL_law_897 : decode cL_law 897 = .ok (.iload_n 3, 1) := by decide +kernel
theorem dL_law_898 : decode cL_law 898 = .ok (.iconst 4, 1) := by decide +kernel
theorem dL_law_899 : decode cL_law 899 = .ok (.iadd, 1) := by decide +kernel
theorem dL_law_900 : decode cL_law 900 = .ok (.iaload, 1) := by decide +kernel
theorem dL_law_901 : decode cL_law 901 = .ok (.invokevirtual 117, 3) := by decide +kernel
theorem dL_law_904 : decode cL_law 904 = .ok (.aload_n 2, 1) := by decide +kernel
theorem dL_law_905 : decode cL_law 905 = .ok (.aload_n 0, 1) := by decide +kernel
theorem dL_law_906 : decode cL_law 906 = .ok (.iload_n 3, 1) := by decide +kernel
theorem dL_law_907 : decode cL_law 907 = .ok (.iconst 1, 1) := by decide +kernel
theorem dL_law_908 : decode cL_law 908 = .ok (.iadd, 1) := by decide +kernel
theorem dL_law_909 : decode cL_law 909 = .ok (.iaload, 1) := by decide +kernel
theorem dL_law_910 : decode cL_law 910 = .ok (.aload_n 0, 1) := by decide +kernel
theorem dL_law_911 : decode cL_law 911 = .ok (.iload_n 3, 1) := by decide +kernel
theorem dL_law_912 : decode cL_law 912 = .ok (.iconst 2, 1) := by decide +kernel
theorem dL_law_913 : decode cL_law 913 = .ok (.iadd, 1) := by decide +kernel
theorem dL_law_914 : decode cL_law 914 = .ok (.iaload, 1) := by decide +kernel
theorem dL_law_915 : decode cL_law 915 = .ok (.aload_n 0, 1) := by decide +kernel
theorem dL_law_916 : decode cL_law 916 = .ok (.iload_n 3, 1) := by decide +kernel
theorem dL_law_917 : decode cL_law 917 = .ok (.iconst 3, 1) := by decide +kernel
theorem dL_law_918 : decode cL_law 918 = .ok (.iadd, 1) := by decide +kernel
theorem dL_law_919 : decode cL_law 919 = .ok (.iaload, 1) := by decide +kernel
theorem dL_law_920 : decode cL_law 920 = .ok (.aload_n 0, 1) := by decide +kernel
theorem dL_law_921 : decode cL_law 921 = .ok (.iload_n 3, 1) := by decide +kernel
theorem dL_law_922 : decode cL_law 922 = .ok (.iconst 4, 1) := by decide +kernel
theorem dL_law_923 : decode cL_law 923 = .ok (.iadd, 1) := by decide +kernel
theorem dL_law_924 : decode cL_law 924 = .ok (.iaload, 1) := by decide +kernel
theorem dL_law_925 : decode cL_law 925 = .ok (.invokevirtual 121, 3) := by decide +kernel
theorem dL_law_928 : decode cL_law 928 = .ok (.if_icmp .eq 5, 3) := by decide +kernel
theorem dL_law_931 : decode cL_law 931 = .ok (.iconst 0, 1) := by decide +kernel
theorem dL_law_932 : decode cL_law 932 = .ok (.ireturn, 1) := by decide +kernel
theorem dL_law_933 : decode cL_law 933 = .ok (.iinc 3 6, 3) := by decide +kernel
theorem dL_law_936 : decode cL_law 936 = .ok (.goto (-918), 3) := by decide +kernel
theorem dL_law_939 : decode cL_law 939 = .ok (.iconst 1, 1) := by decide +kernel
theorem dL_law_940 : decode cL_law 940 = .ok (.ireturn, 1) := by decide +kernel
end
section
/-! ===== ints ===== -/
def iI (x : Int) : Int32 := Int32.ofInt x
def lI (x : Int) : Int64 := Int64.ofInt x
abbrev inR (a : Int) : Prop := -2147483648 ≤ a ∧ a ≤ 2147483647
theorem iI_t {a : Int} (h : inR a) : (iI a).toInt = a := Int32.toInt_ofInt_of_le (by have := h.1; omega) (by have := h.2; omega)
theorem lI_t {a : Int} (h : inR a) : (lI a).toInt = a := Int64.toInt_ofInt_of_le (by have := h.1; omega) (by have := h.2; omega)
theorem iI_of (x : Int32) : iI x.toInt = x := Int32.ofInt_toInt x
theorem iI_R (x : Int32) : inR x.toInt := ⟨by have := Int32.le_toInt x; omega, by have := Int32.toInt_lt x; omega⟩
theorem iI_add (a b : Int) : iI a + iI b = iI (a + b) := (Int32.ofInt_add a b).symm
theorem iI_sub (a b : Int) : iI a - iI b = iI (a - b) := (Int32.ofInt_sub a b).symm
theorem iI_mul (a b : Int) : iI a * iI b = iI (a * b) := (Int32.ofInt_mul a b).symm
theorem iI_lt {a b : Int} (ha : inR a) (hb : inR b) : iI a < iI b ↔ a < b := by rw [Int32.lt_iff_toInt_lt, iI_t ha, iI_t hb]
theorem iI_le {a b : Int} (ha : inR a) (hb : inR b) : iI a ≤ iI b ↔ a ≤ b := by rw [Int32.le_iff_toInt_le, iI_t ha, iI_t hb]
theorem iI_eq {a b : Int} (ha : inR a) (hb : inR b) : iI a = iI b ↔ a = b := ⟨fun h => by rw [← iI_t ha, ← iI_t hb, h], fun h => by rw [h]⟩
theorem iI_z : iI 0 = 0 := by decide
theorem R0 : inR 0 := by decide
theorem iI_lt0 {a : Int} (ha : inR a) : iI a < 0 ↔ a < 0 := by rw [← iI_z]; exact iI_lt ha R0
theorem iI_le0 {a : Int} (ha : inR a) : iI a ≤ 0 ↔ a ≤ 0 := by rw [← iI_z]; exact iI_le ha R0
theorem iI_0lt {a : Int} (ha : inR a) : 0 < iI a ↔ 0 < a := by rw [← iI_z]; exact iI_lt R0 ha
theorem iI_0le {a : Int} (ha : inR a) : 0 ≤ iI a ↔ 0 ≤ a := by rw [← iI_z]; exact iI_le R0 ha
theorem iI_eq0 {a : Int} (ha : inR a) : iI a = 0 ↔ a = 0 := by rw [← iI_z]; exact iI_eq ha R0
theorem iI_bip {n : Int} (h1 : -128 ≤ n) (h2 : n ≤ 127) : (Int8.ofInt n).toInt32 = iI n := by
  apply Int32.toInt_inj.mp
  rw [Int8.toInt_toInt32, Int8.toInt_ofInt_of_le (by omega) (by omega), iI_t ⟨by omega, by omega⟩]
theorem iI_sip {n : Int} (h1 : -32768 ≤ n) (h2 : n ≤ 32767) : (Int16.ofInt n).toInt32 = iI n := by
  apply Int32.toInt_inj.mp
  rw [Int16.toInt_toInt32, Int16.toInt_ofInt_of_le (by omega) (by omega), iI_t ⟨by omega, by omega⟩]
theorem iI_div {a b : Int} (ha : inR a) (h0 : 0 ≤ a) (hb : inR b) (hp : 0 < b) : iI a / iI b = iI (a / b) := by
  have hd : 0 ≤ a / b := Int.ediv_nonneg h0 (by omega)
  have hl : a / b ≤ a := Int.ediv_le_self _ h0
  apply Int32.toInt_inj.mp
  have hne : iI b ≠ -1 := by
    intro h
    have := congrArg Int32.toInt h
    rw [iI_t hb] at this
    have e : (-1 : Int32).toInt = -1 := by decide
    omega
  rw [Int32.toInt_div_of_ne_right _ _ hne, iI_t ha, iI_t hb, iI_t ⟨by omega, by have := ha.2; omega⟩, Int.tdiv_eq_ediv_of_nonneg h0]
theorem iI_rem {a b : Int} (ha : inR a) (h0 : 0 ≤ a) (hb : inR b) (hp : 0 < b) : iI a - iI a / iI b * iI b = iI (a % b) := by
  rw [iI_div ha h0 hb hp, iI_mul, iI_sub, Int.emod_def, Int.mul_comm b]
theorem iI_64 {a : Int} (ha : inR a) : (iI a).toInt64 = lI a := by
  apply Int64.toInt_inj.mp
  rw [Int32.toInt_toInt64, iI_t ha, lI_t ha]
def cmpI (a b : Int) : Int := if a > b then 1 else if a = b then 0 else -1
theorem lI_cmp {a b : Int} (ha : inR a) (hb : inR b) : lg_cmp (lI a) (lI b) = iI (cmpI a b) := by
  have h1 : (lI a > lI b) ↔ a > b := by show lI b < lI a ↔ _; rw [Int64.lt_iff_toInt_lt, lI_t ha, lI_t hb]
  have h2 : (lI a = lI b) ↔ a = b := ⟨fun h => by rw [← lI_t ha, ← lI_t hb, h], fun h => by rw [h]⟩
  unfold lg_cmp cmpI
  by_cases c1 : a > b
  · rw [if_pos (h1.mpr c1), if_pos c1]; decide
  · rw [if_neg (fun h => c1 (h1.mp h)), if_neg c1]
    by_cases c2 : a = b
    · rw [if_pos (h2.mpr c2), if_pos c2]; decide
    · rw [if_neg (fun h => c2 (h2.mp h)), if_neg c2]; decide
theorem iI_cl {j : Nat} (h : j < 2147483648) : (iI (j : Int)).toNatClampNeg = j := by
  show (iI (j : Int)).toInt.toNat = j
  rw [iI_t ⟨by omega, by omega⟩]
  exact Int.toNat_natCast j
theorem iI_in {j n : Nat} (h : j < n) (hn : n < 2147483648) : vp_in (iI (j : Int)) n := by
  rw [vp_in_iff, iI_t ⟨by omega, by omega⟩]
  omega
def updI (f : Nat → Int) (j : Nat) (v : Int) : Nat → Int := fun q => if q = j then v else f q
theorem updI_e (f : Nat → Int) (j : Nat) (v : Int) : updI f j v j = v := if_pos rfl
theorem updI_n {f : Nat → Int} {j q : Nat} {v : Int} (h : q ≠ j) : updI f j v q = f q := if_neg h
theorem upd_I (f : Nat → Int) (j : Nat) (v : Int) : upd (fun q => iI (f q)) j (iI v) = fun q => iI (updI f j v q) := by
  funext q
  simp only [upd, updI]
  by_cases h : q = j
  · simp [h]
  · simp [h]
theorem nar_b {v : Int} (h1 : -128 ≤ v) (h2 : v ≤ 127) : vp_nar .byte (iI v) = iI v := by
  rw [vp_nar_byte]
  apply Int32.toInt_inj.mp
  rw [Int8.toInt_toInt32, Int32.toInt_toInt8, iI_t ⟨by omega, by omega⟩]
  exact Int.bmod_eq_of_le (by omega) (by omega)
/-! ===== worlds ===== -/
abbrev AC : Type := (Nat × vp_A) ⊕ (Nat × List Value)
abbrev AW : Type := List AC
abbrev MI : Type := MethodName × ByteArray × Nat × Option FieldType × Nat × Nat
def cv (S b : Nat) (v : Value) : Value := match v with
  | .ref k => .ref (S + k)
  | .retAddr _ => .ref b
  | .int x => .int x
  | .long x => .long x
  | .float x => .float x
  | .double x => .double x
  | .null => .null
theorem cv_cat (S b : Nat) (v : Value) : (cv S b v).category = v.category := by cases v <;> rfl
theorem cv_cats (S b : Nat) (st : List Value) : ((st.map (cv S b)).map fun v => v.category) = st.map fun v => v.category := by
  rw [List.map_map]
  apply List.map_congr_left
  intro v _
  exact cv_cat S b v
def ca (S : Nat) (a : vp_A) : vp_A := match a with
  | (n, .inl f) => (n, .inl f)
  | (n, .inr (.inl f)) => (n, .inr (.inl f))
  | (n, .inr (.inr (.inl f))) => (n, .inr (.inr (.inl f)))
  | (n, .inr (.inr (.inr (.inl f)))) => (n, .inr (.inr (.inr (.inl f))))
  | (n, .inr (.inr (.inr (.inr f)))) => (n, .inr (.inr (.inr (.inr (fun j => (f j).map (fun k => S + k))))))
def ce (dA : Nat → ClassId) (S b : Nat) (c : AC) : va_E := match c with
  | .inl (t, a) => .inl (dA t, ca S a)
  | .inr (ci, fs) => .inr (ci, fs.map (cv S b))
def cw (dA : Nat → ClassId) (S b : Nat) (w : AW) : va_W := w.mapIdx (fun i c => (S + i, ce dA S b c))
def wg : AW → Nat → Option AC
  | [], _ => none
  | c :: _, 0 => some c
  | _ :: w, k + 1 => wg w k
def wp : AW → Nat → AC → AW
  | [], _, _ => []
  | _ :: w, 0, c => c :: w
  | d :: w, k + 1, c => d :: wp w k c
def vk : List Value → Nat → Option Value
  | [], _ => none
  | c :: _, 0 => some c
  | _ :: w, k + 1 => vk w k
def vs : List Value → Nat → Value → List Value
  | [], _, _ => []
  | _ :: w, 0, c => c :: w
  | d :: w, k + 1, c => d :: vs w k c
theorem wg_eq : ∀ (w : AW) (i : Nat), wg w i = w[i]?
  | [], _ => by simp [wg]
  | c :: w, 0 => by simp [wg]
  | c :: w, k + 1 => by simp only [wg, List.getElem?_cons_succ]; exact wg_eq w k
theorem wp_eq : ∀ (w : AW) (i : Nat) (c : AC), wp w i c = w.set i c
  | [], _, _ => by simp [wp]
  | d :: w, 0, c => by simp [wp]
  | d :: w, k + 1, c => by simp only [wp, List.set_cons_succ]; rw [wp_eq w k c]
theorem vk_eq : ∀ (w : List Value) (i : Nat), vk w i = w[i]?
  | [], _ => by simp [vk]
  | c :: w, 0 => by simp [vk]
  | c :: w, k + 1 => by simp only [vk, List.getElem?_cons_succ]; exact vk_eq w k
theorem vs_eq : ∀ (w : List Value) (i : Nat) (c : Value), vs w i c = w.set i c
  | [], _, _ => by simp [vs]
  | d :: w, 0, c => by simp [vs]
  | d :: w, k + 1, c => by simp only [vs, List.set_cons_succ]; rw [vs_eq w k c]
theorem wp_len (w : AW) (i : Nat) (c : AC) : (wp w i c).length = w.length := by rw [wp_eq, List.length_set]
theorem wg_app {P L : AW} {a : Nat} (h : P.length = a) (i : Nat) : wg (P ++ L) (a + i) = wg L i := by
  subst h
  rw [wg_eq, wg_eq, List.getElem?_append_right (by omega)]
  congr 1
  omega
theorem wp_app {P L : AW} {a : Nat} (h : P.length = a) (i : Nat) (c : AC) : wp (P ++ L) (a + i) c = P ++ wp L i c := by
  subst h
  rw [wp_eq, wp_eq, List.set_append_right _ _ (by omega)]
  congr 2
  omega
theorem cw_get {dA : Nat → ClassId} {S b : Nat} {w : AW} {i : Nat} {c : AC} (h : wg w i = some c) : (cw dA S b w)[i]? = some (S + i, ce dA S b c) := by
  rw [wg_eq] at h
  simp [cw, h]
theorem cw_set {dA : Nat → ClassId} {S b : Nat} (w : AW) (i : Nat) (c : AC) : cw dA S b (wp w i c) = (cw dA S b w).set i (S + i, ce dA S b c) := by
  rw [wp_eq]
  simp [cw, List.mapIdx_set]
theorem cw_push {dA : Nat → ClassId} {S b : Nat} (w : AW) (c : AC) : cw dA S b (w ++ [c]) = cw dA S b w ++ [(S + w.length, ce dA S b c)] := by
  simp [cw, List.mapIdx_append]
theorem cw_D (dA : Nat → ClassId) (S b : Nat) (w : AW) : va_D (fun q => S ≤ q) (cw dA S b w) := by
  refine ⟨fun i j p q hi hj hpq => ?_, fun k q hk => ?_⟩
  · simp only [cw, List.getElem?_mapIdx, Option.map_eq_some_iff] at hi hj
    obtain ⟨_, -, rfl⟩ := hi
    obtain ⟨_, -, rfl⟩ := hj
    simp only at hpq
    omega
  · simp only [cw, List.getElem?_mapIdx, Option.map_eq_some_iff] at hk
    obtain ⟨_, -, rfl⟩ := hk
    exact Nat.le_add_right _ _
end
section
def NF : List (String × Nat × String × String × String × String) := [("RecordBox", 58, "RecordBox$Works", "records", "I", "RecordBox"), ("RecordBox", 81, "RecordBox$Works", "times", "[I", "RecordBox"), ("RecordBox", 84, "RecordBox$Works", "wear", "[I", "RecordBox"), ("RecordBox", 77, "RecordBox$Works", "rack", "[I", "RecordBox"), ("RecordBox", 93, "RecordBox$Works", "meters", "[I", "RecordBox"), ("RecordBox", 121, "RecordBox$Works", "pinsIn", "I", "RecordBox"), ("RecordBox", 176, "RecordBox$Works", "stuckIn", "I", "RecordBox"), ("RecordBox", 114, "RecordBox$Works", "groove", "I", "RecordBox"), ("RecordBox$Outlook", 64, "RecordBox$Works", "now", "I", "RecordBox"), ("RecordBox", 127, "RecordBox$Works", "now", "I", "RecordBox"), ("RecordBox", 134, "RecordBox$Works", "place", "I", "RecordBox"), ("RecordBox", 137, "RecordBox$Works", "up", "Z", "RecordBox"), ("RecordBox", 140, "RecordBox$Works", "doing", "I", "RecordBox"), ("RecordBox", 143, "RecordBox$Works", "ticksLeft", "I", "RecordBox"), ("RecordBox$Outlook", 53, "RecordBox$Works", "played", "I", "RecordBox"), ("RecordBox", 154, "RecordBox$Works", "played", "I", "RecordBox"), ("RecordBox", 157, "RecordBox$Works", "misses", "I", "RecordBox"), ("RecordBox", 108, "RecordBox$Till", "credits", "I", "RecordBox"), ("RecordBox", 124, "RecordBox$Till", "lost", "I", "RecordBox"), ("RecordBox", 151, "RecordBox$Till", "taken", "I", "RecordBox"), ("RecordBox", 111, "RecordBox$Till", "kindness", "I", "RecordBox"), ("RecordBox", 170, "RecordBox$Outlook", "songs", "[I", "RecordBox"), ("RecordBox", 167, "RecordBox$Outlook", "told", "I", "RecordBox"), ("RecordBox", 186, "RecordBox$Outlook", "lesser", "I", "RecordBox"), ("RecordBox", 189, "RecordBox$Outlook", "other", "I", "RecordBox"), ("RecordBox", 192, "RecordBox$Outlook", "soonest", "I", "RecordBox"), ("RecordBox", 226, "RecordBox$Tape", "length", "I", "RecordBox"), ("RecordBox", 238, "RecordBox$Tape", "kinds", "[I", "RecordBox"), ("RecordBox", 241, "RecordBox$Tape", "values", "[I", "RecordBox"), ("RecordBox", 235, "RecordBox$Tape", "acts", "I", "RecordBox"), ("RecordBox", 262, "RecordBox$Sheet", "lane", "I", "RecordBox"), ("RecordBox", 216, "RecordBox$Sheet", "size", "I", "RecordBox")]
def NM : List (String × Nat × MethodName × String) := [("RecordBox", 18, ⟨"RecordBox$Till", "<init>", "()V"⟩, "RecordBox"), ("RecordBox", 35, ⟨"RecordBox$Outlook", "<init>", "()V"⟩, "RecordBox"), ("RecordBox", 42, ⟨"RecordBox$Tape", "<init>", "()V"⟩, "RecordBox"), ("RecordBox", 53, ⟨"RecordBox$Sheet", "<init>", "()V"⟩, "RecordBox"), ("RecordBox$Works", 101, ⟨"RecordBox", "within", "(III)Z"⟩, "RecordBox")]
/-! ===== the logic: contracts and runs over abstract worlds ===== -/
def TB : List Cond := lw_tbl.filter goodWord
theorem TB_m {w : Cond} (i : Nat) (h : lw_tbl[i]? = some w) (hg : goodWord w = true) : w ∈ TB := List.mem_filter.mpr ⟨List.mem_of_getElem? h, hg⟩
theorem TB_g {w : Cond} (h : w ∈ TB) : (w.onTables && w.keeps) = true ∨ ∃ ty, w = .arrayClass ty := good_of_word (List.mem_filter.mp h).2
abbrev TYS (dA : Nat → ClassId) : List (ClassId × FieldType) := [(dA 0, .int), (dA 1, .byte), (dA 2, .object RX1)]
def GK (D : va_G) (dA : Nat → ClassId) (U : State) : Prop := va_K D vwCl (TYS dA) U ∧ va_AO RX1 U ∧ (∀ q ∈ NF, va_Nw (.fieldLinkNest q.1 q.2.1 q.2.2.1 q.2.2.2.1 q.2.2.2.2.1 q.2.2.2.2.2) U) ∧ ∀ q ∈ NM, va_Nw (.methodLinkNest q.1 q.2.1 q.2.2.1 q.2.2.2) U
theorem GK.warm {D : va_G} {dA : Nat → ClassId} {s U : State} (hW : s.WarmedH U.vm) (h : GK D dA s) : GK D dA U :=
  ⟨va_K.moved hW.alike h.1, h.2.1.moved hW.alike, fun q hq => (h.2.2.1 q hq).warmF hW, fun q hq => (h.2.2.2 q hq).warmM hW⟩
theorem GK.call {D : va_G} {dA : Nat → ClassId} {U : State} (g : JFrame) (mk : MethodId) (a : Array Value) (h : GK D dA U) : GK D dA (U.calling g mk a) :=
  ⟨va_K.moved (u := U) (U := U.calling g mk a) (Vm.Alike.refl U.vm) h.1, va_AO.moved (u := U) (U := U.calling g mk a) (Vm.Alike.refl U.vm) h.2.1, fun q hq => va_Nw.same (u := U) (U := U.calling g mk a) rfl rfl (h.2.2.1 q hq), fun q hq => va_Nw.same (u := U) (U := U.calling g mk a) rfl rfl (h.2.2.2 q hq)⟩
abbrev HW (D : va_G) (dA : Nat → ClassId) (S b : Nat) (w : AW) (H : Heap) : Prop := va_P D vwCl (cw dA S b w) H
abbrev RM (mi : MI) (mc ms : Nat) : Room := { frames := mi.2.2.2.2.1, cells := mc, slots := ms, locals := mi.2.2.2.2.2 }
abbrev MW (mi : MI) : List Cond := .code mi.1 mi.2.1 mi.2.2.1 mi.2.2.2.1 :: TB
abbrev Zt : Type := va_G → (Nat → ClassId) → Nat → Nat → List Frame → Array Value → State → State → Prop
def QC (D : va_G) (dA : Nat → ClassId) (S b mc : Nat) (Q : Option Value → AW → Prop) : Array Value → State → Outcome → State → Prop := fun _ st oc t =>
  (∃ (r : Option Value) (w : AW), oc = .returned (r.map (cv S b)) ∧ Q r w ∧ HW D dA S b w t.heap ∧ S + w.length = st.heap.size + mc) ∧ va_F (fun q => S ≤ q) st t
def ZM (mc ms : Nat) (Q : Option Value → AW → Prop) : Zt := fun D dA S b below args s => MQ below (QC D dA S b mc Q) args s mc ms (fun q => S ≤ q)
def CT (mi : MI) (mc ms : Nat) (As : List Value) (w : AW) (Q : Option Value → AW → Prop) : Prop :=
  ∀ (l : Launch) (D : va_G) (dA : Nat → ClassId) (S b : Nat), Met l mi.1 (MW mi) (RM mi mc ms)
    (fun args U => args = (As.map (cv S b)).toArray ∧ GK D dA U ∧ HW D dA S b w U.heap ∧ U.heap.size = S + w.length) (QC D dA S b mc Q) mc ms (fun q => S ≤ q)
def CTi (mi : MI) (mc ms : Nat) (As : List Value) (w : AW) (R : Int → AW → Prop) : Prop := CT mi mc ms As w (fun r w' => ∃ x : Int, r = some (.int (iI x)) ∧ R x w')
def CTv (mi : MI) (mc ms : Nat) (As : List Value) (w : AW) (R : AW → Prop) : Prop := CT mi mc ms As w (fun r w' => r = none ∧ R w')
def lk : List (Option Value) → Nat → Option Value
  | [], _ => none
  | a :: _, 0 => a
  | _ :: r, k + 1 => lk r k
def sk : List (Option Value) → Nat → Option Value → List (Option Value)
  | [], _, _ => []
  | _ :: r, 0, v => v :: r
  | a :: r, k + 1, v => a :: sk r k v
theorem lk_sk_ne : ∀ (ls : List (Option Value)) (i j : Nat) (v : Option Value), j ≠ i → lk (sk ls i v) j = lk ls j
  | [], _, _, _, _ => rfl
  | _ :: _, 0, 0, _, h => absurd rfl h
  | _ :: _, 0, j + 1, _, _ => rfl
  | _ :: _, i + 1, 0, _, _ => rfl
  | _ :: r, i + 1, j + 1, v, h => lk_sk_ne r i j v (fun e => h (by rw [e]))
theorem lk_sk_e : ∀ (ls : List (Option Value)) (i : Nat) (v : Option Value) (x : Value), lk (sk ls i v) i = some x → v = some x
  | [], _, _, _, h => by simp [sk, lk] at h
  | _ :: _, 0, _, _, h => h
  | _ :: r, i + 1, v, x, h => lk_sk_e r i v x h
/-- the place before i isn't a long's -/
def okb (ls : List (Option Value)) (i : Nat) : Bool := match i with
  | 0 => true
  | j + 1 => match lk ls j with
    | some v => v.category == 1
    | none => true
def lo (S b : Nat) (la : Array Slot) (nL : Nat) (ls : List (Option Value)) : Prop := la.size = nL ∧ lv_wf la ∧ ∀ (i : Nat) (v : Value), lk ls i = some v → la[i]? = some (.val (cv S b v))
def lAs (S b : Nat) (ls : List (Option Value)) : List (Nat × Value) := (List.range ls.length).filterMap (fun i => (lk ls i).map (fun v => (i, cv S b v)))
theorem lk_lt : ∀ (ls : List (Option Value)) (i : Nat) (v : Value), lk ls i = some v → i < ls.length
  | [], _, _, h => by simp [lk] at h
  | _ :: _, 0, _, _ => Nat.succ_pos _
  | _ :: r, i + 1, v, h => Nat.succ_lt_succ (lk_lt r i v h)
theorem lAs_mem {S b : Nat} {ls : List (Option Value)} {i : Nat} {v : Value} (h : lk ls i = some v) : (i, cv S b v) ∈ lAs S b ls :=
  List.mem_filterMap.mpr ⟨i, List.mem_range.mpr (lk_lt ls i v h), by rw [h]; rfl⟩
theorem lo.has {S b nL : Nat} {la : Array Slot} {ls : List (Option Value)} (h : lo S b la nL ls) : lv_has la nL (lAs S b ls) := by
  refine ⟨h.1, h.2.1, fun q hq => ?_⟩
  obtain ⟨i, -, hi⟩ := List.mem_filterMap.mp hq
  cases hv : lk ls i with
  | none => rw [hv] at hi; cases hi
  | some v =>
    rw [hv] at hi
    cases hi
    exact h.2.2 i v hv
theorem lo.st {S b nL i : Nat} {la : Array Slot} {ls : List (Option Value)} {v : Value} (hc : okb ls i = true)
    (h : lv_has la nL ((i, cv S b v) :: (lAs S b ls).filter (fun q => !(q.1 == i) && !(q.1 + 1 == i && q.2.category == 2)))) : lo S b la nL (sk ls i (some v)) := by
  refine ⟨h.1, h.2.1, fun j x hj => ?_⟩
  by_cases e : j = i
  · subst e
    cases lk_sk_e ls j _ x hj
    exact h.2.2 (j, cv S b v) List.mem_cons_self
  · rw [lk_sk_ne ls i j _ e] at hj
    refine h.2.2 (j, cv S b x) (List.mem_cons_of_mem _ (List.mem_filter.mpr ⟨lAs_mem hj, ?_⟩))
    simp only [Bool.and_eq_true, Bool.not_eq_true', beq_eq_false_iff_ne, ne_eq, Bool.and_eq_false_iff, beq_iff_eq]
    refine ⟨e, ?_⟩
    by_cases e2 : j + 1 = i
    · right
      subst e2
      simp only [okb, hj, beq_iff_eq] at hc
      rw [cv_cat, hc]
      decide
    · exact Or.inl e2
def SX (SC : Option (Nat × (Nat → Int32))) (S b : Nat) (s : State) : Prop := match SC with
  | none => True
  | some q => va_X b q.1 q.2 s s.heap ∧ b < s.heap.size ∧ b < S
def KX (mi : MI) (SC : Option (Nat × (Nat → Int32))) (p : Program) (s : State) (m : MethodId) (args : Array Value) (meth : Method) (c : Code) (D : va_G) (dA : Nat → ClassId) (S b : Nat) : Prop :=
  p.tables.exec = Jvm.exec ∧ c.code = mi.2.1 ∧ meth.sig.returnType = mi.2.2.2.1 ∧ c.maxLocals = mi.2.2.1 ∧ meth.locks = false ∧ s.vm.findClass mi.1.cls = some m.cls ∧ (mi.1.name = "<init>" → meth.name = "<init>") ∧ (∀ w ∈ TB, w.before args s = true) ∧ GK D dA s ∧ S ≤ s.heap.size ∧ SX SC S b s
def EX (mi : MI) (mc ms : Nat) (SC : Option (Nat × (Nat → Int32))) (Z : Zt) (pc : Nat) (ls : List (Option Value)) (st : List Value) (w : AW) (k n : Nat) : Prop :=
  ∀ (p : Program) (l : Launch) (e : Env) (s : State) (m : MethodId) (args : Array Value) (below : List Frame) (meth : Method) (c : Code) (D : va_G) (dA : Nat → ClassId) (S b : Nat) (H : Heap) (locs : List Loc) (la : Array Slot),
    KX mi SC p s m args meth c D dA S b → s.heap.size + k = S + w.length → HW D dA S b w H → va_S (fun q => S ≤ q) s.heap H locs → lo S b la mi.2.2.1 ls →
    W p l e (RM mi mc ms) s m args below meth c H locs k n (Z D dA S b below args s) (F0 m pc la (st.map (cv S b)))
/-- a method's contract out of a run of its body -/
def ent : List Value → List (Option Value)
  | [] => []
  | v :: vs => if v.category = 2 then some v :: none :: ent vs else some v :: ent vs
theorem ent_args : ∀ (vs : List Value) (i j : Nat) (v : Value), lk (ent vs) j = some v → (i + j, v) ∈ lv_args i vs
  | [], _, _, _, h => by simp [ent, lk] at h
  | a :: vs, i, j, v, h => by
    unfold ent at h
    unfold lv_args
    by_cases hc : a.category = 2
    · rw [if_pos hc] at h ⊢
      match j, h with
      | 0, h => cases h; exact List.mem_cons_self
      | 1, h => cases h
      | j + 2, h =>
        have := ent_args vs (i + 2) j v h
        rw [show i + (j + 2) = i + 2 + j by omega]
        exact List.mem_cons_of_mem _ this
    · rw [if_neg hc] at h ⊢
      match j, h with
      | 0, h => cases h; exact List.mem_cons_self
      | j + 1, h =>
        have := ent_args vs (i + 1) j v h
        rw [show i + (j + 1) = i + 1 + j by omega]
        exact List.mem_cons_of_mem _ this
theorem ent_map (S b : Nat) : ∀ (vs : List Value), ent (vs.map (cv S b)) = (ent vs).map (fun o => o.map (cv S b))
  | [] => rfl
  | a :: vs => by
    simp only [List.map_cons, ent, cv_cat]
    by_cases hc : a.category = 2
    · rw [if_pos hc, if_pos hc, ent_map S b vs]; rfl
    · rw [if_neg hc, if_neg hc, ent_map S b vs]; rfl
theorem lk_map (f : Value → Value) : ∀ (ls : List (Option Value)) (i : Nat), lk (ls.map (fun o => o.map f)) i = (lk ls i).map f
  | [], _ => rfl
  | _ :: _, 0 => rfl
  | _ :: r, i + 1 => lk_map f r i
theorem lk_pad (n : Nat) : ∀ (ls : List (Option Value)) (i : Nat) (v : Value), lk (ls ++ List.replicate n none) i = some v → lk ls i = some v
  | [], i, v, h => by
    exfalso
    rw [List.nil_append] at h
    have : ∀ (n i : Nat), lk (List.replicate n none) i = none := by
      intro n
      induction n with
      | zero => intro i; rfl
      | succ n ih =>
        intro i
        rw [List.replicate_succ]
        cases i with
        | zero => rfl
        | succ i => exact ih i
    rw [this] at h
    cases h
  | _ :: _, 0, _, h => h
  | _ :: r, i + 1, v, h => lk_pad n r i v h
theorem lg_slen (S b : Nat) : ∀ (vs : List Value), (lg_sl (vs.map (cv S b))).length = (ent vs).length
  | [] => rfl
  | a :: vs => by
    have ih := lg_slen S b vs
    simp only [lg_sl] at ih
    simp only [lg_sl, List.map_cons, List.flatMap_cons, List.length_append, ent, cv_cat, ih]
    by_cases hc : a.category = 2
    · rw [if_pos hc, if_pos hc]; simp; omega
    · rw [if_neg hc, if_neg hc]; simp; omega
theorem CT_of {mi : MI} {mc ms : Nat} {As : List Value} {w : AW} {Q : Option Value → AW → Prop} (q : Nat) (hp : plainName mi.1.cls = true) (hl : (ent As).length ≤ mi.2.2.1)
    (h : EX mi mc ms none (ZM mc ms Q) 0 (ent As ++ List.replicate q none) [] w 0 0) : CT mi mc ms As w Q := by
  intro l D dA S b
  refine Met.ofW (cc := mi.2.1) (maxL := mi.2.2.1) (ret := mi.2.2.2.1) hp rfl ?_
  intro p e s m args below meth c s₁ B hml hv
  obtain ⟨rfl, hG, hw, hsz⟩ := hv
  have hts := atoms_spec (ws := MW mi) B.pre
  have hown : s.vm.findClass mi.1.cls = some m.cls := findClass_of_methodNamed B.named
  have hen := lv_entry (As.map (cv S b)) (n := mi.2.2.1) (by rw [lg_slen]; exact hl)
  rw [lg_entry_eq]
  refine h p l e s m _ below meth c D dA S b s.heap [] _ ⟨B.exec, B.bytes, B.returns, hml, B.notSynchronized, hown, fun _ => ?_, fun w hw => hts w (List.mem_cons_of_mem _ hw), hG, by omega, trivial⟩ (by omega) hw va_S.rf ⟨hen.1, hen.2.1, fun i v hi => ?_⟩
  · rename_i hn
    rw [← hn]
    exact (name_of_methodNamed B.named B.method).1
  · have h1 := lk_pad q _ i v hi
    have h2 : lk (ent (As.map (cv S b))) i = some (cv S b v) := by rw [ent_map, lk_map, h1]; rfl
    have h3 := ent_args _ 0 i _ h2
    rw [Nat.zero_add] at h3
    exact hen.2.2 _ h3
end
section
section RULES
variable {mi : MI} {mc ms : Nat} {SC : Option (Nat × (Nat → Int32))} {Z : Zt} {pc : Nat} {ls : List (Option Value)} {st : List Value} {w : AW} {k n : Nat}
theorem x_iconst {i : Int} (hd : decode mi.2.1 pc = .ok (.iconst i, 1)) (kk : EX mi mc ms SC Z (pc + 1) ls (.int (iI i) :: st) w k n) : EX mi mc ms SC Z pc ls st w k n := by
  intro p l e s m args below meth c D dA S b H locs la hk hE hw hS hl
  exact lv_iconst hk.1 hk.2.1 hd rfl (kk p l e s m args below meth c D dA S b H locs la hk hE hw hS hl)
theorem x_bipush {i : Int} (hd : decode mi.2.1 pc = .ok (.bipush i, 2)) (kk : EX mi mc ms SC Z (pc + 2) ls (.int (iI i) :: st) w k n) (h1 : -128 ≤ i := by decide) (h2 : i ≤ 127 := by decide) : EX mi mc ms SC Z pc ls st w k n := by
  intro p l e s m args below meth c D dA S b H locs la hk hE hw hS hl
  exact lv_bipush hk.1 hk.2.1 hd (iI_bip h1 h2) (kk p l e s m args below meth c D dA S b H locs la hk hE hw hS hl)
theorem x_sipush {i : Int} (hd : decode mi.2.1 pc = .ok (.sipush i, 3)) (kk : EX mi mc ms SC Z (pc + 3) ls (.int (iI i) :: st) w k n) (h1 : -32768 ≤ i := by decide) (h2 : i ≤ 32767 := by decide) : EX mi mc ms SC Z pc ls st w k n := by
  intro p l e s m args below meth c D dA S b H locs la hk hE hw hS hl
  exact lv_sipush hk.1 hk.2.1 hd (iI_sip h1 h2) (kk p l e s m args below meth c D dA S b H locs la hk hE hw hS hl)
theorem x_lconst {i : Fin 2} (hd : decode mi.2.1 pc = .ok (.lconst i, 1)) (kk : EX mi mc ms SC Z (pc + 1) ls (.long (lI (i.val : Int)) :: st) w k n) : EX mi mc ms SC Z pc ls st w k n := by
  intro p l e s m args below meth c D dA S b H locs la hk hE hw hS hl
  exact lv_lconst hk.1 hk.2.1 hd (by match i with | 0 => decide | 1 => decide) (kk p l e s m args below meth c D dA S b H locs la hk hE hw hS hl)
theorem x_ldc {idx : Nat} {i : Int} (hd : decode mi.2.1 pc = .ok (.ldc idx, 2)) (hc : Cond.constant mi.1.cls idx (iI i) ∈ TB) (kk : EX mi mc ms SC Z (pc + 2) ls (.int (iI i) :: st) w k n) : EX mi mc ms SC Z pc ls st w k n := by
  intro p l e s m args below meth c D dA S b H locs la hk hE hw hS hl
  exact W.ldc hk.1 hk.2.1 hk.2.2.2.2.2.1 (hk.2.2.2.2.2.2.2.1 _ hc) rfl hd (kk p l e s m args below meth c D dA S b H locs la hk hE hw hS hl)
theorem x_ldcw {idx : Nat} {i : Int} (hd : decode mi.2.1 pc = .ok (.ldc_w idx, 3)) (hc : Cond.constant mi.1.cls idx (iI i) ∈ TB) (kk : EX mi mc ms SC Z (pc + 3) ls (.int (iI i) :: st) w k n) : EX mi mc ms SC Z pc ls st w k n := by
  intro p l e s m args below meth c D dA S b H locs la hk hE hw hS hl
  exact lv_ldcw hk.1 hk.2.1 hk.2.2.2.2.2.1 (hk.2.2.2.2.2.2.2.1 _ hc) hd (kk p l e s m args below meth c D dA S b H locs la hk hE hw hS hl)
theorem x_ldc2 {idx : Nat} {i : Int} (hd : decode mi.2.1 pc = .ok (.ldc2_w idx, 3)) (hc : Cond.constantLong mi.1.cls idx (lI i) ∈ TB) (kk : EX mi mc ms SC Z (pc + 3) ls (.long (lI i) :: st) w k n) : EX mi mc ms SC Z pc ls st w k n := by
  intro p l e s m args below meth c D dA S b H locs la hk hE hw hS hl
  exact W.ldc2 hk.1 hk.2.1 hk.2.2.2.2.2.1 (hk.2.2.2.2.2.2.2.1 _ hc) rfl hd (kk p l e s m args below meth c D dA S b H locs la hk hE hw hS hl)
theorem x_iload_n {q : Fin 4} {x : Int32} (hd : decode mi.2.1 pc = .ok (.iload_n q, 1)) (h : lk ls q.val = some (.int x)) (kk : EX mi mc ms SC Z (pc + 1) ls (.int x :: st) w k n) : EX mi mc ms SC Z pc ls st w k n := by
  intro p l e s m args below meth c D dA S b H locs la hk hE hw hS hl
  exact lv_iload_n hk.1 hk.2.1 hd rfl (hl.2.2 _ _ h) (kk p l e s m args below meth c D dA S b H locs la hk hE hw hS hl)
theorem x_iload {q : Nat} {x : Int32} (hd : decode mi.2.1 pc = .ok (.iload q, 2)) (h : lk ls q = some (.int x)) (kk : EX mi mc ms SC Z (pc + 2) ls (.int x :: st) w k n) : EX mi mc ms SC Z pc ls st w k n := by
  intro p l e s m args below meth c D dA S b H locs la hk hE hw hS hl
  exact lv_iload hk.1 hk.2.1 hd (hl.2.2 _ _ h) (kk p l e s m args below meth c D dA S b H locs la hk hE hw hS hl)
theorem x_lload_n {q : Fin 4} {x : Int64} (hd : decode mi.2.1 pc = .ok (.lload_n q, 1)) (h : lk ls q.val = some (.long x)) (kk : EX mi mc ms SC Z (pc + 1) ls (.long x :: st) w k n) : EX mi mc ms SC Z pc ls st w k n := by
  intro p l e s m args below meth c D dA S b H locs la hk hE hw hS hl
  exact lv_lload_n hk.1 hk.2.1 hd rfl (hl.2.2 _ _ h) (kk p l e s m args below meth c D dA S b H locs la hk hE hw hS hl)
theorem x_lload {q : Nat} {x : Int64} (hd : decode mi.2.1 pc = .ok (.lload q, 2)) (h : lk ls q = some (.long x)) (kk : EX mi mc ms SC Z (pc + 2) ls (.long x :: st) w k n) : EX mi mc ms SC Z pc ls st w k n := by
  intro p l e s m args below meth c D dA S b H locs la hk hE hw hS hl
  exact lv_lload hk.1 hk.2.1 hd (hl.2.2 _ _ h) (kk p l e s m args below meth c D dA S b H locs la hk hE hw hS hl)
theorem x_aload_n {q : Fin 4} {x : Nat} (hd : decode mi.2.1 pc = .ok (.aload_n q, 1)) (h : lk ls q.val = some (.ref x)) (kk : EX mi mc ms SC Z (pc + 1) ls (.ref x :: st) w k n) : EX mi mc ms SC Z pc ls st w k n := by
  intro p l e s m args below meth c D dA S b H locs la hk hE hw hS hl
  exact lv_aload_n hk.1 hk.2.1 hd rfl (hl.2.2 _ _ h) (kk p l e s m args below meth c D dA S b H locs la hk hE hw hS hl)
theorem x_aload_s {q : Fin 4} {x : Nat} (hd : decode mi.2.1 pc = .ok (.aload_n q, 1)) (h : lk ls q.val = some (.retAddr x)) (kk : EX mi mc ms SC Z (pc + 1) ls (.retAddr x :: st) w k n) : EX mi mc ms SC Z pc ls st w k n := by
  intro p l e s m args below meth c D dA S b H locs la hk hE hw hS hl
  exact lv_aload_n hk.1 hk.2.1 hd rfl (hl.2.2 _ _ h) (kk p l e s m args below meth c D dA S b H locs la hk hE hw hS hl)
theorem x_istore_n {q : Fin 4} {x : Int32} {ls' : List (Option Value)} (hd : decode mi.2.1 pc = .ok (.istore_n q, 1)) (hn : q.val < mi.2.2.1) (hc : okb ls q.val = true) (hs : sk ls q.val (some (.int x)) = ls') (kk : EX mi mc ms SC Z (pc + 1) ls' st w k n) : EX mi mc ms SC Z pc ls (.int x :: st) w k n := by
  subst hs
  intro p l e s m args below meth c D dA S b H locs la hk hE hw hS hl
  exact lv_istore_n hk.1 hk.2.1 hd rfl hl.has hn rfl (fun la' h' => kk p l e s m args below meth c D dA S b H locs la' hk hE hw hS (lo.st hc h'))
theorem x_istore {q : Nat} {x : Int32} {ls' : List (Option Value)} (hd : decode mi.2.1 pc = .ok (.istore q, 2)) (hn : q < mi.2.2.1) (hc : okb ls q = true) (hs : sk ls q (some (.int x)) = ls') (kk : EX mi mc ms SC Z (pc + 2) ls' st w k n) : EX mi mc ms SC Z pc ls (.int x :: st) w k n := by
  subst hs
  intro p l e s m args below meth c D dA S b H locs la hk hE hw hS hl
  exact lv_istore hk.1 hk.2.1 hd hl.has hn rfl (fun la' h' => kk p l e s m args below meth c D dA S b H locs la' hk hE hw hS (lo.st hc h'))
theorem x_astore_n {q : Fin 4} {x : Nat} {ls' : List (Option Value)} (hd : decode mi.2.1 pc = .ok (.astore_n q, 1)) (hn : q.val < mi.2.2.1) (hc : okb ls q.val = true) (hs : sk ls q.val (some (.ref x)) = ls') (kk : EX mi mc ms SC Z (pc + 1) ls' st w k n) : EX mi mc ms SC Z pc ls (.ref x :: st) w k n := by
  subst hs
  intro p l e s m args below meth c D dA S b H locs la hk hE hw hS hl
  exact lv_astore_n hk.1 hk.2.1 hd rfl hl.has hn rfl (fun la' h' => kk p l e s m args below meth c D dA S b H locs la' hk hE hw hS (lo.st hc h'))
theorem x_iinc {q : Nat} {d x : Int} {ls' : List (Option Value)} (hd : decode mi.2.1 pc = .ok (.iinc q d, 3)) (h : lk ls q = some (.int (iI x))) (hn : q < mi.2.2.1) (hc : okb ls q = true) (hs : sk ls q (some (.int (iI (x + d)))) = ls') (kk : EX mi mc ms SC Z (pc + 3) ls' st w k n) : EX mi mc ms SC Z pc ls st w k n := by
  subst hs
  intro p l e s m args below meth c D dA S b H locs la hk hE hw hS hl
  obtain ⟨j, hj⟩ := List.getElem?_of_mem (lAs_mem (S := S) (b := b) h)
  exact lv_iinc hk.1 hk.2.1 hd hl.has hj (iI_add x d) hn rfl (fun la' h' => kk p l e s m args below meth c D dA S b H locs la' hk hE hw hS (lo.st hc h'))
theorem x_ist0 {a0 : Option Value} {r : List (Option Value)} {x : Int32} (hd : decode mi.2.1 pc = .ok (.istore_n 0, 1)) (kk : EX mi mc ms SC Z (pc + 1) (some (.int x) :: r) st w k n) (hn : 0 < mi.2.2.1 := by decide) (hc : okb (a0 :: r) 0 = true := by rfl) : EX mi mc ms SC Z pc (a0 :: r) (.int x :: st) w k n := x_istore_n hd hn hc rfl kk
theorem x_inc0 {r : List (Option Value)} {x d : Int} (hd : decode mi.2.1 pc = .ok (.iinc 0 d, 3)) (kk : EX mi mc ms SC Z (pc + 3) (some (.int (iI (x + d))) :: r) st w k n) (hn : 0 < mi.2.2.1 := by decide) (hc : okb (some (.int (iI x)) :: r) 0 = true := by rfl) : EX mi mc ms SC Z pc (some (.int (iI x)) :: r) st w k n := x_iinc hd rfl hn hc rfl kk
theorem x_ist1 {a0 a1 : Option Value} {r : List (Option Value)} {x : Int32} (hd : decode mi.2.1 pc = .ok (.istore_n 1, 1)) (kk : EX mi mc ms SC Z (pc + 1) (a0 :: some (.int x) :: r) st w k n) (hn : 1 < mi.2.2.1 := by decide) (hc : okb (a0 :: a1 :: r) 1 = true := by rfl) : EX mi mc ms SC Z pc (a0 :: a1 :: r) (.int x :: st) w k n := x_istore_n hd hn hc rfl kk
theorem x_inc1 {a0 : Option Value} {r : List (Option Value)} {x d : Int} (hd : decode mi.2.1 pc = .ok (.iinc 1 d, 3)) (kk : EX mi mc ms SC Z (pc + 3) (a0 :: some (.int (iI (x + d))) :: r) st w k n) (hn : 1 < mi.2.2.1 := by decide) (hc : okb (a0 :: some (.int (iI x)) :: r) 1 = true := by rfl) : EX mi mc ms SC Z pc (a0 :: some (.int (iI x)) :: r) st w k n := x_iinc hd rfl hn hc rfl kk
theorem x_ast1 {a0 a1 : Option Value} {r : List (Option Value)} {x : Nat} (hd : decode mi.2.1 pc = .ok (.astore_n 1, 1)) (kk : EX mi mc ms SC Z (pc + 1) (a0 :: some (.ref x) :: r) st w k n) (hn : 1 < mi.2.2.1 := by decide) (hc : okb (a0 :: a1 :: r) 1 = true := by rfl) : EX mi mc ms SC Z pc (a0 :: a1 :: r) (.ref x :: st) w k n := x_astore_n hd hn hc rfl kk
theorem x_ist2 {a0 a1 a2 : Option Value} {r : List (Option Value)} {x : Int32} (hd : decode mi.2.1 pc = .ok (.istore_n 2, 1)) (kk : EX mi mc ms SC Z (pc + 1) (a0 :: a1 :: some (.int x) :: r) st w k n) (hn : 2 < mi.2.2.1 := by decide) (hc : okb (a0 :: a1 :: a2 :: r) 2 = true := by rfl) : EX mi mc ms SC Z pc (a0 :: a1 :: a2 :: r) (.int x :: st) w k n := x_istore_n hd hn hc rfl kk
theorem x_inc2 {a0 a1 : Option Value} {r : List (Option Value)} {x d : Int} (hd : decode mi.2.1 pc = .ok (.iinc 2 d, 3)) (kk : EX mi mc ms SC Z (pc + 3) (a0 :: a1 :: some (.int (iI (x + d))) :: r) st w k n) (hn : 2 < mi.2.2.1 := by decide) (hc : okb (a0 :: a1 :: some (.int (iI x)) :: r) 2 = true := by rfl) : EX mi mc ms SC Z pc (a0 :: a1 :: some (.int (iI x)) :: r) st w k n := x_iinc hd rfl hn hc rfl kk
theorem x_ast2 {a0 a1 a2 : Option Value} {r : List (Option Value)} {x : Nat} (hd : decode mi.2.1 pc = .ok (.astore_n 2, 1)) (kk : EX mi mc ms SC Z (pc + 1) (a0 :: a1 :: some (.ref x) :: r) st w k n) (hn : 2 < mi.2.2.1 := by decide) (hc : okb (a0 :: a1 :: a2 :: r) 2 = true := by rfl) : EX mi mc ms SC Z pc (a0 :: a1 :: a2 :: r) (.ref x :: st) w k n := x_astore_n hd hn hc rfl kk
theorem x_ist3 {a0 a1 a2 a3 : Option Value} {r : List (Option Value)} {x : Int32} (hd : decode mi.2.1 pc = .ok (.istore_n 3, 1)) (kk : EX mi mc ms SC Z (pc + 1) (a0 :: a1 :: a2 :: some (.int x) :: r) st w k n) (hn : 3 < mi.2.2.1 := by decide) (hc : okb (a0 :: a1 :: a2 :: a3 :: r) 3 = true := by rfl) : EX mi mc ms SC Z pc (a0 :: a1 :: a2 :: a3 :: r) (.int x :: st) w k n := x_istore_n hd hn hc rfl kk
theorem x_inc3 {a0 a1 a2 : Option Value} {r : List (Option Value)} {x d : Int} (hd : decode mi.2.1 pc = .ok (.iinc 3 d, 3)) (kk : EX mi mc ms SC Z (pc + 3) (a0 :: a1 :: a2 :: some (.int (iI (x + d))) :: r) st w k n) (hn : 3 < mi.2.2.1 := by decide) (hc : okb (a0 :: a1 :: a2 :: some (.int (iI x)) :: r) 3 = true := by rfl) : EX mi mc ms SC Z pc (a0 :: a1 :: a2 :: some (.int (iI x)) :: r) st w k n := x_iinc hd rfl hn hc rfl kk
theorem x_ist4 {a0 a1 a2 a3 a4 : Option Value} {r : List (Option Value)} {x : Int32} (hd : decode mi.2.1 pc = .ok (.istore 4, 2)) (kk : EX mi mc ms SC Z (pc + 2) (a0 :: a1 :: a2 :: a3 :: some (.int x) :: r) st w k n) (hn : 4 < mi.2.2.1 := by decide) (hc : okb (a0 :: a1 :: a2 :: a3 :: a4 :: r) 4 = true := by rfl) : EX mi mc ms SC Z pc (a0 :: a1 :: a2 :: a3 :: a4 :: r) (.int x :: st) w k n := x_istore hd hn hc rfl kk
theorem x_inc4 {a0 a1 a2 a3 : Option Value} {r : List (Option Value)} {x d : Int} (hd : decode mi.2.1 pc = .ok (.iinc 4 d, 3)) (kk : EX mi mc ms SC Z (pc + 3) (a0 :: a1 :: a2 :: a3 :: some (.int (iI (x + d))) :: r) st w k n) (hn : 4 < mi.2.2.1 := by decide) (hc : okb (a0 :: a1 :: a2 :: a3 :: some (.int (iI x)) :: r) 4 = true := by rfl) : EX mi mc ms SC Z pc (a0 :: a1 :: a2 :: a3 :: some (.int (iI x)) :: r) st w k n := x_iinc hd rfl hn hc rfl kk
theorem x_ist5 {a0 a1 a2 a3 a4 a5 : Option Value} {r : List (Option Value)} {x : Int32} (hd : decode mi.2.1 pc = .ok (.istore 5, 2)) (kk : EX mi mc ms SC Z (pc + 2) (a0 :: a1 :: a2 :: a3 :: a4 :: some (.int x) :: r) st w k n) (hn : 5 < mi.2.2.1 := by decide) (hc : okb (a0 :: a1 :: a2 :: a3 :: a4 :: a5 :: r) 5 = true := by rfl) : EX mi mc ms SC Z pc (a0 :: a1 :: a2 :: a3 :: a4 :: a5 :: r) (.int x :: st) w k n := x_istore hd hn hc rfl kk
theorem x_inc5 {a0 a1 a2 a3 a4 : Option Value} {r : List (Option Value)} {x d : Int} (hd : decode mi.2.1 pc = .ok (.iinc 5 d, 3)) (kk : EX mi mc ms SC Z (pc + 3) (a0 :: a1 :: a2 :: a3 :: a4 :: some (.int (iI (x + d))) :: r) st w k n) (hn : 5 < mi.2.2.1 := by decide) (hc : okb (a0 :: a1 :: a2 :: a3 :: a4 :: some (.int (iI x)) :: r) 5 = true := by rfl) : EX mi mc ms SC Z pc (a0 :: a1 :: a2 :: a3 :: a4 :: some (.int (iI x)) :: r) st w k n := x_iinc hd rfl hn hc rfl kk
theorem x_ist6 {a0 a1 a2 a3 a4 a5 a6 : Option Value} {r : List (Option Value)} {x : Int32} (hd : decode mi.2.1 pc = .ok (.istore 6, 2)) (kk : EX mi mc ms SC Z (pc + 2) (a0 :: a1 :: a2 :: a3 :: a4 :: a5 :: some (.int x) :: r) st w k n) (hn : 6 < mi.2.2.1 := by decide) (hc : okb (a0 :: a1 :: a2 :: a3 :: a4 :: a5 :: a6 :: r) 6 = true := by rfl) : EX mi mc ms SC Z pc (a0 :: a1 :: a2 :: a3 :: a4 :: a5 :: a6 :: r) (.int x :: st) w k n := x_istore hd hn hc rfl kk
theorem x_inc6 {a0 a1 a2 a3 a4 a5 : Option Value} {r : List (Option Value)} {x d : Int} (hd : decode mi.2.1 pc = .ok (.iinc 6 d, 3)) (kk : EX mi mc ms SC Z (pc + 3) (a0 :: a1 :: a2 :: a3 :: a4 :: a5 :: some (.int (iI (x + d))) :: r) st w k n) (hn : 6 < mi.2.2.1 := by decide) (hc : okb (a0 :: a1 :: a2 :: a3 :: a4 :: a5 :: some (.int (iI x)) :: r) 6 = true := by rfl) : EX mi mc ms SC Z pc (a0 :: a1 :: a2 :: a3 :: a4 :: a5 :: some (.int (iI x)) :: r) st w k n := x_iinc hd rfl hn hc rfl kk
theorem x_ist7 {a0 a1 a2 a3 a4 a5 a6 a7 : Option Value} {r : List (Option Value)} {x : Int32} (hd : decode mi.2.1 pc = .ok (.istore 7, 2)) (kk : EX mi mc ms SC Z (pc + 2) (a0 :: a1 :: a2 :: a3 :: a4 :: a5 :: a6 :: some (.int x) :: r) st w k n) (hn : 7 < mi.2.2.1 := by decide) (hc : okb (a0 :: a1 :: a2 :: a3 :: a4 :: a5 :: a6 :: a7 :: r) 7 = true := by rfl) : EX mi mc ms SC Z pc (a0 :: a1 :: a2 :: a3 :: a4 :: a5 :: a6 :: a7 :: r) (.int x :: st) w k n := x_istore hd hn hc rfl kk
theorem x_inc7 {a0 a1 a2 a3 a4 a5 a6 : Option Value} {r : List (Option Value)} {x d : Int} (hd : decode mi.2.1 pc = .ok (.iinc 7 d, 3)) (kk : EX mi mc ms SC Z (pc + 3) (a0 :: a1 :: a2 :: a3 :: a4 :: a5 :: a6 :: some (.int (iI (x + d))) :: r) st w k n) (hn : 7 < mi.2.2.1 := by decide) (hc : okb (a0 :: a1 :: a2 :: a3 :: a4 :: a5 :: a6 :: some (.int (iI x)) :: r) 7 = true := by rfl) : EX mi mc ms SC Z pc (a0 :: a1 :: a2 :: a3 :: a4 :: a5 :: a6 :: some (.int (iI x)) :: r) st w k n := x_iinc hd rfl hn hc rfl kk
theorem x_ist8 {a0 a1 a2 a3 a4 a5 a6 a7 a8 : Option Value} {r : List (Option Value)} {x : Int32} (hd : decode mi.2.1 pc = .ok (.istore 8, 2)) (kk : EX mi mc ms SC Z (pc + 2) (a0 :: a1 :: a2 :: a3 :: a4 :: a5 :: a6 :: a7 :: some (.int x) :: r) st w k n) (hn : 8 < mi.2.2.1 := by decide) (hc : okb (a0 :: a1 :: a2 :: a3 :: a4 :: a5 :: a6 :: a7 :: a8 :: r) 8 = true := by rfl) : EX mi mc ms SC Z pc (a0 :: a1 :: a2 :: a3 :: a4 :: a5 :: a6 :: a7 :: a8 :: r) (.int x :: st) w k n := x_istore hd hn hc rfl kk
theorem x_inc8 {a0 a1 a2 a3 a4 a5 a6 a7 : Option Value} {r : List (Option Value)} {x d : Int} (hd : decode mi.2.1 pc = .ok (.iinc 8 d, 3)) (kk : EX mi mc ms SC Z (pc + 3) (a0 :: a1 :: a2 :: a3 :: a4 :: a5 :: a6 :: a7 :: some (.int (iI (x + d))) :: r) st w k n) (hn : 8 < mi.2.2.1 := by decide) (hc : okb (a0 :: a1 :: a2 :: a3 :: a4 :: a5 :: a6 :: a7 :: some (.int (iI x)) :: r) 8 = true := by rfl) : EX mi mc ms SC Z pc (a0 :: a1 :: a2 :: a3 :: a4 :: a5 :: a6 :: a7 :: some (.int (iI x)) :: r) st w k n := x_iinc hd rfl hn hc rfl kk
theorem x_ist9 {a0 a1 a2 a3 a4 a5 a6 a7 a8 a9 : Option Value} {r : List (Option Value)} {x : Int32} (hd : decode mi.2.1 pc = .ok (.istore 9, 2)) (kk : EX mi mc ms SC Z (pc + 2) (a0 :: a1 :: a2 :: a3 :: a4 :: a5 :: a6 :: a7 :: a8 :: some (.int x) :: r) st w k n) (hn : 9 < mi.2.2.1 := by decide) (hc : okb (a0 :: a1 :: a2 :: a3 :: a4 :: a5 :: a6 :: a7 :: a8 :: a9 :: r) 9 = true := by rfl) : EX mi mc ms SC Z pc (a0 :: a1 :: a2 :: a3 :: a4 :: a5 :: a6 :: a7 :: a8 :: a9 :: r) (.int x :: st) w k n := x_istore hd hn hc rfl kk
theorem x_inc9 {a0 a1 a2 a3 a4 a5 a6 a7 a8 : Option Value} {r : List (Option Value)} {x d : Int} (hd : decode mi.2.1 pc = .ok (.iinc 9 d, 3)) (kk : EX mi mc ms SC Z (pc + 3) (a0 :: a1 :: a2 :: a3 :: a4 :: a5 :: a6 :: a7 :: a8 :: some (.int (iI (x + d))) :: r) st w k n) (hn : 9 < mi.2.2.1 := by decide) (hc : okb (a0 :: a1 :: a2 :: a3 :: a4 :: a5 :: a6 :: a7 :: a8 :: some (.int (iI x)) :: r) 9 = true := by rfl) : EX mi mc ms SC Z pc (a0 :: a1 :: a2 :: a3 :: a4 :: a5 :: a6 :: a7 :: a8 :: some (.int (iI x)) :: r) st w k n := x_iinc hd rfl hn hc rfl kk
theorem x_iadd {x y : Int} (hd : decode mi.2.1 pc = .ok (.iadd, 1)) (kk : EX mi mc ms SC Z (pc + 1) ls (.int (iI (x + y)) :: st) w k n) : EX mi mc ms SC Z pc ls (.int (iI y) :: .int (iI x) :: st) w k n := by
  intro p l e s m args below meth c D dA S b H locs la hk hE hw hS hl
  have k1 := kk p l e s m args below meth c D dA S b H locs la hk hE hw hS hl
  rw [← iI_add] at k1
  exact lv_iadd hk.1 hk.2.1 hd k1
theorem x_isub {x y : Int} (hd : decode mi.2.1 pc = .ok (.isub, 1)) (kk : EX mi mc ms SC Z (pc + 1) ls (.int (iI (x - y)) :: st) w k n) : EX mi mc ms SC Z pc ls (.int (iI y) :: .int (iI x) :: st) w k n := by
  intro p l e s m args below meth c D dA S b H locs la hk hE hw hS hl
  have k1 := kk p l e s m args below meth c D dA S b H locs la hk hE hw hS hl
  rw [← iI_sub] at k1
  exact lv_isub hk.1 hk.2.1 hd k1
theorem x_imul {x y : Int} (hd : decode mi.2.1 pc = .ok (.imul, 1)) (kk : EX mi mc ms SC Z (pc + 1) ls (.int (iI (x * y)) :: st) w k n) : EX mi mc ms SC Z pc ls (.int (iI y) :: .int (iI x) :: st) w k n := by
  intro p l e s m args below meth c D dA S b H locs la hk hE hw hS hl
  have k1 := kk p l e s m args below meth c D dA S b H locs la hk hE hw hS hl
  rw [← iI_mul] at k1
  exact lv_imul hk.1 hk.2.1 hd k1
theorem x_idiv {x y : Int} (hd : decode mi.2.1 pc = .ok (.idiv, 1)) (kk : EX mi mc ms SC Z (pc + 1) ls (.int (iI (x / y)) :: st) w k n) (h1 : 0 ≤ x := by omega) (h2 : x ≤ 2147483647 := by omega) (h3 : 0 < y := by omega) (h4 : y ≤ 2147483647 := by omega) : EX mi mc ms SC Z pc ls (.int (iI y) :: .int (iI x) :: st) w k n := by
  intro p l e s m args below meth c D dA S b H locs la hk hE hw hS hl
  have k1 := kk p l e s m args below meth c D dA S b H locs la hk hE hw hS hl
  rw [← iI_div ⟨by omega, h2⟩ h1 ⟨by omega, h4⟩ h3] at k1
  exact lv_idiv hk.1 hk.2.1 hd (fun h => by rw [iI_eq0 ⟨by omega, h4⟩] at h; omega) k1
theorem x_irem {x y : Int} (hd : decode mi.2.1 pc = .ok (.irem, 1)) (kk : EX mi mc ms SC Z (pc + 1) ls (.int (iI (x % y)) :: st) w k n) (h1 : 0 ≤ x := by omega) (h2 : x ≤ 2147483647 := by omega) (h3 : 0 < y := by omega) (h4 : y ≤ 2147483647 := by omega) : EX mi mc ms SC Z pc ls (.int (iI y) :: .int (iI x) :: st) w k n := by
  intro p l e s m args below meth c D dA S b H locs la hk hE hw hS hl
  have k1 := kk p l e s m args below meth c D dA S b H locs la hk hE hw hS hl
  rw [← iI_rem ⟨by omega, h2⟩ h1 ⟨by omega, h4⟩ h3] at k1
  exact lv_irem hk.1 hk.2.1 hd (fun h => by rw [iI_eq0 ⟨by omega, h4⟩] at h; omega) k1
theorem x_iand {x y : Int32} {v : Int} (hd : decode mi.2.1 pc = .ok (.iand, 1)) (hv : x &&& y = iI v) (kk : EX mi mc ms SC Z (pc + 1) ls (.int (iI v) :: st) w k n) : EX mi mc ms SC Z pc ls (.int y :: .int x :: st) w k n := by
  intro p l e s m args below meth c D dA S b H locs la hk hE hw hS hl
  have k1 := kk p l e s m args below meth c D dA S b H locs la hk hE hw hS hl
  rw [← hv] at k1
  exact lv_iand hk.1 hk.2.1 hd k1
theorem x_ior {x y : Int32} {v : Int} (hd : decode mi.2.1 pc = .ok (.ior, 1)) (hv : x ||| y = iI v) (kk : EX mi mc ms SC Z (pc + 1) ls (.int (iI v) :: st) w k n) : EX mi mc ms SC Z pc ls (.int y :: .int x :: st) w k n := by
  intro p l e s m args below meth c D dA S b H locs la hk hE hw hS hl
  have k1 := kk p l e s m args below meth c D dA S b H locs la hk hE hw hS hl
  rw [← hv] at k1
  exact lv_ior hk.1 hk.2.1 hd k1
theorem x_ixor {x y : Int32} {v : Int} (hd : decode mi.2.1 pc = .ok (.ixor, 1)) (hv : x ^^^ y = iI v) (kk : EX mi mc ms SC Z (pc + 1) ls (.int (iI v) :: st) w k n) : EX mi mc ms SC Z pc ls (.int y :: .int x :: st) w k n := by
  intro p l e s m args below meth c D dA S b H locs la hk hE hw hS hl
  have k1 := kk p l e s m args below meth c D dA S b H locs la hk hE hw hS hl
  rw [← hv] at k1
  exact lv_ixor hk.1 hk.2.1 hd k1
theorem x_ishl {x y : Int32} {v : Int} (hd : decode mi.2.1 pc = .ok (.ishl, 1)) (hv : x <<< (y &&& 31) = iI v) (kk : EX mi mc ms SC Z (pc + 1) ls (.int (iI v) :: st) w k n) : EX mi mc ms SC Z pc ls (.int y :: .int x :: st) w k n := by
  intro p l e s m args below meth c D dA S b H locs la hk hE hw hS hl
  have k1 := kk p l e s m args below meth c D dA S b H locs la hk hE hw hS hl
  rw [← hv] at k1
  exact lv_ishl hk.1 hk.2.1 hd k1
theorem x_ishr {x y : Int32} {v : Int} (hd : decode mi.2.1 pc = .ok (.ishr, 1)) (hv : x >>> (y &&& 31) = iI v) (kk : EX mi mc ms SC Z (pc + 1) ls (.int (iI v) :: st) w k n) : EX mi mc ms SC Z pc ls (.int y :: .int x :: st) w k n := by
  intro p l e s m args below meth c D dA S b H locs la hk hE hw hS hl
  have k1 := kk p l e s m args below meth c D dA S b H locs la hk hE hw hS hl
  rw [← hv] at k1
  exact lv_ishr hk.1 hk.2.1 hd k1
theorem x_iushr {x y : Int32} {v : Int} (hd : decode mi.2.1 pc = .ok (.iushr, 1)) (hv : (x.toUInt32 >>> (y.toUInt32 &&& Int32.toUInt32 31)).toInt32 = iI v) (kk : EX mi mc ms SC Z (pc + 1) ls (.int (iI v) :: st) w k n) : EX mi mc ms SC Z pc ls (.int y :: .int x :: st) w k n := by
  intro p l e s m args below meth c D dA S b H locs la hk hE hw hS hl
  exact lv_iushr hk.1 hk.2.1 hd hv (kk p l e s m args below meth c D dA S b H locs la hk hE hw hS hl)
theorem x_i2b {x : Int32} {v : Int} (hd : decode mi.2.1 pc = .ok (.i2b, 1)) (hv : x.toInt8.toInt32 = iI v) (kk : EX mi mc ms SC Z (pc + 1) ls (.int (iI v) :: st) w k n) : EX mi mc ms SC Z pc ls (.int x :: st) w k n := by
  intro p l e s m args below meth c D dA S b H locs la hk hE hw hS hl
  exact lv_i2b hk.1 hk.2.1 hd hv (kk p l e s m args below meth c D dA S b H locs la hk hE hw hS hl)
theorem x_i2s {x : Int32} {v : Int} (hd : decode mi.2.1 pc = .ok (.i2s, 1)) (hv : x.toInt16.toInt32 = iI v) (kk : EX mi mc ms SC Z (pc + 1) ls (.int (iI v) :: st) w k n) : EX mi mc ms SC Z pc ls (.int x :: st) w k n := by
  intro p l e s m args below meth c D dA S b H locs la hk hE hw hS hl
  exact lv_i2s hk.1 hk.2.1 hd hv (kk p l e s m args below meth c D dA S b H locs la hk hE hw hS hl)
theorem x_i2l {x : Int} (hd : decode mi.2.1 pc = .ok (.i2l, 1)) (kk : EX mi mc ms SC Z (pc + 1) ls (.long (lI x) :: st) w k n) (hx : inR x := by omega) : EX mi mc ms SC Z pc ls (.int (iI x) :: st) w k n := by
  intro p l e s m args below meth c D dA S b H locs la hk hE hw hS hl
  exact lv_i2l hk.1 hk.2.1 hd (iI_64 hx) (kk p l e s m args below meth c D dA S b H locs la hk hE hw hS hl)
theorem x_i2lr {x : Int32} (hd : decode mi.2.1 pc = .ok (.i2l, 1)) (kk : EX mi mc ms SC Z (pc + 1) ls (.long x.toInt64 :: st) w k n) : EX mi mc ms SC Z pc ls (.int x :: st) w k n := by
  intro p l e s m args below meth c D dA S b H locs la hk hE hw hS hl
  exact lv_i2l hk.1 hk.2.1 hd rfl (kk p l e s m args below meth c D dA S b H locs la hk hE hw hS hl)
theorem x_l2i {x : Int64} {v : Int} (hd : decode mi.2.1 pc = .ok (.l2i, 1)) (hv : x.toInt32 = iI v) (kk : EX mi mc ms SC Z (pc + 1) ls (.int (iI v) :: st) w k n) : EX mi mc ms SC Z pc ls (.long x :: st) w k n := by
  intro p l e s m args below meth c D dA S b H locs la hk hE hw hS hl
  exact lv_l2i hk.1 hk.2.1 hd hv (kk p l e s m args below meth c D dA S b H locs la hk hE hw hS hl)
theorem x_l2ir {x : Int64} (hd : decode mi.2.1 pc = .ok (.l2i, 1)) (kk : EX mi mc ms SC Z (pc + 1) ls (.int x.toInt32 :: st) w k n) : EX mi mc ms SC Z pc ls (.long x :: st) w k n := by
  intro p l e s m args below meth c D dA S b H locs la hk hE hw hS hl
  exact lv_l2i hk.1 hk.2.1 hd rfl (kk p l e s m args below meth c D dA S b H locs la hk hE hw hS hl)
theorem x_land {x y : Int64} (hd : decode mi.2.1 pc = .ok (.land, 1)) (kk : EX mi mc ms SC Z (pc + 1) ls (.long (x &&& y) :: st) w k n) : EX mi mc ms SC Z pc ls (.long y :: .long x :: st) w k n := by
  intro p l e s m args below meth c D dA S b H locs la hk hE hw hS hl
  exact lv_land hk.1 hk.2.1 hd (kk p l e s m args below meth c D dA S b H locs la hk hE hw hS hl)
theorem x_lor {x y : Int64} (hd : decode mi.2.1 pc = .ok (.lor, 1)) (kk : EX mi mc ms SC Z (pc + 1) ls (.long (x ||| y) :: st) w k n) : EX mi mc ms SC Z pc ls (.long y :: .long x :: st) w k n := by
  intro p l e s m args below meth c D dA S b H locs la hk hE hw hS hl
  exact lv_lor hk.1 hk.2.1 hd (kk p l e s m args below meth c D dA S b H locs la hk hE hw hS hl)
theorem x_lshl {x : Int64} {y : Int32} (hd : decode mi.2.1 pc = .ok (.lshl, 1)) (kk : EX mi mc ms SC Z (pc + 1) ls (.long (x <<< (y.toInt64 &&& 63)) :: st) w k n) : EX mi mc ms SC Z pc ls (.int y :: .long x :: st) w k n := by
  intro p l e s m args below meth c D dA S b H locs la hk hE hw hS hl
  exact lv_lshl hk.1 hk.2.1 hd rfl (kk p l e s m args below meth c D dA S b H locs la hk hE hw hS hl)
theorem x_lshr {x : Int64} {y : Int32} (hd : decode mi.2.1 pc = .ok (.lshr, 1)) (kk : EX mi mc ms SC Z (pc + 1) ls (.long (x >>> (y.toInt64 &&& 63)) :: st) w k n) : EX mi mc ms SC Z pc ls (.int y :: .long x :: st) w k n := by
  intro p l e s m args below meth c D dA S b H locs la hk hE hw hS hl
  exact lv_lshr hk.1 hk.2.1 hd rfl (kk p l e s m args below meth c D dA S b H locs la hk hE hw hS hl)
theorem x_lushr {x : Int64} {y : Int32} (hd : decode mi.2.1 pc = .ok (.lushr, 1)) (kk : EX mi mc ms SC Z (pc + 1) ls (.long ((x.toUInt64 >>> (y.toInt64.toUInt64 &&& Int64.toUInt64 63)).toInt64) :: st) w k n) : EX mi mc ms SC Z pc ls (.int y :: .long x :: st) w k n := by
  intro p l e s m args below meth c D dA S b H locs la hk hE hw hS hl
  exact lv_lushr hk.1 hk.2.1 hd rfl (kk p l e s m args below meth c D dA S b H locs la hk hE hw hS hl)
theorem x_lcmp {x y : Int} (hd : decode mi.2.1 pc = .ok (.lcmp, 1)) (kk : EX mi mc ms SC Z (pc + 1) ls (.int (iI (cmpI x y)) :: st) w k n) (hx : inR x := by omega) (hy : inR y := by omega) : EX mi mc ms SC Z pc ls (.long (lI y) :: .long (lI x) :: st) w k n := by
  intro p l e s m args below meth c D dA S b H locs la hk hE hw hS hl
  have k1 := kk p l e s m args below meth c D dA S b H locs la hk hE hw hS hl
  rw [← lI_cmp hx hy] at k1
  exact W.lcmp hk.1 hk.2.1 hd k1
theorem x_dup {v : Value} (hd : decode mi.2.1 pc = .ok (.dup, 1)) (kk : EX mi mc ms SC Z (pc + 1) ls (v :: v :: st) w k n) (h1 : v.category = 1 := by rfl) : EX mi mc ms SC Z pc ls (v :: st) w k n := by
  intro p l e s m args below meth c D dA S b H locs la hk hE hw hS hl
  exact lv_dup hk.1 hk.2.1 hd (by rw [cv_cat]; exact h1) (kk p l e s m args below meth c D dA S b H locs la hk hE hw hS hl)
theorem x_pop {v : Value} (hd : decode mi.2.1 pc = .ok (.pop, 1)) (kk : EX mi mc ms SC Z (pc + 1) ls st w k n) (h1 : v.category = 1 := by rfl) : EX mi mc ms SC Z pc ls (v :: st) w k n := by
  intro p l e s m args below meth c D dA S b H locs la hk hE hw hS hl
  exact lv_pop hk.1 hk.2.1 hd (by rw [cv_cat]; exact h1) (kk p l e s m args below meth c D dA S b H locs la hk hE hw hS hl)
theorem x_dup2 {v u : Value} (hd : decode mi.2.1 pc = .ok (.dup2, 1)) (kk : EX mi mc ms SC Z (pc + 1) ls (v :: u :: v :: u :: st) w k n) (h1 : v.category = 1 := by rfl) (h2 : u.category = 1 := by rfl) : EX mi mc ms SC Z pc ls (v :: u :: st) w k n := by
  intro p l e s m args below meth c D dA S b H locs la hk hE hw hS hl
  exact lv_dup2_11 hk.1 hk.2.1 hd (by rw [cv_cat]; exact h1) (by rw [cv_cat]; exact h2) (kk p l e s m args below meth c D dA S b H locs la hk hE hw hS hl)
theorem x_if_eq {x off : Int} (tgt : Nat) (hd : decode mi.2.1 pc = .ok (.ifCond .eq off, 3)) (kt : x = 0 → EX mi mc ms SC Z tgt ls st w k n) (kf : ¬ x = 0 → EX mi mc ms SC Z (pc + 3) ls st w k n) (ht : (pc : Int) + off = (tgt : Int) := by decide) (ha : inR x := by omega) : EX mi mc ms SC Z pc ls (.int (iI x) :: st) w k n := by
  intro p l e s m args below meth c D dA S b H locs la hk hE hw hS hl
  exact lv_if_eq hk.1 hk.2.1 hd ht (fun h => kt ((iI_eq0 ha).mp h) p l e s m args below meth c D dA S b H locs la hk hE hw hS hl) (fun h => kf (fun q => h ((iI_eq0 ha).mpr q)) p l e s m args below meth c D dA S b H locs la hk hE hw hS hl)
theorem x_icmp_eq {x y off : Int} (tgt : Nat) (hd : decode mi.2.1 pc = .ok (.if_icmp .eq off, 3)) (kt : x = y → EX mi mc ms SC Z tgt ls st w k n) (kf : ¬ x = y → EX mi mc ms SC Z (pc + 3) ls st w k n) (ht : (pc : Int) + off = (tgt : Int) := by decide) (ha : inR x := by omega) (hb : inR y := by omega) : EX mi mc ms SC Z pc ls (.int (iI y) :: .int (iI x) :: st) w k n := by
  intro p l e s m args below meth c D dA S b H locs la hk hE hw hS hl
  exact lv_icmp_eq hk.1 hk.2.1 hd ht (fun h => kt ((iI_eq ha hb).mp h) p l e s m args below meth c D dA S b H locs la hk hE hw hS hl) (fun h => kf (fun q => h ((iI_eq ha hb).mpr q)) p l e s m args below meth c D dA S b H locs la hk hE hw hS hl)
theorem x_if_lt {x off : Int} (tgt : Nat) (hd : decode mi.2.1 pc = .ok (.ifCond .lt off, 3)) (kt : x < 0 → EX mi mc ms SC Z tgt ls st w k n) (kf : ¬ x < 0 → EX mi mc ms SC Z (pc + 3) ls st w k n) (ht : (pc : Int) + off = (tgt : Int) := by decide) (ha : inR x := by omega) : EX mi mc ms SC Z pc ls (.int (iI x) :: st) w k n := by
  intro p l e s m args below meth c D dA S b H locs la hk hE hw hS hl
  exact lv_if_lt hk.1 hk.2.1 hd ht (fun h => kt ((iI_lt0 ha).mp h) p l e s m args below meth c D dA S b H locs la hk hE hw hS hl) (fun h => kf (fun q => h ((iI_lt0 ha).mpr q)) p l e s m args below meth c D dA S b H locs la hk hE hw hS hl)
theorem x_icmp_lt {x y off : Int} (tgt : Nat) (hd : decode mi.2.1 pc = .ok (.if_icmp .lt off, 3)) (kt : x < y → EX mi mc ms SC Z tgt ls st w k n) (kf : ¬ x < y → EX mi mc ms SC Z (pc + 3) ls st w k n) (ht : (pc : Int) + off = (tgt : Int) := by decide) (ha : inR x := by omega) (hb : inR y := by omega) : EX mi mc ms SC Z pc ls (.int (iI y) :: .int (iI x) :: st) w k n := by
  intro p l e s m args below meth c D dA S b H locs la hk hE hw hS hl
  exact lv_icmp_lt hk.1 hk.2.1 hd ht (fun h => kt ((iI_lt ha hb).mp h) p l e s m args below meth c D dA S b H locs la hk hE hw hS hl) (fun h => kf (fun q => h ((iI_lt ha hb).mpr q)) p l e s m args below meth c D dA S b H locs la hk hE hw hS hl)
theorem x_if_ge {x off : Int} (tgt : Nat) (hd : decode mi.2.1 pc = .ok (.ifCond .ge off, 3)) (kt : 0 ≤ x → EX mi mc ms SC Z tgt ls st w k n) (kf : ¬ 0 ≤ x → EX mi mc ms SC Z (pc + 3) ls st w k n) (ht : (pc : Int) + off = (tgt : Int) := by decide) (ha : inR x := by omega) : EX mi mc ms SC Z pc ls (.int (iI x) :: st) w k n := by
  intro p l e s m args below meth c D dA S b H locs la hk hE hw hS hl
  exact lv_if_ge hk.1 hk.2.1 hd ht (fun h => kt ((iI_0le ha).mp h) p l e s m args below meth c D dA S b H locs la hk hE hw hS hl) (fun h => kf (fun q => h ((iI_0le ha).mpr q)) p l e s m args below meth c D dA S b H locs la hk hE hw hS hl)
theorem x_icmp_ge {x y off : Int} (tgt : Nat) (hd : decode mi.2.1 pc = .ok (.if_icmp .ge off, 3)) (kt : y ≤ x → EX mi mc ms SC Z tgt ls st w k n) (kf : ¬ y ≤ x → EX mi mc ms SC Z (pc + 3) ls st w k n) (ht : (pc : Int) + off = (tgt : Int) := by decide) (ha : inR x := by omega) (hb : inR y := by omega) : EX mi mc ms SC Z pc ls (.int (iI y) :: .int (iI x) :: st) w k n := by
  intro p l e s m args below meth c D dA S b H locs la hk hE hw hS hl
  exact lv_icmp_ge hk.1 hk.2.1 hd ht (fun h => kt ((iI_le hb ha).mp h) p l e s m args below meth c D dA S b H locs la hk hE hw hS hl) (fun h => kf (fun q => h ((iI_le hb ha).mpr q)) p l e s m args below meth c D dA S b H locs la hk hE hw hS hl)
theorem x_if_gt {x off : Int} (tgt : Nat) (hd : decode mi.2.1 pc = .ok (.ifCond .gt off, 3)) (kt : 0 < x → EX mi mc ms SC Z tgt ls st w k n) (kf : ¬ 0 < x → EX mi mc ms SC Z (pc + 3) ls st w k n) (ht : (pc : Int) + off = (tgt : Int) := by decide) (ha : inR x := by omega) : EX mi mc ms SC Z pc ls (.int (iI x) :: st) w k n := by
  intro p l e s m args below meth c D dA S b H locs la hk hE hw hS hl
  exact lv_if_gt hk.1 hk.2.1 hd ht (fun h => kt ((iI_0lt ha).mp h) p l e s m args below meth c D dA S b H locs la hk hE hw hS hl) (fun h => kf (fun q => h ((iI_0lt ha).mpr q)) p l e s m args below meth c D dA S b H locs la hk hE hw hS hl)
theorem x_icmp_gt {x y off : Int} (tgt : Nat) (hd : decode mi.2.1 pc = .ok (.if_icmp .gt off, 3)) (kt : y < x → EX mi mc ms SC Z tgt ls st w k n) (kf : ¬ y < x → EX mi mc ms SC Z (pc + 3) ls st w k n) (ht : (pc : Int) + off = (tgt : Int) := by decide) (ha : inR x := by omega) (hb : inR y := by omega) : EX mi mc ms SC Z pc ls (.int (iI y) :: .int (iI x) :: st) w k n := by
  intro p l e s m args below meth c D dA S b H locs la hk hE hw hS hl
  exact lv_icmp_gt hk.1 hk.2.1 hd ht (fun h => kt ((iI_lt hb ha).mp h) p l e s m args below meth c D dA S b H locs la hk hE hw hS hl) (fun h => kf (fun q => h ((iI_lt hb ha).mpr q)) p l e s m args below meth c D dA S b H locs la hk hE hw hS hl)
theorem x_if_le {x off : Int} (tgt : Nat) (hd : decode mi.2.1 pc = .ok (.ifCond .le off, 3)) (kt : x ≤ 0 → EX mi mc ms SC Z tgt ls st w k n) (kf : ¬ x ≤ 0 → EX mi mc ms SC Z (pc + 3) ls st w k n) (ht : (pc : Int) + off = (tgt : Int) := by decide) (ha : inR x := by omega) : EX mi mc ms SC Z pc ls (.int (iI x) :: st) w k n := by
  intro p l e s m args below meth c D dA S b H locs la hk hE hw hS hl
  exact lv_if_le hk.1 hk.2.1 hd ht (fun h => kt ((iI_le0 ha).mp h) p l e s m args below meth c D dA S b H locs la hk hE hw hS hl) (fun h => kf (fun q => h ((iI_le0 ha).mpr q)) p l e s m args below meth c D dA S b H locs la hk hE hw hS hl)
theorem x_icmp_le {x y off : Int} (tgt : Nat) (hd : decode mi.2.1 pc = .ok (.if_icmp .le off, 3)) (kt : x ≤ y → EX mi mc ms SC Z tgt ls st w k n) (kf : ¬ x ≤ y → EX mi mc ms SC Z (pc + 3) ls st w k n) (ht : (pc : Int) + off = (tgt : Int) := by decide) (ha : inR x := by omega) (hb : inR y := by omega) : EX mi mc ms SC Z pc ls (.int (iI y) :: .int (iI x) :: st) w k n := by
  intro p l e s m args below meth c D dA S b H locs la hk hE hw hS hl
  exact lv_icmp_le hk.1 hk.2.1 hd ht (fun h => kt ((iI_le ha hb).mp h) p l e s m args below meth c D dA S b H locs la hk hE hw hS hl) (fun h => kf (fun q => h ((iI_le ha hb).mpr q)) p l e s m args below meth c D dA S b H locs la hk hE hw hS hl)
theorem x_if_ne {x off : Int} (tgt : Nat) (hd : decode mi.2.1 pc = .ok (.ifCond .ne off, 3)) (kt : ¬ x = 0 → EX mi mc ms SC Z tgt ls st w k n) (kf : x = 0 → EX mi mc ms SC Z (pc + 3) ls st w k n) (ht : (pc : Int) + off = (tgt : Int) := by decide) (ha : inR x := by omega) : EX mi mc ms SC Z pc ls (.int (iI x) :: st) w k n := by
  intro p l e s m args below meth c D dA S b H locs la hk hE hw hS hl
  exact lv_if_ne hk.1 hk.2.1 hd ht (fun h => kt (fun q => h ((iI_eq0 ha).mpr q)) p l e s m args below meth c D dA S b H locs la hk hE hw hS hl) (fun h => kf ((iI_eq0 ha).mp h) p l e s m args below meth c D dA S b H locs la hk hE hw hS hl)
theorem x_icmp_ne {x y off : Int} (tgt : Nat) (hd : decode mi.2.1 pc = .ok (.if_icmp .ne off, 3)) (kt : ¬ x = y → EX mi mc ms SC Z tgt ls st w k n) (kf : x = y → EX mi mc ms SC Z (pc + 3) ls st w k n) (ht : (pc : Int) + off = (tgt : Int) := by decide) (ha : inR x := by omega) (hb : inR y := by omega) : EX mi mc ms SC Z pc ls (.int (iI y) :: .int (iI x) :: st) w k n := by
  intro p l e s m args below meth c D dA S b H locs la hk hE hw hS hl
  exact lv_icmp_ne hk.1 hk.2.1 hd ht (fun h => kt (fun q => h ((iI_eq ha hb).mpr q)) p l e s m args below meth c D dA S b H locs la hk hE hw hS hl) (fun h => kf ((iI_eq ha hb).mp h) p l e s m args below meth c D dA S b H locs la hk hE hw hS hl)
theorem x_goto {off : Int} (tgt : Nat) (hd : decode mi.2.1 pc = .ok (.goto off, 3)) (kk : EX mi mc ms SC Z tgt ls st w k n) (ht : (pc : Int) + off = (tgt : Int) := by decide) : EX mi mc ms SC Z pc ls st w k n := by
  intro p l e s m args below meth c D dA S b H locs la hk hE hw hS hl
  exact lv_goto hk.1 hk.2.1 hd ht (kk p l e s m args below meth c D dA S b H locs la hk hE hw hS hl)
theorem x_tsOut {dflt lo hi : Int} {offs : Array Int} {len : Nat} {x : Int} (tgt : Nat) (hd : decode mi.2.1 pc = .ok (.tableswitch dflt lo hi offs, len)) (h : x < lo ∨ hi < x) (kk : EX mi mc ms SC Z tgt ls st w k n) (ht : (pc : Int) + dflt = (tgt : Int) := by decide) (ha : inR x := by omega) : EX mi mc ms SC Z pc ls (.int (iI x) :: st) w k n := by
  intro p l e s m args below meth c D dA S b H locs la hk hE hw hS hl
  exact lv_tableOut hk.1 hk.2.1 hd (by rw [iI_t ha]; exact h) ht (kk p l e s m args below meth c D dA S b H locs la hk hE hw hS hl)
theorem x_tsIn {dflt lo hi off : Int} {offs : Array Int} {len : Nat} {x : Int} (j tgt : Nat) (hd : decode mi.2.1 pc = .ok (.tableswitch dflt lo hi offs, len)) (hx : x = lo + (j : Int)) (kk : EX mi mc ms SC Z tgt ls st w k n) (h2 : lo + (j : Int) ≤ hi := by decide) (ho : offs[j]? = some off := by rfl) (ht : (pc : Int) + off = (tgt : Int) := by decide) (ha : inR x := by omega) : EX mi mc ms SC Z pc ls (.int (iI x) :: st) w k n := by
  intro p l e s m args below meth c D dA S b H locs la hk hE hw hS hl
  exact lv_tableIn hk.1 hk.2.1 hd (by rw [iI_t ha]; omega) (by rw [iI_t ha]; omega) (by rw [iI_t ha, hx, show lo + (j : Int) - lo = (j : Int) by omega]; exact ho) ht (kk p l e s m args below meth c D dA S b H locs la hk hE hw hS hl)
theorem x_lookup {dflt : Int} {ps : Array (Int × Int)} {len : Nat} {x off : Int} (tgt : Nat) (hd : decode mi.2.1 pc = .ok (.lookupswitch dflt ps, len)) (ho : Op.lookupswitch.offset ps.toList dflt x = off) (kk : EX mi mc ms SC Z tgt ls st w k n) (hp : (ps.toList.zip (ps.toList.drop 1)).all (fun (a, next) => a.1 < next.1) = true := by decide) (ht : (pc : Int) + off = (tgt : Int) := by decide) (ha : inR x := by omega) : EX mi mc ms SC Z pc ls (.int (iI x) :: st) w k n := by
  intro p l e s m args below meth c D dA S b H locs la hk hE hw hS hl
  exact lv_lookup hk.1 hk.2.1 hd hp (by rw [iI_t ha]; exact ho) ht (kk p l e s m args below meth c D dA S b H locs la hk hE hw hS hl)
end RULES
section RULES2
variable {mi : MI} {mc ms : Nat} {SC : Option (Nat × (Nat → Int32))} {Z : Zt} {pc : Nat} {ls : List (Option Value)} {st : List Value} {w : AW} {k n : Nat}
theorem x_iret {R : Int → AW → Prop} {x : Int} (hd : decode mi.2.1 pc = .ok (.ireturn, 1)) (hq : R x w) (hr : mi.2.2.2.1 = some .int := by rfl) (hkm : k = mc := by rfl) (hnm : n ≤ ms := by omega) : EX mi mc ms SC (ZM mc ms (fun r w' => ∃ x : Int, r = some (.int (iI x)) ∧ R x w')) pc ls [.int (iI x)] w k n := by
  intro p l e s m args below meth c D dA S b H locs la hk hE hw hS hl
  refine W.widen (k := mc) (n := ms) (by omega) hnm ?_
  have hlk : meth.locks = false := hk.2.2.2.2.1
  exact W.iret (v := iI x) hk.1 hk.2.1 (hk.2.2.1.trans hr) (fun t ht hW => ⟨⟨some (.int (iI x)), w, rfl, ⟨x, rfl, hq⟩, by rw [ht]; exact hw, by rw [hkm] at hE; exact hE.symm⟩, hS.F ht⟩) hS.2.2 hd hlk
theorem nar_z {x : Int} (h : x = 0 ∨ x = 1) : narrow .boolean (.int (iI x)) = .int (iI x) := by
  rcases h with rfl | rfl <;> rfl
theorem x_zret {R : Int → AW → Prop} {x : Int} (hd : decode mi.2.1 pc = .ok (.ireturn, 1)) (hx : x = 0 ∨ x = 1) (hq : R x w) (hr : mi.2.2.2.1 = some .boolean := by rfl) (hkm : k = mc := by rfl) (hnm : n ≤ ms := by omega) : EX mi mc ms SC (ZM mc ms (fun r w' => ∃ x : Int, r = some (.int (iI x)) ∧ R x w')) pc ls [.int (iI x)] w k n := by
  intro p l e s m args below meth c D dA S b H locs la hk hE hw hS hl
  refine W.widen (k := mc) (n := ms) (by omega) hnm ?_
  have hlk : meth.locks = false := hk.2.2.2.2.1
  exact W.zret (v := iI x) hk.1 hk.2.1 (hk.2.2.1.trans hr) (nar_z hx) (fun t ht hW => ⟨⟨some (.int (iI x)), w, rfl, ⟨x, rfl, hq⟩, by rw [ht]; exact hw, by rw [hkm] at hE; exact hE.symm⟩, hS.F ht⟩) hS.2.2 hd hlk
theorem x_vret {R : AW → Prop} (hd : decode mi.2.1 pc = .ok (.return_, 1)) (hq : R w) (hr : mi.2.2.2.1 = none := by rfl) (hkm : k = mc := by rfl) (hnm : n ≤ ms := by omega) : EX mi mc ms SC (ZM mc ms (fun r w' => r = none ∧ R w')) pc ls [] w k n := by
  intro p l e s m args below meth c D dA S b H locs la hk hE hw hS hl
  refine W.widen (k := mc) (n := ms) (by omega) hnm ?_
  have hlk : meth.locks = false := hk.2.2.2.2.1
  exact W.vret hk.1 hk.2.1 (hk.2.2.1.trans hr) (fun t ht hW => ⟨⟨none, w, rfl, ⟨rfl, hq⟩, by rw [ht]; exact hw, by rw [hkm] at hE; exact hE.symm⟩, hS.F ht⟩) hS.2.2 hd hlk
end RULES2
end
section
/-! ===== rules that read and write cells, make cells, call ===== -/
def FL (own : String) (idx ci q : Nat) (ty : FieldType) (fin : Bool) : Prop :=
  ∃ (C : String) (T : u_T) (N : Nat) (ty0 : Nat → FieldType), vwCl[ci]? = some (C, T, N) ∧ q < N ∧ (∀ w ∈ u_ws C T N, w ∈ TB) ∧ (∀ j, j < N → parseFieldDescriptor (T j).2.2.1 = some (ty0 j)) ∧ (∀ a, a < N → ∀ b, b < N → a ≠ b → (T a).2.1 ≠ (T b).2.1) ∧ ty0 q = ty ∧ (T q).2.2.2 = fin ∧ (fin = true → (T q).1 = own) ∧
    (Cond.fieldLink own idx (T q).1 (T q).2.1 (T q).2.2.1 ∈ TB ∨ (fin = false ∧ ∃ host, (own, idx, (T q).1, (T q).2.1, (T q).2.2.1, host) ∈ NF))
def FG (own : String) (idx ci q : Nat) : Prop :=
  ∃ (C : String) (T : u_T) (N : Nat), vwCl[ci]? = some (C, T, N) ∧ q < N ∧ (∀ w ∈ u_ws C T N, w ∈ TB) ∧
    (Cond.fieldLink own idx (T q).1 (T q).2.1 (T q).2.2.1 ∈ TB ∨ (∃ host, (own, idx, (T q).1, (T q).2.1, (T q).2.2.1, host) ∈ NF))
def aI (t n : Nat) (f : Nat → Int) : AC := .inl (t, n, .inl (fun j => iI (f j)))
def aR (n : Nat) (f : Nat → Option Nat) : AC := .inl (2, n, .inr (.inr (.inr (.inr f))))
def MLk (own : String) (idx : Nat) (y : MethodName) : Prop := Cond.methodLink own idx y ∈ TB ∨ ∃ host, (own, idx, y, host) ∈ NM
def MOk (mi : MI) (na : Nat) : Prop := Cond.code mi.1 mi.2.1 mi.2.2.1 mi.2.2.2.1 ∈ TB ∧ Cond.initialized mi.1.cls ∈ TB ∧ (mi.1.cls ≠ "java/lang/invoke/MethodHandle" ∧ mi.1.cls ≠ "java/lang/invoke/VarHandle" ∧ (parseMethodDescriptor mi.1.desc).map (fun d => d.parameters.length) = some na)
def MSt (mi : MI) (na : Nat) : Prop := MOk mi na ∧ Cond.static mi.1 ∈ TB
def MVt (mi : MI) (na ci : Nat) : Prop := MOk mi na ∧ Cond.instanceMethod mi.1 ∈ TB ∧ Cond.selects mi.1.cls mi.1 mi.1 ∈ TB ∧ ∃ (T : u_T) (N : Nat), vwCl[ci]? = some (mi.1.cls, T, N)
def MIt (mi : MI) (na : Nat) : Prop := MOk mi na ∧ Cond.instanceMethod mi.1 ∈ TB ∧ mi.1.name = "<init>" ∧ mi.2.2.2.1 = none
theorem MOk.good {mi : MI} {na : Nat} (h : MOk mi na) : GoodIn TB (MW mi) := by
  intro w hw
  rcases List.mem_cons.mp hw with rfl | hw
  · exact ⟨h.1, TB_g h.1⟩
  · exact ⟨hw, TB_g hw⟩
theorem HWset {D : va_G} {dA : Nat → ClassId} {S b : Nat} {P L : AW} {a i : Nat} (hP : P.length = a) {c : AC} {H1 : Heap} (h : va_P D vwCl ((cw dA S b (P ++ L)).set (a + i) (S + (a + i), ce dA S b c)) H1) : HW D dA S b (P ++ wp L i c) H1 := by
  rw [← wp_app hP]
  show va_P D vwCl (cw dA S b _) H1
  rw [cw_set]
  exact h
theorem lenset (P L : AW) (i : Nat) (c : AC) : (P ++ wp L i c).length = (P ++ L).length := by
  rw [List.length_append, List.length_append, wp_len]
theorem HW_low {D : va_G} {dA : Nat → ClassId} {S b : Nat} {w : AW} {H H0 : Heap} {locs : List Loc} (hw : HW D dA S b w H) (hS : va_S (fun q => S ≤ q) H0 H locs) (h0 : S ≤ H0.size) : S + w.length ≤ H.size := by
  cases hn : w.length with
  | zero => have := hS.1; omega
  | succ j =>
    have hj : j < w.length := by omega
    have h1 : wg w j = some w[j] := by rw [wg_eq]; exact List.getElem?_eq_getElem hj
    have := (hw j _ (cw_get (dA := dA) (S := S) (b := b) h1)).lt
    simp only at this
    omega
section HEAPR
variable {p : Program} {l : Launch} {e : Env} {R : Room} {s : State} {m : MethodId} {args : Array Value} {below : List Frame} {meth : Method} {c : Code} {H : Heap} {locs : List Loc} {k n : Nat} {Q : State → Prop}
theorem W_sized {g : JFrame} (h : H.size ≤ s.heap.size + k → W p l e R s m args below meth c H locs k n Q g) : W p l e R s m args below meth c H locs k n Q g := fun T hT X => h (by rw [← hT]; exact X.heapSize) T hT X
theorem w_call {D : va_G} {dA : Nat → ClassId} {S b mc' ms' pc : Nat} {la : Array Slot} {st0 rest : List Value} {a : Array Value} {Q' : Option Value → AW → Prop} (hr : va_Run p l e R s m args below meth c H locs k n mc' ms' (F0 m pc la st0) rest (QC D dA S b mc' Q' a) (fun q => S ≤ q)) (hS : va_S (fun q => S ≤ q) s.heap H locs)
    (kk : ∀ (r : Option Value) (w' : AW) (H1 : Heap) (locs1 : List Loc), Q' r w' → HW D dA S b w' H1 → S + w'.length = H.size + mc' → va_S (fun q => S ≤ q) s.heap H1 locs1 → W p l e R s m args below meth c H1 locs1 (k + mc') (n + ms') Q (F0 m (pc + 3) la ((r.map (cv S b)).toList ++ rest))) : W p l e R s m args below meth c H locs k n Q (F0 m pc la st0) := by
  intro T hT X
  obtain ⟨v, st₀, t, T', L, h0, X', hL, e1, e2, ⟨⟨r, w', hv, hq, hw, hz2⟩, hz, hk⟩, st⟩ := hr T hT X
  cases hv
  rw [h0] at hz hk hz2
  obtain ⟨t2, a1, b1⟩ := kk r w' T'.heap (locs ++ L) hq (by rw [e1]; exact hw) hz2
    ⟨Nat.le_trans hS.1 (by rw [e1]; exact hz), fun q h1 h2 => by rw [e1, hk q (Nat.lt_of_lt_of_le h1 hS.1) h2]; exact hS.2.1 q h1 h2, fun q hq => by
      rcases List.mem_append.mp hq with h | h
      · exact hS.2.2 q h
      · exact hL q h⟩ T' rfl X'
  exact ⟨t2, st t2 a1, b1⟩
end HEAPR
section RULES3
variable {mi : MI} {mc ms : Nat} {SC : Option (Nat × (Nat → Int32))} {Z : Zt} {pc : Nat} {ls : List (Option Value)} {st : List Value} {w : AW} {k n : Nat} {P L : AW} {a : Nat}
theorem x_eqw {w' : AW} (h : w = w') (kk : EX mi mc ms SC Z pc ls st w' k n) : EX mi mc ms SC Z pc ls st w k n := h ▸ kk
theorem x_getfield (i : Nat) {idx ci q : Nat} {fs : List Value} {v : Value} (hd : decode mi.2.1 pc = .ok (.getfield idx, 3)) (hF : FG mi.1.cls idx ci q) (hP : P.length = a) (hc : wg L i = some (.inr (ci, fs))) (hv : vk fs q = some v) (kk : EX mi mc ms SC Z (pc + 3) ls (v :: st) (P ++ L) k n) : EX mi mc ms SC Z pc ls (.ref (a + i) :: st) (P ++ L) k n := by
  intro p l e s m args below meth c D dA S b H locs la hk hE hw hS hl
  have kk := kk p l e s m args below meth c D dA S b H locs la hk hE hw hS hl
  obtain ⟨hx, hb, hr, hml, hlk, hown, hin, hts, hG, hS0, hsc⟩ := hk
  obtain ⟨C, T, N, hcl, hq, hinw, hlink⟩ := hF
  have he := cw_get (dA := dA) (S := S) (b := b) ((wg_app (L := L) hP i).trans hc)
  have hv' : (fs.map (cv S b))[q]? = some (cv S b v) := by rw [List.getElem?_map, ← vk_eq, hv]; rfl
  rcases hlink with h | ⟨host, h⟩
  · exact va_get hx hb hts hinw hown hG.1 hw (a + i) he hcl q hq (hts _ h) (fun _ h => h) hv' hd kk
  · exact va_getN hx hb hts hinw hown hG.1 hw (a + i) he hcl q hq (va_Nw.use rfl (hG.2.2.1 _ h)) (fun _ h => h) hv' hd kk
theorem x_putfield (i : Nat) {idx ci q : Nat} {ty : FieldType} {fin : Bool} {fs : List Value} {v : Value} (hd : decode mi.2.1 pc = .ok (.putfield idx, 3)) (hF : FL mi.1.cls idx ci q ty fin) (hP : P.length = a) (hc : wg L i = some (.inr (ci, fs))) (hv : ∀ S b, narrow ty (cv S b v) = cv S b v ∧ fits ty (cv S b v) = true) (kk : EX mi mc ms SC Z (pc + 3) ls st (P ++ wp L i (.inr (ci, vs fs q v))) k n) (hlen : q < fs.length := by exact Nat.le_of_ble_eq_true rfl) (hfi : fin = true → mi.1.name = "<init>" := by decide) : EX mi mc ms SC Z pc ls (v :: .ref (a + i) :: st) (P ++ L) k n := by
  intro p l e s m args below meth c D dA S b H locs la hk hE hw hS hl
  have kk := fun H1 locs1 => kk p l e s m args below meth c D dA S b H1 locs1 la hk (by rw [lenset]; exact hE)
  obtain ⟨hx, hb, hr, hml, hlk, hown, hin, hts, hG, hS0, hsc⟩ := hk
  obtain ⟨C, T, N, ty0, hcl, hq, hinw, hty, hnm, hty0, hfin, hdecl, hlink⟩ := hF
  have he := cw_get (dA := dA) (S := S) (b := b) ((wg_app (L := L) hP i).trans hc)
  have hset : ce dA S b (.inr (ci, vs fs q v)) = .inr (ci, (fs.map (cv S b)).set q (cv S b v)) := by
    show Sum.inr (ci, (vs fs q v).map (cv S b)) = _
    rw [vs_eq, List.map_set]
  have hlen' : q < (fs.map (cv S b)).length := by rw [List.length_map]; exact hlen
  have hd1 : parseFieldDescriptor (T q).2.2.1 = some ty := by rw [hty q hq, hty0]
  have fin' : ∀ (H1 : Heap) (locs1 : List Loc), va_P D vwCl ((cw dA S b (P ++ L)).set (a + i) (S + (a + i), .inr (ci, (fs.map (cv S b)).set q (cv S b v)))) H1 → va_S (fun q => S ≤ q) s.heap H1 locs1 → W p l e (RM mi mc ms) s m args below meth c H1 locs1 k n (Z D dA S b below args s) (F0 m (pc + 3) la (st.map (cv S b))) := by
    intro H1 locs1 h1 h2
    rw [← hset] at h1
    exact kk H1 locs1 (HWset hP h1) h2 hl
  cases fin with
  | true =>
    rcases hlink with h | ⟨h, -⟩
    · exact va_putF hx hb hts hinw ty0 hty hnm hown hG.1 hw (cw_D dA S b _) hS (a + i) he hcl q hq (hts _ h) (fun _ h => h) hfin (hin (hfi rfl)) (hdecl rfl) hd1 (hv S b).1 (hv S b).2 hlen' hd (fun H1 locs1 h1 _ h2 => fin' H1 locs1 h1 h2)
    · cases h
  | false =>
    rcases hlink with h | ⟨-, host, h⟩
    · exact va_put hx hb hts hinw ty0 hty hnm hown hG.1 hw (cw_D dA S b _) hS (a + i) he hcl q hq (hts _ h) (fun _ h => h) hfin hd1 (hv S b).1 (hv S b).2 hlen' hd (fun H1 locs1 h1 _ h2 => fin' H1 locs1 h1 h2)
    · exact va_putN hx hb hts hinw ty0 hty hnm hown hG.1 hw (cw_D dA S b _) hS (a + i) he hcl q hq (va_Nw.use rfl (hG.2.2.1 _ h)) (fun _ h => h) hfin hd1 (hv S b).1 (hv S b).2 hlen' hd (fun H1 locs1 h1 _ h2 => fin' H1 locs1 h1 h2)
theorem x_iaload (i j : Nat) {N : Nat} {f : Nat → Int} {x : Int} (hd : decode mi.2.1 pc = .ok (.iaload, 1)) (hP : P.length = a) (hc : wg L i = some (aI 0 N f)) (kk : EX mi mc ms SC Z (pc + 1) ls (.int (iI (f j)) :: st) (P ++ L) k n) (hx : x = (j : Int) := by omega) (hj : j < N := by omega) (hN : N < 2147483648 := by decide) : EX mi mc ms SC Z pc ls (.int (iI x) :: .ref (a + i) :: st) (P ++ L) k n := by
  subst hx
  intro p l e s m args below meth c D dA S b H locs la hk hE hw hS hl
  have kk := kk p l e s m args below meth c D dA S b H locs la hk hE hw hS hl
  obtain ⟨hx, hb, hr, hml, hlk, hown, hin, hts, hG, hS0, hsc⟩ := hk
  have he := cw_get (dA := dA) (S := S) (b := b) ((wg_app (L := L) hP i).trans hc)
  refine va_iald hx hb hG.1 hw (a + i) 0 he rfl (iI_in hj hN) hd ?_
  rw [iI_cl (by omega)]
  exact kk
theorem x_baload (i j : Nat) {N : Nat} {f : Nat → Int} {x : Int} (hd : decode mi.2.1 pc = .ok (.baload, 1)) (hP : P.length = a) (hc : wg L i = some (aI 1 N f)) (kk : EX mi mc ms SC Z (pc + 1) ls (.int (iI (f j)) :: st) (P ++ L) k n) (hx : x = (j : Int) := by omega) (hj : j < N := by omega) (hN : N < 2147483648 := by decide) : EX mi mc ms SC Z pc ls (.int (iI x) :: .ref (a + i) :: st) (P ++ L) k n := by
  subst hx
  intro p l e s m args below meth c D dA S b H locs la hk hE hw hS hl
  have kk := kk p l e s m args below meth c D dA S b H locs la hk hE hw hS hl
  obtain ⟨hx, hb, hr, hml, hlk, hown, hin, hts, hG, hS0, hsc⟩ := hk
  have he := cw_get (dA := dA) (S := S) (b := b) ((wg_app (L := L) hP i).trans hc)
  refine va_bald hx hb hG.1 hw (a + i) 1 he rfl (iI_in hj hN) hd ?_
  rw [iI_cl (by omega)]
  exact kk
theorem x_iastore (i j : Nat) {N : Nat} {f : Nat → Int} {x v : Int} (hd : decode mi.2.1 pc = .ok (.iastore, 1)) (hP : P.length = a) (hc : wg L i = some (aI 0 N f)) (kk : EX mi mc ms SC Z (pc + 1) ls st (P ++ wp L i (aI 0 N (updI f j v))) k n) (hx : x = (j : Int) := by omega) (hj : j < N := by omega) (hN : N < 2147483648 := by decide) : EX mi mc ms SC Z pc ls (.int (iI v) :: .int (iI x) :: .ref (a + i) :: st) (P ++ L) k n := by
  subst hx
  intro p l e s m args below meth c D dA S b H locs la hk hE hw hS hl
  have kk := fun H1 locs1 => kk p l e s m args below meth c D dA S b H1 locs1 la hk (by rw [lenset]; exact hE)
  obtain ⟨hx, hb, hr, hml, hlk, hown, hin, hts, hG, hS0, hsc⟩ := hk
  have he := cw_get (dA := dA) (S := S) (b := b) ((wg_app (L := L) hP i).trans hc)
  refine va_iast hx hb hG.1 hw (cw_D dA S b _) hS (a + i) 0 he rfl (iI_in hj hN) hd (fun H1 locs1 h1 _ h2 => ?_)
  rw [iI_cl (by omega), upd_I] at h1
  exact kk H1 locs1 (HWset (c := aI 0 N (updI f j v)) hP h1) h2 hl
theorem x_bastore (i j : Nat) {N : Nat} {f : Nat → Int} {x v : Int} (hd : decode mi.2.1 pc = .ok (.bastore, 1)) (hP : P.length = a) (hc : wg L i = some (aI 1 N f)) (kk : EX mi mc ms SC Z (pc + 1) ls st (P ++ wp L i (aI 1 N (updI f j v))) k n) (hx : x = (j : Int) := by omega) (hj : j < N := by omega) (h1 : -128 ≤ v := by omega) (h2 : v ≤ 127 := by omega) (hN : N < 2147483648 := by decide) : EX mi mc ms SC Z pc ls (.int (iI v) :: .int (iI x) :: .ref (a + i) :: st) (P ++ L) k n := by
  subst hx
  intro p l e s m args below meth c D dA S b H locs la hk hE hw hS hl
  have kk := fun H1 locs1 => kk p l e s m args below meth c D dA S b H1 locs1 la hk (by rw [lenset]; exact hE)
  obtain ⟨hx, hb, hr, hml, hlk, hown, hin, hts, hG, hS0, hsc⟩ := hk
  have he := cw_get (dA := dA) (S := S) (b := b) ((wg_app (L := L) hP i).trans hc)
  refine va_bast hx hb hG.1 hw (cw_D dA S b _) hS (a + i) 1 he rfl (iI_in hj hN) hd (fun H1 locs1 g1 _ g2 => ?_)
  rw [iI_cl (by omega), nar_b h1 h2, upd_I] at g1
  exact kk H1 locs1 (HWset (c := aI 1 N (updI f j v)) hP g1) g2 hl
theorem x_aaload (i j : Nat) {N r : Nat} {f : Nat → Option Nat} {x : Int} (hd : decode mi.2.1 pc = .ok (.aaload, 1)) (hP : P.length = a) (hc : wg L i = some (aR N f)) (hf : f j = some r) (kk : EX mi mc ms SC Z (pc + 1) ls (.ref r :: st) (P ++ L) k n) (hx : x = (j : Int) := by omega) (hj : j < N := by omega) (hN : N < 2147483648 := by decide) : EX mi mc ms SC Z pc ls (.int (iI x) :: .ref (a + i) :: st) (P ++ L) k n := by
  subst hx
  intro p l e s m args below meth c D dA S b H locs la hk hE hw hS hl
  have kk := kk p l e s m args below meth c D dA S b H locs la hk hE hw hS hl
  obtain ⟨hx, hb, hr, hml, hlk, hown, hin, hts, hG, hS0, hsc⟩ := hk
  have he := cw_get (dA := dA) (S := S) (b := b) ((wg_app (L := L) hP i).trans hc)
  refine va_aldq hx hb hG.1 hw (a + i) 2 he rfl (iI_in hj hN) hd ?_
  rw [iI_cl (by omega)]
  simp only [hf]
  exact kk
theorem x_aastore (i j r : Nat) {N : Nat} {fs : List Value} {f : Nat → Option Nat} {x : Int} (hd : decode mi.2.1 pc = .ok (.aastore, 1)) (hP : P.length = a) (hc : wg L i = some (aR N f)) (hr : wg L r = some (.inr (1, fs))) (kk : EX mi mc ms SC Z (pc + 1) ls st (P ++ wp L i (aR N (va_up f j (some (a + r))))) k n) (hx : x = (j : Int) := by omega) (hj : j < N := by omega) (hN : N < 2147483648 := by decide) : EX mi mc ms SC Z pc ls (.ref (a + r) :: .int (iI x) :: .ref (a + i) :: st) (P ++ L) k n := by
  subst hx
  intro p l e s m args below meth c D dA S b H locs la hk hE hw hS hl
  have kk := fun H1 locs1 => kk p l e s m args below meth c D dA S b H1 locs1 la hk (by rw [lenset]; exact hE)
  obtain ⟨hx, hb, hrt, hml, hlk, hown, hin, hts, hG, hS0, hsc⟩ := hk
  have he := cw_get (dA := dA) (S := S) (b := b) ((wg_app (L := L) hP i).trans hc)
  have hev := cw_get (dA := dA) (S := S) (b := b) ((wg_app (L := L) hP r).trans hr)
  refine va_astq (r := (RX1, TX1, 3)) hx hb hG.1 hw (cw_D dA S b _) hS (a + i) 2 (a + r) 1 he rfl hev rfl (iI_in hj hN) hd (fun H1 locs1 g1 _ g2 => ?_)
  rw [iI_cl (by omega)] at g1
  have e1 : ce dA S b (aR N (va_up f j (some (a + r)))) = .inl (dA 2, N, .inr (.inr (.inr (.inr (va_up (fun q => (f q).map (fun k => S + k)) j (some (S + (a + r)))))))) := by
    show Sum.inl (dA 2, N, Sum.inr (Sum.inr (Sum.inr (Sum.inr (fun q => (va_up f j (some (a + r)) q).map (fun k => S + k)))))) = _
    congr 7
    funext q
    simp only [va_up]
    by_cases hq : q = j
    · simp [hq]
    · simp [hq]
  have g1' : va_P D vwCl ((cw dA S b (P ++ L)).set (a + i) (S + (a + i), ce dA S b (aR N (va_up f j (some (a + r)))))) H1 := by rw [e1]; exact g1
  exact kk H1 locs1 (HWset hP g1') g2 hl
/-- the script -/
theorem x_sld {Ln : Nat} {xs : Nat → Int32} {j r : Nat} {x : Int} (hd : decode mi.2.1 pc = .ok (.iaload, 1)) (hx : x = (j : Int)) (hj : j < Ln) (hN : Ln < 2147483648) (kk : EX mi mc ms (some (Ln, xs)) Z (pc + 1) ls (.int (xs j) :: st) w k n) : EX mi mc ms (some (Ln, xs)) Z pc ls (.int (iI x) :: .retAddr r :: st) w k n := by
  subst hx
  intro p l e s m args below meth c D dA S b H locs la hk hE hw hS hl
  have kk := kk p l e s m args below meth c D dA S b H locs la hk hE hw hS hl
  obtain ⟨hx, hb, hr, hml, hlk, hown, hin, hts, hG, hS0, hX, hbl, hbS⟩ := hk
  refine va_sld hx hb hX hbl (show ¬ S ≤ b by omega) hS (iI_in hj hN) hd ?_
  rw [iI_cl (by omega)]
  exact kk
theorem x_slen {Ln : Nat} {xs : Nat → Int32} {r : Nat} (hd : decode mi.2.1 pc = .ok (.arraylength, 1)) (hN : Ln < 2147483648) (kk : EX mi mc ms (some (Ln, xs)) Z (pc + 1) ls (.int (iI (Ln : Int)) :: st) w k n) : EX mi mc ms (some (Ln, xs)) Z pc ls (.retAddr r :: st) w k n := by
  intro p l e s m args below meth c D dA S b H locs la hk hE hw hS hl
  have kk := kk p l e s m args below meth c D dA S b H locs la hk hE hw hS hl
  obtain ⟨hx, hb, hr, hml, hlk, hown, hin, hts, hG, hS0, hX, hbl, hbS⟩ := hk
  refine va_slen hx hb hX hbl (show ¬ S ≤ b by omega) hS hd ?_
  have e1 : nI Ln = iI (Ln : Int) := by
    apply Int32.toInt_inj.mp
    rw [nI_toInt (by omega), iI_t ⟨by omega, by omega⟩]
  rw [show Int32.ofNat (Ln, xs).fst = iI (Ln : Int) from e1]
  exact kk
end RULES3
end
section
theorem ac_int : Cond.arrayClass .int ∈ TB := TB_m 123 (by decide +kernel) (by decide +kernel)
theorem ac_byte : Cond.arrayClass .byte ∈ TB := TB_m 229 (by decide +kernel) (by decide +kernel)
theorem oi_inst : Cond.instanceMethod objectInit ∈ TB := TB_m 49 (by decide +kernel) (by decide +kernel)
theorem oi_code : Cond.code objectInit ⟨#[0xb1]⟩ 1 none ∈ TB := TB_m 50 (by decide +kernel) (by decide +kernel)
theorem cp_nat : Cond.native arraycopyName ∈ TB := TB_m 430 (by decide +kernel) (by decide +kernel)
theorem cp_st : Cond.static arraycopyName ∈ TB := TB_m 429 (by decide +kernel) (by decide +kernel)
theorem cp_ini : Cond.initialized "java/lang/System" ∈ TB := TB_m 42 (by decide +kernel) (by decide +kernel)
theorem ma_ini : Cond.initialized "java/lang/Math" ∈ TB := TB_m 40 (by decide +kernel) (by decide +kernel)
theorem mx_st : Cond.static Lib.Math.max.name ∈ TB := TB_m 346 (by decide +kernel) (by decide +kernel)
theorem mn_st : Cond.static Lib.Math.min.name ∈ TB := TB_m 386 (by decide +kernel) (by decide +kernel)
theorem mx_code : Cond.code Lib.Math.max.name Lib.Math.max.code 2 (some .int) ∈ TB := TB_m 347 (by decide +kernel) (by decide +kernel)
theorem mn_code : Cond.code Lib.Math.min.name Lib.Math.min.code 2 (some .int) ∈ TB := TB_m 387 (by decide +kernel) (by decide +kernel)
section RULES4
variable {mi : MI} {mc ms : Nat} {SC : Option (Nat × (Nat → Int32))} {Z : Zt} {pc : Nat} {ls : List (Option Value)} {st : List Value} {w : AW} {k n : Nat} {P L : AW} {a : Nat}
theorem h_push {D : va_G} {dA : Nat → ClassId} {S b : Nat} {w : AW} {H H1 : Heap} {c : AC} (hw : HW D dA S b w H) (hz : H.size = S + w.length) (hk : ∀ q, q < S + w.length → H1[q]? = H[q]?) (hc : va_at D vwCl (S + w.length, ce dA S b c) H1) : HW D dA S b (w ++ [c]) H1 := by
  show va_P D vwCl (cw dA S b _) H1
  rw [cw_push]
  refine va_P.app (va_P.kept hw (fun j q hq => hk q.1 (by rw [← hz]; exact (hw j q hq).lt))) (fun j q hq => ?_)
  have hj : j < 1 := (List.getElem?_eq_some_iff.mp hq).1
  rw [show j = 0 by omega] at hq
  cases hq
  exact hc
theorem s_push {S : Nat} {H0 H H1 : Heap} {locs : List Loc} {z : Nat} (hS : va_S (fun q => S ≤ q) H0 H locs) (hz : H.size = z) (h1 : H1.size = z + 1) (hk : ∀ q, q < z → H1[q]? = H[q]?) : va_S (fun q => S ≤ q) H0 H1 locs :=
  ⟨by have := hS.1; omega, fun q g1 g2 => by rw [hk q (by have := hS.1; omega)]; exact hS.2.1 q g1 g2, hS.2.2⟩
def NewOk (own : String) (idx ci N : Nat) (fs : List Value) : Prop := ∃ (C : String) (T : u_T) (ty0 : Nat → FieldType), vwCl[ci]? = some (C, T, N) ∧ (∀ w ∈ u_ws C T N, w ∈ TB) ∧ (∀ j, j < N → parseFieldDescriptor (T j).2.2.1 = some (ty0 j)) ∧ Cond.classLink own idx C ∈ TB ∧ Cond.instantiable C N ∈ TB ∧ Cond.initialized C ∈ TB ∧ ∀ S b j, j < N → defaultValue (ty0 j) = vp_V (fs.map (cv S b)) j
theorem x_new {idx ci N j : Nat} {fs : List Value} (hd : decode mi.2.1 pc = .ok (.new idx, 3)) (hN : NewOk mi.1.cls idx ci N fs) (hP : P.length = a) (hj : L.length = j) (kk : EX mi mc ms SC Z (pc + 3) ls (.ref (a + j) :: st) (P ++ (L ++ [.inr (ci, fs)])) (k + 1) (n + N)) (h1 : k + 1 ≤ mc := by omega) (h2 : n + N ≤ ms := by omega) : EX mi mc ms SC Z pc ls st (P ++ L) k n := by
  intro p l e s m args below meth c D dA S b H locs la hk hE hw hS hl
  refine W_sized (fun hz => ?_)
  have hlow := HW_low hw hS hk.2.2.2.2.2.2.2.2.2.1
  have hH : H.size = S + (P ++ L).length := by omega
  have hlen : (P ++ L).length = a + j := by rw [List.length_append, hP, hj]
  rw [← List.append_assoc] at kk
  have kk := fun H1 => kk p l e s m args below meth c D dA S b H1 locs la hk (by rw [List.length_append]; simp only [List.length_cons, List.length_nil]; omega)
  obtain ⟨hx, hb, hr, hml, hlk, hown, hin, hts, hG, hS0, hsc⟩ := hk
  obtain ⟨C, T, ty0, hcl, hinw, hty, hlink, hinst, hini, hfs⟩ := hN
  have hKn := hG.1.1 ci _ hcl
  refine W.newcK hx hb hown (hts _ hlink) (hts _ hinst) (hts _ hini) rfl hd h1 h2 hKn.2.1 hH fun H1 kC hkC e1 z1 o1 => ?_
  have hat : va_at D vwCl (S + (P ++ L).length, ce dA S b (.inr (ci, fs))) H1 := ⟨_, hcl, (u_born ty0 hts hinw hKn hkC e1 hty).to (hfs S b)⟩
  have := kk H1 (h_push hw hH (fun q hq => o1 q hq) hat) (s_push hS hH z1 (fun q hq => o1 q hq)) hl
  rw [← hlen] at this
  exact this
theorem x_newi {x : Int} {j N : Nat} (hd : decode mi.2.1 pc = .ok (.newarray .int, 2)) (hx : x = (N : Int)) (hP : P.length = a) (hj : L.length = j) (kk : EX mi mc ms SC Z (pc + 2) ls (.ref (a + j) :: st) (P ++ (L ++ [aI 0 N (fun _ => 0)])) (k + 1) (n + N)) (hN : N < 100000000 := by decide) (h1 : k + 1 ≤ mc := by omega) (h2 : n + N ≤ ms := by omega) (hac : Cond.arrayClass .int ∈ TB := by exact ac_int) : EX mi mc ms SC Z pc ls (.int (iI x) :: st) (P ++ L) k n := by
  subst hx
  intro p l e s m args below meth c D dA S b H locs la hk hE hw hS hl
  refine W_sized (fun hz => ?_)
  have hlow := HW_low hw hS hk.2.2.2.2.2.2.2.2.2.1
  have hH : H.size = S + (P ++ L).length := by omega
  have hlen : (P ++ L).length = a + j := by rw [List.length_append, hP, hj]
  rw [← List.append_assoc] at kk
  have kk := fun H1 => kk p l e s m args below meth c D dA S b H1 locs la hk (by rw [List.length_append]; simp only [List.length_cons, List.length_nil]; omega)
  obtain ⟨hx, hb, hr, hml, hlk, hown, hin, hts, hG, hS0, hsc⟩ := hk
  refine va_newaK (atype := .int) hx hb (hts _ hac) rfl hd rfl (fun h => by rw [iI_lt0 ⟨by omega, by omega⟩] at h; omega) (iI_cl (by omega)) (by show N * 4 ≤ _; omega) h1 h2 hH fun H1 cA e1 z1 o1 hAr hNm => ?_
  have hcA : cA = dA 0 := by
    have h0 := (hG.1.2 0 _ rfl).2
    exact Option.some.inj (hNm.symm.trans h0)
  subst hcA
  have hat : va_at D vwCl (S + (P ++ L).length, ce dA S b (aI 0 N (fun _ => 0))) H1 := e1
  have := kk H1 (h_push hw hH (fun q hq => o1 q hq) hat) (s_push hS hH z1 (fun q hq => o1 q hq)) hl
  rw [← hlen] at this
  exact this
theorem x_newb {x : Int} {j N : Nat} (hd : decode mi.2.1 pc = .ok (.newarray .byte, 2)) (hx : x = (N : Int)) (hP : P.length = a) (hj : L.length = j) (kk : EX mi mc ms SC Z (pc + 2) ls (.ref (a + j) :: st) (P ++ (L ++ [aI 1 N (fun _ => 0)])) (k + 1) (n + N)) (hN : N < 100000000 := by decide) (h1 : k + 1 ≤ mc := by omega) (h2 : n + N ≤ ms := by omega) (hac : Cond.arrayClass .byte ∈ TB := by exact ac_byte) : EX mi mc ms SC Z pc ls (.int (iI x) :: st) (P ++ L) k n := by
  subst hx
  intro p l e s m args below meth c D dA S b H locs la hk hE hw hS hl
  refine W_sized (fun hz => ?_)
  have hlow := HW_low hw hS hk.2.2.2.2.2.2.2.2.2.1
  have hH : H.size = S + (P ++ L).length := by omega
  have hlen : (P ++ L).length = a + j := by rw [List.length_append, hP, hj]
  rw [← List.append_assoc] at kk
  have kk := fun H1 => kk p l e s m args below meth c D dA S b H1 locs la hk (by rw [List.length_append]; simp only [List.length_cons, List.length_nil]; omega)
  obtain ⟨hx, hb, hr, hml, hlk, hown, hin, hts, hG, hS0, hsc⟩ := hk
  refine va_newaK (atype := .byte) hx hb (hts _ hac) rfl hd rfl (fun h => by rw [iI_lt0 ⟨by omega, by omega⟩] at h; omega) (iI_cl (by omega)) (by show N * 1 ≤ _; omega) h1 h2 hH fun H1 cA e1 z1 o1 hAr hNm => ?_
  have hcA : cA = dA 1 := by
    have h0 := (hG.1.2 1 _ rfl).2
    exact Option.some.inj (hNm.symm.trans h0)
  subst hcA
  have hat : va_at D vwCl (S + (P ++ L).length, ce dA S b (aI 1 N (fun _ => 0))) H1 := e1
  have := kk H1 (h_push hw hH (fun q hq => o1 q hq) hat) (s_push hS hH z1 (fun q hq => o1 q hq)) hl
  rw [← hlen] at this
  exact this
theorem x_newq {x : Int} {idx j N : Nat} (hd : decode mi.2.1 pc = .ok (.anewarray idx, 3)) (hcl : Cond.classLink mi.1.cls idx RX1 ∈ TB) (hx : x = (N : Int)) (hP : P.length = a) (hj : L.length = j) (kk : EX mi mc ms SC Z (pc + 3) ls (.ref (a + j) :: st) (P ++ (L ++ [aR N (fun _ => none)])) (k + 1) (n + N)) (hN : N < 100000000 := by decide) (h1 : k + 1 ≤ mc := by omega) (h2 : n + N ≤ ms := by omega) : EX mi mc ms SC Z pc ls (.int (iI x) :: st) (P ++ L) k n := by
  subst hx
  intro p l e s m args below meth c D dA S b H locs la hk hE hw hS hl
  refine W_sized (fun hz => ?_)
  have hlow := HW_low hw hS hk.2.2.2.2.2.2.2.2.2.1
  have hH : H.size = S + (P ++ L).length := by omega
  have hlen : (P ++ L).length = a + j := by rw [List.length_append, hP, hj]
  rw [← List.append_assoc] at kk
  have kk := fun H1 => kk p l e s m args below meth c D dA S b H1 locs la hk (by rw [List.length_append]; simp only [List.length_cons, List.length_nil]; omega)
  obtain ⟨hx, hb, hr, hml, hlk, hown, hin, hts, hG, hS0, hsc⟩ := hk
  have hcN : (iI (N : Int)).toNatClampNeg = N := iI_cl (by omega)
  refine W.anew hx hb hown (hts _ hcl) (va_AO.use hG.2.1) rfl hd rfl (fun h => by rw [iI_lt0 ⟨by omega, by omega⟩] at h; omega) (by rw [hcN]; omega) h1 (by rw [hcN]; exact h2) fun cA kA comp f1 f2 f3 f4 => ?_
  rw [hcN]
  obtain ⟨kA', comp', g1, g2, g3, g4⟩ := (hG.1.2 2 _ rfl).2
  have hcA : cA = dA 2 := Option.some.inj (f1.symm.trans g4)
  subst hcA
  generalize hH1 : H.push ({ cls := dA 2, slots := Array.replicate N .null, vm := .none } : Cell) = H1
  have z1 : H1.size = S + (P ++ L).length + 1 := by rw [← hH1, Array.size_push, hH]
  have e1 : H1[S + (P ++ L).length]? = some (arrV (dA 2) N (fun _ => .null)) := by rw [← hH1, ← hH, Array.getElem?_push_size, ← arrV_new]
  have o1 : ∀ q : Nat, q < S + (P ++ L).length → H1[q]? = H[q]? := fun q hq => by rw [← hH1, Array.getElem?_push, if_neg (by omega)]
  have hat : va_at D vwCl (S + (P ++ L).length, ce dA S b (aR N (fun _ => none))) H1 := e1
  have := kk H1 (h_push hw hH (fun q hq => o1 q hq) hat) (s_push hS hH z1 (fun q hq => o1 q hq)) hl
  rw [← hlen, ] at this
  rw [hH]
  exact this
theorem x_oinit {idx r : Nat} (hd : decode mi.2.1 pc = .ok (.invokespecial idx, 3)) (hm : Cond.methodLink mi.1.cls idx objectInit ∈ TB) (kk : EX mi mc ms SC Z (pc + 3) ls st w k n) (hf : 1 ≤ mi.2.2.2.2.1 := by decide) (hloc : (st.map fun v => v.category).sum + 12 ≤ mi.2.2.2.2.2 := by exact Nat.le_of_ble_eq_true rfl) (hi : Cond.instanceMethod objectInit ∈ TB := by exact oi_inst) (hcd : Cond.code objectInit ⟨#[0xb1]⟩ 1 none ∈ TB := by exact oi_code) : EX mi mc ms SC Z pc ls (.ref r :: st) w k n := by
  intro p l e s m args below meth c D dA S b H locs la hk hE hw hS hl
  have kk := kk p l e s m args below meth c D dA S b H locs la hk hE hw hS hl
  obtain ⟨hx, hb, hr, hml, hlk, hown, hin, hts, hG, hS0, hsc⟩ := hk
  exact W.objInit hx hb hown (hts _ hm) (hts _ hi) (hts _ hcd) rfl (by rw [hml]; exact hl.1) rfl hd hf (by show 2 * 0 + _ + 12 ≤ mi.2.2.2.2.2; rw [cv_cats, Nat.mul_zero, Nat.zero_add]; exact hloc) kk
theorem x_ext (i : Nat) {t N : Nat} {f g : Nat → Int} (hP : P.length = a) (hc : wg L i = some (aI t N f)) (hfg : ∀ j, j < N → f j = g j) (kk : EX mi mc ms SC Z pc ls st (P ++ wp L i (aI t N g)) k n) : EX mi mc ms SC Z pc ls st (P ++ L) k n := by
  intro p l e s m args below meth c D dA S b H locs la hk hE hw hS hl
  refine kk p l e s m args below meth c D dA S b H locs la hk (by rw [lenset]; exact hE) (HWset hP ?_) hS hl
  have he := cw_get (dA := dA) (S := S) (b := b) ((wg_app (L := L) hP i).trans hc)
  refine va_P.set hw (cw_D dA S b _) he ?_ (fun _ _ => rfl)
  have h0 : H[S + (a + i)]? = some (vp_cell (dA t) (N, .inl (fun j => iI (f j)))) := hw _ _ he
  show H[S + (a + i)]? = some (vp_cell (dA t) (N, .inl (fun j => iI (g j))))
  rw [h0, vp_cell_i, vp_cell_i]
  congr 1
  unfold arrV
  congr 1
  apply Array.ext
  · simp
  · intro j h1 h2
    simp only [Array.size_ofFn] at h1
    simp [hfg j h1]
theorem x_copy (i i' : Nat) {N N' idx : Nat} {x0 x1 x2 : Int} {f g : Nat → Int} (hd : decode mi.2.1 pc = .ok (.invokestatic idx, 3)) (hm : Cond.methodLink mi.1.cls idx arraycopyName ∈ TB) (hP : P.length = a) (hc : wg L i = some (aI 0 N f)) (hc' : wg L i' = some (aI 0 N g)) (h0 : x0 = 0) (h1 : x1 = 0) (h2 : x2 = (N : Int)) (kk : EX mi mc ms SC Z (pc + 3) ls st (P ++ wp L i' (aI 0 N f)) k n) (hN : N < 2147483648 := by decide) (hf : 1 ≤ mi.2.2.2.2.1 := by decide) (hloc : (st.map fun v => v.category).sum + (nativeFrameWords "java/lang/System" "arraycopy" 5 + 11) ≤ mi.2.2.2.2.2 := by exact Nat.le_of_ble_eq_true rfl) (hnat : Cond.native arraycopyName ∈ TB := by exact cp_nat) (hst : Cond.static arraycopyName ∈ TB := by exact cp_st) (hini : Cond.initialized "java/lang/System" ∈ TB := by exact cp_ini) :
    EX mi mc ms SC Z pc ls (.int (iI x2) :: .int (iI x1) :: .ref (a + i') :: .int (iI x0) :: .ref (a + i) :: st) (P ++ L) k n := by
  subst h0; subst h1; subst h2
  intro p l e s m args below meth c D dA S b H locs la hk hE hw hS hl
  have kk := fun H1 locs1 => kk p l e s m args below meth c D dA S b H1 locs1 la hk (by rw [lenset]; exact hE)
  obtain ⟨hx, hb, hr, hml, hlk, hown, hin, hts, hG, hS0, hsc⟩ := hk
  have he := cw_get (dA := dA) (S := S) (b := b) ((wg_app (L := L) hP i).trans hc)
  have he' := cw_get (dA := dA) (S := S) (b := b) ((wg_app (L := L) hP i').trans hc')
  have z0 : (iI 0).toNatClampNeg = 0 := iI_cl (j := 0) (by decide)
  have zN : (iI (N : Int)).toNatClampNeg = N := iI_cl hN
  refine va_copyi hx hb (by rw [hml]; exact hl.1.symm) hown (hts _ hm) (hts _ hnat) (hts _ hst) (hts _ hini) hG.1 hw (cw_D dA S b _) hS (a + i) (a + i') 0 0 he he' rfl rfl rfl (fun h => by rw [iI_lt0 R0] at h; omega) (fun h => by rw [iI_lt0 R0] at h; omega) (fun h => by rw [iI_lt0 ⟨by omega, by omega⟩] at h; omega) (by rw [z0, zN]; omega) (by rw [z0, zN]; omega) (fun _ _ => rfl) hf (by rw [cv_cats]; exact hloc) hd (fun H1 locs1 g1 g2 g3 => ?_)
  rw [z0, zN] at g1
  refine kk H1 locs1 (HWset hP ?_) g3 hl
  have q1 : ((cw dA S b (P ++ L)).set (a + i') (S + (a + i'), Sum.inl (dA 0, N, Sum.inl (va_cpy (fun j => iI (f j)) (fun j => iI (g j)) 0 0 N))))[a + i']? = some (S + (a + i'), Sum.inl (dA 0, N, Sum.inl (va_cpy (fun j => iI (f j)) (fun j => iI (g j)) 0 0 N))) := by
    rw [List.getElem?_set_self]
    exact (List.getElem?_eq_some_iff.mp he').1
  have r1 := g1 _ _ q1
  have r2 := va_P.set g1 (va_D.set (cw_D dA S b _) he') q1 (e := ce dA S b (aI 0 N f)) (H1 := H1) ?_ (fun _ _ => rfl)
  · rw [List.set_set] at r2
    exact r2
  · have r1' : H1[S + (a + i')]? = some (vp_cell (dA 0) (N, .inl (va_cpy (fun j => iI (f j)) (fun j => iI (g j)) 0 0 N))) := r1
    show H1[S + (a + i')]? = some (vp_cell (dA 0) (N, .inl (fun j => iI (f j))))
    rw [r1', vp_cell_i, vp_cell_i]
    congr 1
    unfold arrV
    congr 1
    apply Array.ext
    · simp
    · intro j h1 h2
      simp only [Array.size_ofFn] at h1
      simp only [Array.getElem_ofFn]
      rw [pk_cpy_in (Nat.zero_le _) (by omega)]
      simp
theorem x_max {x y : Int} {idx : Nat} (hd : decode mi.2.1 pc = .ok (.invokestatic idx, 3)) (hm : Cond.methodLink mi.1.cls idx Lib.Math.max.name ∈ TB) (kk : EX mi mc ms SC Z (pc + 3) ls (.int (iI (max x y)) :: st) w k n) (hx : inR x := by omega) (hy : inR y := by omega) (hf : 1 ≤ mi.2.2.2.2.1 := by decide) (hloc : (st.map fun v => v.category).sum + 13 ≤ mi.2.2.2.2.2 := by exact Nat.le_of_ble_eq_true rfl) (hkc : k ≤ mc := by omega) (hnc : n ≤ ms := by omega) (h1 : Cond.static Lib.Math.max.name ∈ TB := by exact mx_st) (h2 : Cond.initialized "java/lang/Math" ∈ TB := by exact ma_ini) (h3 : Cond.code Lib.Math.max.name Lib.Math.max.code 2 (some .int) ∈ TB := by exact mx_code) : EX mi mc ms SC Z pc ls (.int (iI y) :: .int (iI x) :: st) w k n := by
  intro p l e s m args below meth c D dA S b H locs la hk hE hw hS hl
  have kk := kk p l e s m args below meth c D dA S b H locs la hk hE hw hS hl
  obtain ⟨hx', hb, hr, hml, hlk, hown, hin, hts, hG, hS0, hsc⟩ := hk
  refine va_mmax hx' hb (by rw [hml]; exact hl.1.symm) hown (hts _ hm) (hts _ h1) (hts _ h2) (hts _ h3) hf (by rw [cv_cats]; exact hloc) hkc hnc hd ?_
  have e1 : (if iI x < iI y then iI y else iI x) = iI (max x y) := by
    by_cases h : x < y
    · rw [if_pos ((iI_lt hx hy).mpr h), Int.max_eq_right (by omega)]
    · rw [if_neg (fun q => h ((iI_lt hx hy).mp q)), Int.max_eq_left (by omega)]
  rw [e1]
  exact kk
theorem x_min {x y : Int} {idx : Nat} (hd : decode mi.2.1 pc = .ok (.invokestatic idx, 3)) (hm : Cond.methodLink mi.1.cls idx Lib.Math.min.name ∈ TB) (kk : EX mi mc ms SC Z (pc + 3) ls (.int (iI (min x y)) :: st) w k n) (hx : inR x := by omega) (hy : inR y := by omega) (hf : 1 ≤ mi.2.2.2.2.1 := by decide) (hloc : (st.map fun v => v.category).sum + 13 ≤ mi.2.2.2.2.2 := by exact Nat.le_of_ble_eq_true rfl) (hkc : k ≤ mc := by omega) (hnc : n ≤ ms := by omega) (h1 : Cond.static Lib.Math.min.name ∈ TB := by exact mn_st) (h2 : Cond.initialized "java/lang/Math" ∈ TB := by exact ma_ini) (h3 : Cond.code Lib.Math.min.name Lib.Math.min.code 2 (some .int) ∈ TB := by exact mn_code) : EX mi mc ms SC Z pc ls (.int (iI y) :: .int (iI x) :: st) w k n := by
  intro p l e s m args below meth c D dA S b H locs la hk hE hw hS hl
  have kk := kk p l e s m args below meth c D dA S b H locs la hk hE hw hS hl
  obtain ⟨hx', hb, hr, hml, hlk, hown, hin, hts, hG, hS0, hsc⟩ := hk
  refine va_mmin hx' hb (by rw [hml]; exact hl.1.symm) hown (hts _ hm) (hts _ h1) (hts _ h2) (hts _ h3) hf (by rw [cv_cats]; exact hloc) hkc hnc hd ?_
  have e1 : (if iI y < iI x then iI y else iI x) = iI (min x y) := by
    by_cases h : y < x
    · rw [if_pos ((iI_lt hy hx).mpr h), Int.min_eq_right (by omega)]
    · rw [if_neg (fun q => h ((iI_lt hy hx).mp q)), Int.min_eq_left (by omega)]
  rw [e1]
  exact kk
/-- calls -/
theorem x_callS {mi' : MI} {mc' ms' na idx : Nat} {As st0 : List Value} {Q : Option Value → AW → Prop} (hd : decode mi.2.1 pc = .ok (.invokestatic idx, 3)) (hM : MSt mi' na) (hL : MLk mi.1.cls idx mi'.1) (hct : CT mi' mc' ms' As w Q) (hst : st0 = As.reverse ++ st) (kk : ∀ (r : Option Value) (w' : AW), Q r w' → EX mi mc ms SC Z (pc + 3) ls (r.toList ++ st) w' (k + mc') (n + ms')) (hna : As.length = na) (hcat : (st.map fun v => v.category).sum ≤ 8) (hroom : mi'.2.2.2.2.1 + 1 ≤ mi.2.2.2.2.1 ∧ 8 + (mi'.2.2.1 + 11) + mi'.2.2.2.2.2 ≤ mi.2.2.2.2.2) (hcs : k + mc' ≤ mc ∧ n + ms' ≤ ms) : EX mi mc ms SC Z pc ls st0 w k n := by
  subst hst
  intro p l e s m args below meth c D dA S b H locs la hk hE hw hS hl
  refine W_sized (fun hz => ?_)
  have hlow := HW_low hw hS hk.2.2.2.2.2.2.2.2.2.1
  have hH : H.size = S + w.length := by omega
  have kk := fun r w' H1 locs1 hq => kk r w' hq p l e s m args below meth c D dA S b H1 locs1 la hk
  obtain ⟨hx, hb, hr, hml, hlk, hown, hin, hts, hG, hS0, hsc⟩ := hk
  have hpre : PreS s H (fun args U => args = (As.map (cv S b)).toArray ∧ GK D dA U ∧ HW D dA S b w U.heap ∧ U.heap.size = S + w.length) (As.map (cv S b)) :=
    ⟨fun a U g mk q => ⟨q.1, GK.call g mk a q.2.1, q.2.2.1, q.2.2.2⟩, fun U hU hW => ⟨rfl, hG.warm hW, by rw [hU]; exact hw, by rw [hU]; exact hH⟩⟩
  have hrest : 2 * (F0 m pc la ((As.reverse ++ st).map (cv S b))).monitorRoom + ((st.map (cv S b)).map fun v => v.category).sum ≤ 8 := lv_room (by rw [cv_cats]; exact hcat)
  have hstk : (As.reverse ++ st).map (cv S b) = (As.map (cv S b)).reverse ++ st.map (cv S b) := by rw [List.map_append, List.map_reverse]
  have hn : (As.map (cv S b)).length = na := by rw [List.length_map]; exact hna
  have hrun : va_Run p l e (RM mi mc ms) s m args below meth c H locs k n mc' ms' (F0 m pc la ((As.reverse ++ st).map (cv S b))) (st.map (cv S b)) (QC D dA S b mc' Q (As.map (cv S b)).toArray) (fun q => S ≤ q) := by
    rcases hL with h | ⟨host, h⟩
    · exact va_runS ⟨hx, hb, hml, hown, hts⟩ (hct l D dA S b) ⟨callB_of na hts hM.1.good rfl rfl rfl (hts _ hM.1.2.1) (hts _ h) hM.1.2.2 hroom, hts _ hM.2⟩ hpre rfl hn hl.1 hstk hrest hd hcs
    · exact va_runSN ⟨hx, hb, hml, hown, hts⟩ (hct l D dA S b) ⟨va_cnB na hts hM.1.good rfl rfl rfl (hG.2.2.2 _ h) (hts _ hM.1.2.1) hM.1.2.2 hroom, hts _ hM.2, trivial⟩ hpre rfl hn hl.1 hstk hrest hd hcs
  refine w_call hrun hS (fun r w' H1 locs1 hq hw1 hz1 hS1 => ?_)
  have := kk r w' H1 locs1 hq (by omega) hw1 hS1 hl
  rw [List.map_append] at this
  cases r with
  | none => exact this
  | some v => exact this
theorem x_callV {mi' : MI} {mc' ms' na idx ci r0 : Nat} {As st0 fs : List Value} {Q : Option Value → AW → Prop} (hd : decode mi.2.1 pc = .ok (.invokevirtual idx, 3)) (hM : MVt mi' na ci) (hL : MLk mi.1.cls idx mi'.1) (hct : CT mi' mc' ms' (.ref r0 :: As) w Q) (hrc : wg w r0 = some (.inr (ci, fs))) (hst : st0 = As.reverse ++ .ref r0 :: st) (kk : ∀ (r : Option Value) (w' : AW), Q r w' → EX mi mc ms SC Z (pc + 3) ls (r.toList ++ st) w' (k + mc') (n + ms')) (hna : As.length = na) (hcat : (st.map fun v => v.category).sum ≤ 8) (hroom : mi'.2.2.2.2.1 + 1 ≤ mi.2.2.2.2.1 ∧ 8 + (mi'.2.2.1 + 11) + mi'.2.2.2.2.2 ≤ mi.2.2.2.2.2) (hcs : k + mc' ≤ mc ∧ n + ms' ≤ ms) : EX mi mc ms SC Z pc ls st0 w k n := by
  subst hst
  intro p l e s m args below meth c D dA S b H locs la hk hE hw hS hl
  refine W_sized (fun hz => ?_)
  have hlow := HW_low hw hS hk.2.2.2.2.2.2.2.2.2.1
  have hH : H.size = S + w.length := by omega
  have kk := fun r w' H1 locs1 hq => kk r w' hq p l e s m args below meth c D dA S b H1 locs1 la hk
  obtain ⟨hx, hb, hr, hml, hlk, hown, hin, hts, hG, hS0, hsc⟩ := hk
  obtain ⟨hMo, hMi, hMs, T, N, hcl⟩ := hM
  have he := cw_get (dA := dA) (S := S) (b := b) hrc
  have hpre : PreV s H mi'.1.cls (S + r0) (fun args U => args = ((Value.ref r0 :: As).map (cv S b)).toArray ∧ GK D dA U ∧ HW D dA S b w U.heap ∧ U.heap.size = S + w.length) (As.map (cv S b)) :=
    ⟨fun a U g mk q => ⟨q.1, GK.call g mk a q.2.1, q.2.2.1, q.2.2.2⟩, va_recv hG.1 hw hcl he, fun U hU hW => ⟨rfl, hG.warm hW, by rw [hU]; exact hw, by rw [hU]; exact hH⟩⟩
  have hrest : 2 * (F0 m pc la ((As.reverse ++ .ref r0 :: st).map (cv S b))).monitorRoom + ((st.map (cv S b)).map fun v => v.category).sum ≤ 8 := lv_room (by rw [cv_cats]; exact hcat)
  have hstk : (As.reverse ++ .ref r0 :: st).map (cv S b) = (As.map (cv S b)).reverse ++ .ref (S + r0) :: st.map (cv S b) := by rw [List.map_append, List.map_reverse]; rfl
  have hn : (As.map (cv S b)).length = na := by rw [List.length_map]; exact hna
  have hrun : va_Run p l e (RM mi mc ms) s m args below meth c H locs k n mc' ms' (F0 m pc la ((As.reverse ++ .ref r0 :: st).map (cv S b))) (st.map (cv S b)) (QC D dA S b mc' Q (Value.ref (S + r0) :: As.map (cv S b)).toArray) (fun q => S ≤ q) := by
    rcases hL with h | ⟨host, h⟩
    · exact va_runV ⟨hx, hb, hml, hown, hts⟩ (hct l D dA S b) ⟨callB_of na hts hMo.good rfl rfl rfl (hts _ hMo.2.1) (hts _ h) hMo.2.2 hroom, hts _ hMi, hts _ hMs⟩ hpre rfl hn hl.1 hstk hrest hd hcs
    · exact va_runVN ⟨hx, hb, hml, hown, hts⟩ (hct l D dA S b) ⟨va_cnB na hts hMo.good rfl rfl rfl (hG.2.2.2 _ h) (hts _ hMo.2.1) hMo.2.2 hroom, hts _ hMi, hts _ hMs⟩ hpre rfl hn hl.1 hstk hrest hd hcs
  refine w_call hrun hS (fun r w' H1 locs1 hq hw1 hz1 hS1 => ?_)
  have := kk r w' H1 locs1 hq (by omega) hw1 hS1 hl
  rw [List.map_append] at this
  cases r with
  | none => exact this
  | some v => exact this
theorem x_callI {mi' : MI} {mc' ms' na idx r0 : Nat} {As st0 : List Value} {Q : Option Value → AW → Prop} (hd : decode mi.2.1 pc = .ok (.invokespecial idx, 3)) (hM : MIt mi' na) (hL : MLk mi.1.cls idx mi'.1) (hct : CT mi' mc' ms' (.ref r0 :: As) w Q) (hst : st0 = As.reverse ++ .ref r0 :: st) (kk : ∀ (r : Option Value) (w' : AW), Q r w' → EX mi mc ms SC Z (pc + 3) ls (r.toList ++ st) w' (k + mc') (n + ms')) (hna : As.length = na) (hcat : (st.map fun v => v.category).sum ≤ 8) (hroom : mi'.2.2.2.2.1 + 1 ≤ mi.2.2.2.2.1 ∧ 8 + (mi'.2.2.1 + 11) + mi'.2.2.2.2.2 ≤ mi.2.2.2.2.2) (hcs : k + mc' ≤ mc ∧ n + ms' ≤ ms) : EX mi mc ms SC Z pc ls st0 w k n := by
  subst hst
  intro p l e s m args below meth c D dA S b H locs la hk hE hw hS hl
  refine W_sized (fun hz => ?_)
  have hlow := HW_low hw hS hk.2.2.2.2.2.2.2.2.2.1
  have hH : H.size = S + w.length := by omega
  have kk := fun r w' H1 locs1 hq => kk r w' hq p l e s m args below meth c D dA S b H1 locs1 la hk
  obtain ⟨hx, hb, hr, hml, hlk, hown, hin, hts, hG, hS0, hsc⟩ := hk
  obtain ⟨hMo, hMi, hMn, hMr⟩ := hM
  obtain ⟨y, cd, maxL, ret, fr, lc⟩ := mi'
  simp only at hMr
  subst hMr
  have hpre : PreS s H (fun args U => args = ((Value.ref r0 :: As).map (cv S b)).toArray ∧ GK D dA U ∧ HW D dA S b w U.heap ∧ U.heap.size = S + w.length) (.ref (S + r0) :: As.map (cv S b)) :=
    ⟨fun a U g mk q => ⟨q.1, GK.call g mk a q.2.1, q.2.2.1, q.2.2.2⟩, fun U hU hW => ⟨rfl, hG.warm hW, by rw [hU]; exact hw, by rw [hU]; exact hH⟩⟩
  have hrest : 2 * (F0 m pc la ((As.reverse ++ .ref r0 :: st).map (cv S b))).monitorRoom + ((st.map (cv S b)).map fun v => v.category).sum ≤ 8 := lv_room (by rw [cv_cats]; exact hcat)
  have hstk : (As.reverse ++ .ref r0 :: st).map (cv S b) = (As.map (cv S b)).reverse ++ .ref (S + r0) :: st.map (cv S b) := by rw [List.map_append, List.map_reverse]; rfl
  have hn : (As.map (cv S b)).length = na := by rw [List.length_map]; exact hna
  have hrun : va_Run p l e (RM mi mc ms) s m args below meth c H locs k n mc' ms' (F0 m pc la ((As.reverse ++ .ref r0 :: st).map (cv S b))) (st.map (cv S b)) (QC D dA S b mc' Q (Value.ref (S + r0) :: As.map (cv S b)).toArray) (fun q => S ≤ q) := by
    rcases hL with h | ⟨host, h⟩
    · exact va_runI ⟨hx, hb, hml, hown, hts⟩ (hct l D dA S b) ⟨callB_of na hts hMo.good rfl rfl rfl (hts _ hMo.2.1) (hts _ h) hMo.2.2 hroom, hMn, hts _ hMi⟩ hpre rfl hn hl.1 hstk hrest hd hcs
    · exact va_runIN ⟨hx, hb, hml, hown, hts⟩ (hct l D dA S b) ⟨va_cnB na hts hMo.good rfl rfl rfl (hG.2.2.2 _ h) (hts _ hMo.2.1) hMo.2.2 hroom, hMn, hts _ hMi⟩ hpre rfl hn hl.1 hstk hrest hd hcs
  refine w_call hrun hS (fun r w' H1 locs1 hq hw1 hz1 hS1 => ?_)
  have := kk r w' H1 locs1 hq (by omega) hw1 hS1 hl
  rw [List.map_append] at this
  cases r with
  | none => exact this
  | some v => exact this
theorem x_calliS {mi' : MI} {mc' ms' na idx : Nat} {As st0 : List Value} {R : Int → AW → Prop} (hd : decode mi.2.1 pc = .ok (.invokestatic idx, 3)) (hM : MSt mi' na) (hL : MLk mi.1.cls idx mi'.1) (hct : CTi mi' mc' ms' As w R) (hst : st0 = As.reverse ++ st) (kk : ∀ (x : Int) (w' : AW), R x w' → EX mi mc ms SC Z (pc + 3) ls (.int (iI x) :: st) w' (k + mc') (n + ms')) (hna : As.length = na := by rfl) (hcat : (st.map fun v => v.category).sum ≤ 8 := by exact Nat.le_of_ble_eq_true rfl) (hroom : mi'.2.2.2.2.1 + 1 ≤ mi.2.2.2.2.1 ∧ 8 + (mi'.2.2.1 + 11) + mi'.2.2.2.2.2 ≤ mi.2.2.2.2.2 := by decide) (hcs : k + mc' ≤ mc ∧ n + ms' ≤ ms := by omega) : EX mi mc ms SC Z pc ls st0 w k n :=
  x_callS hd hM hL hct hst (fun r w' h => by obtain ⟨x, rfl, h⟩ := h; exact kk x w' h) hna hcat hroom hcs
theorem x_calliV {mi' : MI} {mc' ms' na idx ci r0 : Nat} {As st0 fs : List Value} {R : Int → AW → Prop} (hd : decode mi.2.1 pc = .ok (.invokevirtual idx, 3)) (hM : MVt mi' na ci) (hL : MLk mi.1.cls idx mi'.1) (hct : CTi mi' mc' ms' (.ref r0 :: As) w R) (hrc : wg w r0 = some (.inr (ci, fs))) (hst : st0 = As.reverse ++ .ref r0 :: st) (kk : ∀ (x : Int) (w' : AW), R x w' → EX mi mc ms SC Z (pc + 3) ls (.int (iI x) :: st) w' (k + mc') (n + ms')) (hna : As.length = na := by rfl) (hcat : (st.map fun v => v.category).sum ≤ 8 := by exact Nat.le_of_ble_eq_true rfl) (hroom : mi'.2.2.2.2.1 + 1 ≤ mi.2.2.2.2.1 ∧ 8 + (mi'.2.2.1 + 11) + mi'.2.2.2.2.2 ≤ mi.2.2.2.2.2 := by decide) (hcs : k + mc' ≤ mc ∧ n + ms' ≤ ms := by omega) : EX mi mc ms SC Z pc ls st0 w k n :=
  x_callV hd hM hL hct hrc hst (fun r w' h => by obtain ⟨x, rfl, h⟩ := h; exact kk x w' h) hna hcat hroom hcs
theorem x_callvV {mi' : MI} {mc' ms' na idx ci r0 : Nat} {As st0 fs : List Value} {R : AW → Prop} (hd : decode mi.2.1 pc = .ok (.invokevirtual idx, 3)) (hM : MVt mi' na ci) (hL : MLk mi.1.cls idx mi'.1) (hct : CTv mi' mc' ms' (.ref r0 :: As) w R) (hrc : wg w r0 = some (.inr (ci, fs))) (hst : st0 = As.reverse ++ .ref r0 :: st) (kk : ∀ (w' : AW), R w' → EX mi mc ms SC Z (pc + 3) ls st w' (k + mc') (n + ms')) (hna : As.length = na := by rfl) (hcat : (st.map fun v => v.category).sum ≤ 8 := by exact Nat.le_of_ble_eq_true rfl) (hroom : mi'.2.2.2.2.1 + 1 ≤ mi.2.2.2.2.1 ∧ 8 + (mi'.2.2.1 + 11) + mi'.2.2.2.2.2 ≤ mi.2.2.2.2.2 := by decide) (hcs : k + mc' ≤ mc ∧ n + ms' ≤ ms := by omega) : EX mi mc ms SC Z pc ls st0 w k n :=
  x_callV hd hM hL hct hrc hst (fun r w' h => by obtain ⟨rfl, h⟩ := h; exact kk w' h) hna hcat hroom hcs
theorem x_callvI {mi' : MI} {mc' ms' na idx r0 : Nat} {As st0 : List Value} {R : AW → Prop} (hd : decode mi.2.1 pc = .ok (.invokespecial idx, 3)) (hM : MIt mi' na) (hL : MLk mi.1.cls idx mi'.1) (hct : CTv mi' mc' ms' (.ref r0 :: As) w R) (hst : st0 = As.reverse ++ .ref r0 :: st) (kk : ∀ (w' : AW), R w' → EX mi mc ms SC Z (pc + 3) ls st w' (k + mc') (n + ms')) (hna : As.length = na := by rfl) (hcat : (st.map fun v => v.category).sum ≤ 8 := by exact Nat.le_of_ble_eq_true rfl) (hroom : mi'.2.2.2.2.1 + 1 ≤ mi.2.2.2.2.1 ∧ 8 + (mi'.2.2.1 + 11) + mi'.2.2.2.2.2 ≤ mi.2.2.2.2.2 := by decide) (hcs : k + mc' ≤ mc ∧ n + ms' ≤ ms := by omega) : EX mi mc ms SC Z pc ls st0 w k n :=
  x_callI hd hM hL hct hst (fun r w' h => by obtain ⟨rfl, h⟩ := h; exact kk w' h) hna hcat hroom hcs
end RULES4
end
section
theorem in_p {ws : List Cond} (ps : List Nat) (hp : ps.filterMap (fun i => lw_tbl[i]?) = ws) (hg : ws.all goodWord = true) : ∀ w ∈ ws, w ∈ TB := by
  intro w hw
  have hg' := List.all_eq_true.mp hg w hw
  rw [← hp] at hw
  obtain ⟨i, -, hi⟩ := List.mem_filterMap.mp hw
  exact List.mem_filter.mpr ⟨List.mem_of_getElem? hi, hg'⟩
theorem inX0 : ∀ w ∈ u_ws RX0 TX0 9, w ∈ TB := in_p [181, 183, 185, 187, 189, 191, 193, 195, 197] (by decide +kernel) (by decide +kernel)
theorem inX1 : ∀ w ∈ u_ws RX1 TX1 3, w ∈ TB := in_p [242, 244, 246] (by decide +kernel) (by decide +kernel)
theorem inX2 : ∀ w ∈ u_ws RX2 TX2 6, w ∈ TB := in_p [216, 218, 220, 222, 224, 226] (by decide +kernel) (by decide +kernel)
theorem inX3 : ∀ w ∈ u_ws RX3 TX3 8, w ∈ TB := in_p [142, 144, 146, 148, 150, 152, 154, 156] (by decide +kernel) (by decide +kernel)
theorem inX4 : ∀ w ∈ u_ws RX4 TX4 16, w ∈ TB := in_p [90, 92, 94, 96, 98, 100, 102, 104, 106, 108, 110, 112, 114, 116, 118, 120] (by decide +kernel) (by decide +kernel)
theorem inX5 : ∀ w ∈ u_ws RX5 TX5 8, w ∈ TB := in_p [257, 259, 261, 263, 265, 267, 269, 271] (by decide +kernel) (by decide +kernel)
theorem inX6 : ∀ w ∈ u_ws RX6 TX6 19, w ∈ TB := in_p [606, 608, 610, 612, 614, 616, 618, 620, 622, 624, 626, 628, 630, 632, 634, 636, 638, 640, 642] (by decide +kernel) (by decide +kernel)
theorem fg_X5_12 : FG RX5 12 5 0 := ⟨RX5, TX5, 8, rfl, by decide, inX5, Or.inl (TB_m 249 (by decide +kernel) (by decide +kernel))⟩
theorem fl_X5_12 : FL RX5 12 5 0 (.object "RecordBox$Works") true := ⟨RX5, TX5, 8, tyX5, rfl, by decide, inX5, tyX5_ok, nmX5, rfl, rfl, by decide +kernel, Or.inl (TB_m 249 (by decide +kernel) (by decide +kernel))⟩
theorem fg_X5_19 : FG RX5 19 5 1 := ⟨RX5, TX5, 8, rfl, by decide, inX5, Or.inl (TB_m 250 (by decide +kernel) (by decide +kernel))⟩
theorem fl_X5_19 : FL RX5 19 5 1 (.object "RecordBox$Till") true := ⟨RX5, TX5, 8, tyX5, rfl, by decide, inX5, tyX5_ok, nmX5, rfl, rfl, by decide +kernel, Or.inl (TB_m 250 (by decide +kernel) (by decide +kernel))⟩
theorem fg_X5_23 : FG RX5 23 5 2 := ⟨RX5, TX5, 8, rfl, by decide, inX5, Or.inl (TB_m 251 (by decide +kernel) (by decide +kernel))⟩
theorem fl_X5_23 : FL RX5 23 5 2 (.object "RecordBox$Works") true := ⟨RX5, TX5, 8, tyX5, rfl, by decide, inX5, tyX5_ok, nmX5, rfl, rfl, by decide +kernel, Or.inl (TB_m 251 (by decide +kernel) (by decide +kernel))⟩
theorem fg_X5_26 : FG RX5 26 5 3 := ⟨RX5, TX5, 8, rfl, by decide, inX5, Or.inl (TB_m 252 (by decide +kernel) (by decide +kernel))⟩
theorem fl_X5_26 : FL RX5 26 5 3 (.object "RecordBox$Till") true := ⟨RX5, TX5, 8, tyX5, rfl, by decide, inX5, tyX5_ok, nmX5, rfl, rfl, by decide +kernel, Or.inl (TB_m 252 (by decide +kernel) (by decide +kernel))⟩
theorem fg_X5_29 : FG RX5 29 5 4 := ⟨RX5, TX5, 8, rfl, by decide, inX5, Or.inl (TB_m 253 (by decide +kernel) (by decide +kernel))⟩
theorem fl_X5_29 : FL RX5 29 5 4 .boolean false := ⟨RX5, TX5, 8, tyX5, rfl, by decide, inX5, tyX5_ok, nmX5, rfl, rfl, by decide +kernel, Or.inl (TB_m 253 (by decide +kernel) (by decide +kernel))⟩
theorem fg_X5_36 : FG RX5 36 5 5 := ⟨RX5, TX5, 8, rfl, by decide, inX5, Or.inl (TB_m 254 (by decide +kernel) (by decide +kernel))⟩
theorem fl_X5_36 : FL RX5 36 5 5 (.object "RecordBox$Outlook") true := ⟨RX5, TX5, 8, tyX5, rfl, by decide, inX5, tyX5_ok, nmX5, rfl, rfl, by decide +kernel, Or.inl (TB_m 254 (by decide +kernel) (by decide +kernel))⟩
theorem fg_X5_43 : FG RX5 43 5 6 := ⟨RX5, TX5, 8, rfl, by decide, inX5, Or.inl (TB_m 255 (by decide +kernel) (by decide +kernel))⟩
theorem fl_X5_43 : FL RX5 43 5 6 (.object "RecordBox$Tape") true := ⟨RX5, TX5, 8, tyX5, rfl, by decide, inX5, tyX5_ok, nmX5, rfl, rfl, by decide +kernel, Or.inl (TB_m 255 (by decide +kernel) (by decide +kernel))⟩
theorem fg_X5_49 : FG RX5 49 5 7 := ⟨RX5, TX5, 8, rfl, by decide, inX5, Or.inl (TB_m 256 (by decide +kernel) (by decide +kernel))⟩
theorem fl_X5_49 : FL RX5 49 5 7 (.array (.object "RecordBox$Sheet")) true := ⟨RX5, TX5, 8, tyX5, rfl, by decide, inX5, tyX5_ok, nmX5, rfl, rfl, by decide +kernel, Or.inl (TB_m 256 (by decide +kernel) (by decide +kernel))⟩
theorem fg_X5_58 : FG RX5 58 4 0 := ⟨RX4, TX4, 16, rfl, by decide, inX4, Or.inr ⟨"RecordBox", by decide +kernel⟩⟩
theorem fl_X5_58 : FL RX5 58 4 0 .int false := ⟨RX4, TX4, 16, tyX4, rfl, by decide, inX4, tyX4_ok, nmX4, rfl, rfl, by decide +kernel, Or.inr ⟨rfl, "RecordBox", by decide +kernel⟩⟩
theorem fg_X5_77 : FG RX5 77 4 3 := ⟨RX4, TX4, 16, rfl, by decide, inX4, Or.inr ⟨"RecordBox", by decide +kernel⟩⟩
theorem fg_X5_81 : FG RX5 81 4 1 := ⟨RX4, TX4, 16, rfl, by decide, inX4, Or.inr ⟨"RecordBox", by decide +kernel⟩⟩
theorem fg_X5_84 : FG RX5 84 4 2 := ⟨RX4, TX4, 16, rfl, by decide, inX4, Or.inr ⟨"RecordBox", by decide +kernel⟩⟩
theorem fg_X5_93 : FG RX5 93 4 4 := ⟨RX4, TX4, 16, rfl, by decide, inX4, Or.inr ⟨"RecordBox", by decide +kernel⟩⟩
theorem fg_X5_108 : FG RX5 108 3 4 := ⟨RX3, TX3, 8, rfl, by decide, inX3, Or.inr ⟨"RecordBox", by decide +kernel⟩⟩
theorem fl_X5_108 : FL RX5 108 3 4 .int false := ⟨RX3, TX3, 8, tyX3, rfl, by decide, inX3, tyX3_ok, nmX3, rfl, rfl, by decide +kernel, Or.inr ⟨rfl, "RecordBox", by decide +kernel⟩⟩
theorem fg_X5_111 : FG RX5 111 3 7 := ⟨RX3, TX3, 8, rfl, by decide, inX3, Or.inr ⟨"RecordBox", by decide +kernel⟩⟩
theorem fl_X5_111 : FL RX5 111 3 7 .int false := ⟨RX3, TX3, 8, tyX3, rfl, by decide, inX3, tyX3_ok, nmX3, rfl, rfl, by decide +kernel, Or.inr ⟨rfl, "RecordBox", by decide +kernel⟩⟩
theorem fg_X5_114 : FG RX5 114 4 8 := ⟨RX4, TX4, 16, rfl, by decide, inX4, Or.inr ⟨"RecordBox", by decide +kernel⟩⟩
theorem fl_X5_114 : FL RX5 114 4 8 .int false := ⟨RX4, TX4, 16, tyX4, rfl, by decide, inX4, tyX4_ok, nmX4, rfl, rfl, by decide +kernel, Or.inr ⟨rfl, "RecordBox", by decide +kernel⟩⟩
theorem fg_X5_121 : FG RX5 121 4 5 := ⟨RX4, TX4, 16, rfl, by decide, inX4, Or.inr ⟨"RecordBox", by decide +kernel⟩⟩
theorem fl_X5_121 : FL RX5 121 4 5 .int false := ⟨RX4, TX4, 16, tyX4, rfl, by decide, inX4, tyX4_ok, nmX4, rfl, rfl, by decide +kernel, Or.inr ⟨rfl, "RecordBox", by decide +kernel⟩⟩
theorem fg_X5_124 : FG RX5 124 3 5 := ⟨RX3, TX3, 8, rfl, by decide, inX3, Or.inr ⟨"RecordBox", by decide +kernel⟩⟩
theorem fl_X5_124 : FL RX5 124 3 5 .int false := ⟨RX3, TX3, 8, tyX3, rfl, by decide, inX3, tyX3_ok, nmX3, rfl, rfl, by decide +kernel, Or.inr ⟨rfl, "RecordBox", by decide +kernel⟩⟩
theorem fg_X5_127 : FG RX5 127 4 9 := ⟨RX4, TX4, 16, rfl, by decide, inX4, Or.inr ⟨"RecordBox", by decide +kernel⟩⟩
theorem fl_X5_127 : FL RX5 127 4 9 .int false := ⟨RX4, TX4, 16, tyX4, rfl, by decide, inX4, tyX4_ok, nmX4, rfl, rfl, by decide +kernel, Or.inr ⟨rfl, "RecordBox", by decide +kernel⟩⟩
theorem fg_X5_134 : FG RX5 134 4 10 := ⟨RX4, TX4, 16, rfl, by decide, inX4, Or.inr ⟨"RecordBox", by decide +kernel⟩⟩
theorem fl_X5_134 : FL RX5 134 4 10 .int false := ⟨RX4, TX4, 16, tyX4, rfl, by decide, inX4, tyX4_ok, nmX4, rfl, rfl, by decide +kernel, Or.inr ⟨rfl, "RecordBox", by decide +kernel⟩⟩
theorem fg_X5_137 : FG RX5 137 4 11 := ⟨RX4, TX4, 16, rfl, by decide, inX4, Or.inr ⟨"RecordBox", by decide +kernel⟩⟩
theorem fl_X5_137 : FL RX5 137 4 11 .boolean false := ⟨RX4, TX4, 16, tyX4, rfl, by decide, inX4, tyX4_ok, nmX4, rfl, rfl, by decide +kernel, Or.inr ⟨rfl, "RecordBox", by decide +kernel⟩⟩
theorem fg_X5_140 : FG RX5 140 4 12 := ⟨RX4, TX4, 16, rfl, by decide, inX4, Or.inr ⟨"RecordBox", by decide +kernel⟩⟩
theorem fl_X5_140 : FL RX5 140 4 12 .int false := ⟨RX4, TX4, 16, tyX4, rfl, by decide, inX4, tyX4_ok, nmX4, rfl, rfl, by decide +kernel, Or.inr ⟨rfl, "RecordBox", by decide +kernel⟩⟩
theorem fg_X5_143 : FG RX5 143 4 13 := ⟨RX4, TX4, 16, rfl, by decide, inX4, Or.inr ⟨"RecordBox", by decide +kernel⟩⟩
theorem fl_X5_143 : FL RX5 143 4 13 .int false := ⟨RX4, TX4, 16, tyX4, rfl, by decide, inX4, tyX4_ok, nmX4, rfl, rfl, by decide +kernel, Or.inr ⟨rfl, "RecordBox", by decide +kernel⟩⟩
theorem fg_X5_151 : FG RX5 151 3 6 := ⟨RX3, TX3, 8, rfl, by decide, inX3, Or.inr ⟨"RecordBox", by decide +kernel⟩⟩
theorem fl_X5_151 : FL RX5 151 3 6 .int false := ⟨RX3, TX3, 8, tyX3, rfl, by decide, inX3, tyX3_ok, nmX3, rfl, rfl, by decide +kernel, Or.inr ⟨rfl, "RecordBox", by decide +kernel⟩⟩
theorem fg_X5_154 : FG RX5 154 4 14 := ⟨RX4, TX4, 16, rfl, by decide, inX4, Or.inr ⟨"RecordBox", by decide +kernel⟩⟩
theorem fl_X5_154 : FL RX5 154 4 14 .int false := ⟨RX4, TX4, 16, tyX4, rfl, by decide, inX4, tyX4_ok, nmX4, rfl, rfl, by decide +kernel, Or.inr ⟨rfl, "RecordBox", by decide +kernel⟩⟩
theorem fg_X5_157 : FG RX5 157 4 15 := ⟨RX4, TX4, 16, rfl, by decide, inX4, Or.inr ⟨"RecordBox", by decide +kernel⟩⟩
theorem fl_X5_157 : FL RX5 157 4 15 .int false := ⟨RX4, TX4, 16, tyX4, rfl, by decide, inX4, tyX4_ok, nmX4, rfl, rfl, by decide +kernel, Or.inr ⟨rfl, "RecordBox", by decide +kernel⟩⟩
theorem fg_X5_167 : FG RX5 167 0 3 := ⟨RX0, TX0, 9, rfl, by decide, inX0, Or.inr ⟨"RecordBox", by decide +kernel⟩⟩
theorem fl_X5_167 : FL RX5 167 0 3 .int false := ⟨RX0, TX0, 9, tyX0, rfl, by decide, inX0, tyX0_ok, nmX0, rfl, rfl, by decide +kernel, Or.inr ⟨rfl, "RecordBox", by decide +kernel⟩⟩
theorem fg_X5_170 : FG RX5 170 0 1 := ⟨RX0, TX0, 9, rfl, by decide, inX0, Or.inr ⟨"RecordBox", by decide +kernel⟩⟩
theorem fg_X5_176 : FG RX5 176 4 6 := ⟨RX4, TX4, 16, rfl, by decide, inX4, Or.inr ⟨"RecordBox", by decide +kernel⟩⟩
theorem fl_X5_176 : FL RX5 176 4 6 .int false := ⟨RX4, TX4, 16, tyX4, rfl, by decide, inX4, tyX4_ok, nmX4, rfl, rfl, by decide +kernel, Or.inr ⟨rfl, "RecordBox", by decide +kernel⟩⟩
theorem fg_X5_186 : FG RX5 186 0 5 := ⟨RX0, TX0, 9, rfl, by decide, inX0, Or.inr ⟨"RecordBox", by decide +kernel⟩⟩
theorem fl_X5_186 : FL RX5 186 0 5 .int false := ⟨RX0, TX0, 9, tyX0, rfl, by decide, inX0, tyX0_ok, nmX0, rfl, rfl, by decide +kernel, Or.inr ⟨rfl, "RecordBox", by decide +kernel⟩⟩
theorem fg_X5_189 : FG RX5 189 0 6 := ⟨RX0, TX0, 9, rfl, by decide, inX0, Or.inr ⟨"RecordBox", by decide +kernel⟩⟩
theorem fl_X5_189 : FL RX5 189 0 6 .int false := ⟨RX0, TX0, 9, tyX0, rfl, by decide, inX0, tyX0_ok, nmX0, rfl, rfl, by decide +kernel, Or.inr ⟨rfl, "RecordBox", by decide +kernel⟩⟩
theorem fg_X5_192 : FG RX5 192 0 7 := ⟨RX0, TX0, 9, rfl, by decide, inX0, Or.inr ⟨"RecordBox", by decide +kernel⟩⟩
theorem fl_X5_192 : FL RX5 192 0 7 .int false := ⟨RX0, TX0, 9, tyX0, rfl, by decide, inX0, tyX0_ok, nmX0, rfl, rfl, by decide +kernel, Or.inr ⟨rfl, "RecordBox", by decide +kernel⟩⟩
theorem fg_X5_216 : FG RX5 216 1 1 := ⟨RX1, TX1, 3, rfl, by decide, inX1, Or.inr ⟨"RecordBox", by decide +kernel⟩⟩
theorem fl_X5_216 : FL RX5 216 1 1 .int false := ⟨RX1, TX1, 3, tyX1, rfl, by decide, inX1, tyX1_ok, nmX1, rfl, rfl, by decide +kernel, Or.inr ⟨rfl, "RecordBox", by decide +kernel⟩⟩
theorem fg_X5_226 : FG RX5 226 2 1 := ⟨RX2, TX2, 6, rfl, by decide, inX2, Or.inr ⟨"RecordBox", by decide +kernel⟩⟩
theorem fl_X5_226 : FL RX5 226 2 1 .int false := ⟨RX2, TX2, 6, tyX2, rfl, by decide, inX2, tyX2_ok, nmX2, rfl, rfl, by decide +kernel, Or.inr ⟨rfl, "RecordBox", by decide +kernel⟩⟩
theorem fg_X5_235 : FG RX5 235 2 5 := ⟨RX2, TX2, 6, rfl, by decide, inX2, Or.inr ⟨"RecordBox", by decide +kernel⟩⟩
theorem fl_X5_235 : FL RX5 235 2 5 .int false := ⟨RX2, TX2, 6, tyX2, rfl, by decide, inX2, tyX2_ok, nmX2, rfl, rfl, by decide +kernel, Or.inr ⟨rfl, "RecordBox", by decide +kernel⟩⟩
theorem fg_X5_238 : FG RX5 238 2 3 := ⟨RX2, TX2, 6, rfl, by decide, inX2, Or.inr ⟨"RecordBox", by decide +kernel⟩⟩
theorem fg_X5_241 : FG RX5 241 2 4 := ⟨RX2, TX2, 6, rfl, by decide, inX2, Or.inr ⟨"RecordBox", by decide +kernel⟩⟩
theorem fg_X5_262 : FG RX5 262 1 0 := ⟨RX1, TX1, 3, rfl, by decide, inX1, Or.inr ⟨"RecordBox", by decide +kernel⟩⟩
theorem fl_X5_262 : FL RX5 262 1 0 .int false := ⟨RX1, TX1, 3, tyX1, rfl, by decide, inX1, tyX1_ok, nmX1, rfl, rfl, by decide +kernel, Or.inr ⟨rfl, "RecordBox", by decide +kernel⟩⟩
theorem fg_X0_12 : FG RX0 12 0 0 := ⟨RX0, TX0, 9, rfl, by decide, inX0, Or.inl (TB_m 167 (by decide +kernel) (by decide +kernel))⟩
theorem fl_X0_12 : FL RX0 12 0 0 (.object "RecordBox$Works") true := ⟨RX0, TX0, 9, tyX0, rfl, by decide, inX0, tyX0_ok, nmX0, rfl, rfl, by decide +kernel, Or.inl (TB_m 167 (by decide +kernel) (by decide +kernel))⟩
theorem fg_X0_18 : FG RX0 18 0 1 := ⟨RX0, TX0, 9, rfl, by decide, inX0, Or.inl (TB_m 168 (by decide +kernel) (by decide +kernel))⟩
theorem fl_X0_18 : FL RX0 18 0 1 (.array .int) true := ⟨RX0, TX0, 9, tyX0, rfl, by decide, inX0, tyX0_ok, nmX0, rfl, rfl, by decide +kernel, Or.inl (TB_m 168 (by decide +kernel) (by decide +kernel))⟩
theorem fg_X0_22 : FG RX0 22 0 2 := ⟨RX0, TX0, 9, rfl, by decide, inX0, Or.inl (TB_m 170 (by decide +kernel) (by decide +kernel))⟩
theorem fl_X0_22 : FL RX0 22 0 2 (.array .int) true := ⟨RX0, TX0, 9, tyX0, rfl, by decide, inX0, tyX0_ok, nmX0, rfl, rfl, by decide +kernel, Or.inl (TB_m 170 (by decide +kernel) (by decide +kernel))⟩
theorem fg_X0_25 : FG RX0 25 0 3 := ⟨RX0, TX0, 9, rfl, by decide, inX0, Or.inl (TB_m 171 (by decide +kernel) (by decide +kernel))⟩
theorem fl_X0_25 : FL RX0 25 0 3 .int false := ⟨RX0, TX0, 9, tyX0, rfl, by decide, inX0, tyX0_ok, nmX0, rfl, rfl, by decide +kernel, Or.inl (TB_m 171 (by decide +kernel) (by decide +kernel))⟩
theorem fg_X0_29 : FG RX0 29 0 4 := ⟨RX0, TX0, 9, rfl, by decide, inX0, Or.inl (TB_m 173 (by decide +kernel) (by decide +kernel))⟩
theorem fl_X0_29 : FL RX0 29 0 4 .boolean false := ⟨RX0, TX0, 9, tyX0, rfl, by decide, inX0, tyX0_ok, nmX0, rfl, rfl, by decide +kernel, Or.inl (TB_m 173 (by decide +kernel) (by decide +kernel))⟩
theorem fg_X0_33 : FG RX0 33 0 5 := ⟨RX0, TX0, 9, rfl, by decide, inX0, Or.inl (TB_m 174 (by decide +kernel) (by decide +kernel))⟩
theorem fl_X0_33 : FL RX0 33 0 5 .int false := ⟨RX0, TX0, 9, tyX0, rfl, by decide, inX0, tyX0_ok, nmX0, rfl, rfl, by decide +kernel, Or.inl (TB_m 174 (by decide +kernel) (by decide +kernel))⟩
theorem fg_X0_36 : FG RX0 36 0 6 := ⟨RX0, TX0, 9, rfl, by decide, inX0, Or.inl (TB_m 176 (by decide +kernel) (by decide +kernel))⟩
theorem fl_X0_36 : FL RX0 36 0 6 .int false := ⟨RX0, TX0, 9, tyX0, rfl, by decide, inX0, tyX0_ok, nmX0, rfl, rfl, by decide +kernel, Or.inl (TB_m 176 (by decide +kernel) (by decide +kernel))⟩
theorem fg_X0_39 : FG RX0 39 0 7 := ⟨RX0, TX0, 9, rfl, by decide, inX0, Or.inl (TB_m 178 (by decide +kernel) (by decide +kernel))⟩
theorem fl_X0_39 : FL RX0 39 0 7 .int false := ⟨RX0, TX0, 9, tyX0, rfl, by decide, inX0, tyX0_ok, nmX0, rfl, rfl, by decide +kernel, Or.inl (TB_m 178 (by decide +kernel) (by decide +kernel))⟩
theorem fg_X0_42 : FG RX0 42 0 8 := ⟨RX0, TX0, 9, rfl, by decide, inX0, Or.inl (TB_m 180 (by decide +kernel) (by decide +kernel))⟩
theorem fl_X0_42 : FL RX0 42 0 8 .boolean false := ⟨RX0, TX0, 9, tyX0, rfl, by decide, inX0, tyX0_ok, nmX0, rfl, rfl, by decide +kernel, Or.inl (TB_m 180 (by decide +kernel) (by decide +kernel))⟩
theorem fg_X0_53 : FG RX0 53 4 14 := ⟨RX4, TX4, 16, rfl, by decide, inX4, Or.inr ⟨"RecordBox", by decide +kernel⟩⟩
theorem fl_X0_53 : FL RX0 53 4 14 .int false := ⟨RX4, TX4, 16, tyX4, rfl, by decide, inX4, tyX4_ok, nmX4, rfl, rfl, by decide +kernel, Or.inr ⟨rfl, "RecordBox", by decide +kernel⟩⟩
theorem fg_X0_64 : FG RX0 64 4 9 := ⟨RX4, TX4, 16, rfl, by decide, inX4, Or.inr ⟨"RecordBox", by decide +kernel⟩⟩
theorem fl_X0_64 : FL RX0 64 4 9 .int false := ⟨RX4, TX4, 16, tyX4, rfl, by decide, inX4, tyX4_ok, nmX4, rfl, rfl, by decide +kernel, Or.inr ⟨rfl, "RecordBox", by decide +kernel⟩⟩
theorem fg_X1_9 : FG RX1 9 1 0 := ⟨RX1, TX1, 3, rfl, by decide, inX1, Or.inl (TB_m 237 (by decide +kernel) (by decide +kernel))⟩
theorem fl_X1_9 : FL RX1 9 1 0 .int false := ⟨RX1, TX1, 3, tyX1, rfl, by decide, inX1, tyX1_ok, nmX1, rfl, rfl, by decide +kernel, Or.inl (TB_m 237 (by decide +kernel) (by decide +kernel))⟩
theorem fg_X1_15 : FG RX1 15 1 1 := ⟨RX1, TX1, 3, rfl, by decide, inX1, Or.inl (TB_m 239 (by decide +kernel) (by decide +kernel))⟩
theorem fl_X1_15 : FL RX1 15 1 1 .int false := ⟨RX1, TX1, 3, tyX1, rfl, by decide, inX1, tyX1_ok, nmX1, rfl, rfl, by decide +kernel, Or.inl (TB_m 239 (by decide +kernel) (by decide +kernel))⟩
theorem fg_X1_18 : FG RX1 18 1 2 := ⟨RX1, TX1, 3, rfl, by decide, inX1, Or.inl (TB_m 241 (by decide +kernel) (by decide +kernel))⟩
theorem fl_X1_18 : FL RX1 18 1 2 (.array .int) true := ⟨RX1, TX1, 3, tyX1, rfl, by decide, inX1, tyX1_ok, nmX1, rfl, rfl, by decide +kernel, Or.inl (TB_m 241 (by decide +kernel) (by decide +kernel))⟩
theorem fg_X2_9 : FG RX2 9 2 0 := ⟨RX2, TX2, 6, rfl, by decide, inX2, Or.inl (TB_m 206 (by decide +kernel) (by decide +kernel))⟩
theorem fl_X2_9 : FL RX2 9 2 0 (.array .byte) true := ⟨RX2, TX2, 6, tyX2, rfl, by decide, inX2, tyX2_ok, nmX2, rfl, rfl, by decide +kernel, Or.inl (TB_m 206 (by decide +kernel) (by decide +kernel))⟩
theorem fg_X2_15 : FG RX2 15 2 1 := ⟨RX2, TX2, 6, rfl, by decide, inX2, Or.inl (TB_m 207 (by decide +kernel) (by decide +kernel))⟩
theorem fl_X2_15 : FL RX2 15 2 1 .int false := ⟨RX2, TX2, 6, tyX2, rfl, by decide, inX2, tyX2_ok, nmX2, rfl, rfl, by decide +kernel, Or.inl (TB_m 207 (by decide +kernel) (by decide +kernel))⟩
theorem fg_X2_19 : FG RX2 19 2 2 := ⟨RX2, TX2, 6, rfl, by decide, inX2, Or.inl (TB_m 209 (by decide +kernel) (by decide +kernel))⟩
theorem fl_X2_19 : FL RX2 19 2 2 .int false := ⟨RX2, TX2, 6, tyX2, rfl, by decide, inX2, tyX2_ok, nmX2, rfl, rfl, by decide +kernel, Or.inl (TB_m 209 (by decide +kernel) (by decide +kernel))⟩
theorem fg_X2_22 : FG RX2 22 2 3 := ⟨RX2, TX2, 6, rfl, by decide, inX2, Or.inl (TB_m 210 (by decide +kernel) (by decide +kernel))⟩
theorem fl_X2_22 : FL RX2 22 2 3 (.array .int) true := ⟨RX2, TX2, 6, tyX2, rfl, by decide, inX2, tyX2_ok, nmX2, rfl, rfl, by decide +kernel, Or.inl (TB_m 210 (by decide +kernel) (by decide +kernel))⟩
theorem fg_X2_26 : FG RX2 26 2 4 := ⟨RX2, TX2, 6, rfl, by decide, inX2, Or.inl (TB_m 212 (by decide +kernel) (by decide +kernel))⟩
theorem fl_X2_26 : FL RX2 26 2 4 (.array .int) true := ⟨RX2, TX2, 6, tyX2, rfl, by decide, inX2, tyX2_ok, nmX2, rfl, rfl, by decide +kernel, Or.inl (TB_m 212 (by decide +kernel) (by decide +kernel))⟩
theorem fg_X2_29 : FG RX2 29 2 5 := ⟨RX2, TX2, 6, rfl, by decide, inX2, Or.inl (TB_m 214 (by decide +kernel) (by decide +kernel))⟩
theorem fl_X2_29 : FL RX2 29 2 5 .int false := ⟨RX2, TX2, 6, tyX2, rfl, by decide, inX2, tyX2_ok, nmX2, rfl, rfl, by decide +kernel, Or.inl (TB_m 214 (by decide +kernel) (by decide +kernel))⟩
theorem fg_X3_7 : FG RX3 7 3 0 := ⟨RX3, TX3, 8, rfl, by decide, inX3, Or.inl (TB_m 130 (by decide +kernel) (by decide +kernel))⟩
theorem fl_X3_7 : FL RX3 7 3 0 .int false := ⟨RX3, TX3, 8, tyX3, rfl, by decide, inX3, tyX3_ok, nmX3, rfl, rfl, by decide +kernel, Or.inl (TB_m 130 (by decide +kernel) (by decide +kernel))⟩
theorem fg_X3_13 : FG RX3 13 3 1 := ⟨RX3, TX3, 8, rfl, by decide, inX3, Or.inl (TB_m 131 (by decide +kernel) (by decide +kernel))⟩
theorem fl_X3_13 : FL RX3 13 3 1 .int false := ⟨RX3, TX3, 8, tyX3, rfl, by decide, inX3, tyX3_ok, nmX3, rfl, rfl, by decide +kernel, Or.inl (TB_m 131 (by decide +kernel) (by decide +kernel))⟩
theorem fg_X3_16 : FG RX3 16 3 2 := ⟨RX3, TX3, 8, rfl, by decide, inX3, Or.inl (TB_m 132 (by decide +kernel) (by decide +kernel))⟩
theorem fl_X3_16 : FL RX3 16 3 2 .int false := ⟨RX3, TX3, 8, tyX3, rfl, by decide, inX3, tyX3_ok, nmX3, rfl, rfl, by decide +kernel, Or.inl (TB_m 132 (by decide +kernel) (by decide +kernel))⟩
theorem fg_X3_19 : FG RX3 19 3 3 := ⟨RX3, TX3, 8, rfl, by decide, inX3, Or.inl (TB_m 133 (by decide +kernel) (by decide +kernel))⟩
theorem fl_X3_19 : FL RX3 19 3 3 .int false := ⟨RX3, TX3, 8, tyX3, rfl, by decide, inX3, tyX3_ok, nmX3, rfl, rfl, by decide +kernel, Or.inl (TB_m 133 (by decide +kernel) (by decide +kernel))⟩
theorem fg_X3_22 : FG RX3 22 3 4 := ⟨RX3, TX3, 8, rfl, by decide, inX3, Or.inl (TB_m 134 (by decide +kernel) (by decide +kernel))⟩
theorem fl_X3_22 : FL RX3 22 3 4 .int false := ⟨RX3, TX3, 8, tyX3, rfl, by decide, inX3, tyX3_ok, nmX3, rfl, rfl, by decide +kernel, Or.inl (TB_m 134 (by decide +kernel) (by decide +kernel))⟩
theorem fg_X3_25 : FG RX3 25 3 5 := ⟨RX3, TX3, 8, rfl, by decide, inX3, Or.inl (TB_m 136 (by decide +kernel) (by decide +kernel))⟩
theorem fl_X3_25 : FL RX3 25 3 5 .int false := ⟨RX3, TX3, 8, tyX3, rfl, by decide, inX3, tyX3_ok, nmX3, rfl, rfl, by decide +kernel, Or.inl (TB_m 136 (by decide +kernel) (by decide +kernel))⟩
theorem fg_X3_28 : FG RX3 28 3 6 := ⟨RX3, TX3, 8, rfl, by decide, inX3, Or.inl (TB_m 138 (by decide +kernel) (by decide +kernel))⟩
theorem fl_X3_28 : FL RX3 28 3 6 .int false := ⟨RX3, TX3, 8, tyX3, rfl, by decide, inX3, tyX3_ok, nmX3, rfl, rfl, by decide +kernel, Or.inl (TB_m 138 (by decide +kernel) (by decide +kernel))⟩
theorem fg_X3_31 : FG RX3 31 3 7 := ⟨RX3, TX3, 8, rfl, by decide, inX3, Or.inl (TB_m 140 (by decide +kernel) (by decide +kernel))⟩
theorem fl_X3_31 : FL RX3 31 3 7 .int false := ⟨RX3, TX3, 8, tyX3, rfl, by decide, inX3, tyX3_ok, nmX3, rfl, rfl, by decide +kernel, Or.inl (TB_m 140 (by decide +kernel) (by decide +kernel))⟩
theorem fg_X4_9 : FG RX4 9 4 0 := ⟨RX4, TX4, 16, rfl, by decide, inX4, Or.inl (TB_m 57 (by decide +kernel) (by decide +kernel))⟩
theorem fl_X4_9 : FL RX4 9 4 0 .int false := ⟨RX4, TX4, 16, tyX4, rfl, by decide, inX4, tyX4_ok, nmX4, rfl, rfl, by decide +kernel, Or.inl (TB_m 57 (by decide +kernel) (by decide +kernel))⟩
theorem fg_X4_15 : FG RX4 15 4 1 := ⟨RX4, TX4, 16, rfl, by decide, inX4, Or.inl (TB_m 59 (by decide +kernel) (by decide +kernel))⟩
theorem fl_X4_15 : FL RX4 15 4 1 (.array .int) true := ⟨RX4, TX4, 16, tyX4, rfl, by decide, inX4, tyX4_ok, nmX4, rfl, rfl, by decide +kernel, Or.inl (TB_m 59 (by decide +kernel) (by decide +kernel))⟩
theorem fg_X4_19 : FG RX4 19 4 2 := ⟨RX4, TX4, 16, rfl, by decide, inX4, Or.inl (TB_m 61 (by decide +kernel) (by decide +kernel))⟩
theorem fl_X4_19 : FL RX4 19 4 2 (.array .int) true := ⟨RX4, TX4, 16, tyX4, rfl, by decide, inX4, tyX4_ok, nmX4, rfl, rfl, by decide +kernel, Or.inl (TB_m 61 (by decide +kernel) (by decide +kernel))⟩
theorem fg_X4_22 : FG RX4 22 4 3 := ⟨RX4, TX4, 16, rfl, by decide, inX4, Or.inl (TB_m 63 (by decide +kernel) (by decide +kernel))⟩
theorem fl_X4_22 : FL RX4 22 4 3 (.array .int) true := ⟨RX4, TX4, 16, tyX4, rfl, by decide, inX4, tyX4_ok, nmX4, rfl, rfl, by decide +kernel, Or.inl (TB_m 63 (by decide +kernel) (by decide +kernel))⟩
theorem fg_X4_25 : FG RX4 25 4 4 := ⟨RX4, TX4, 16, rfl, by decide, inX4, Or.inl (TB_m 65 (by decide +kernel) (by decide +kernel))⟩
theorem fl_X4_25 : FL RX4 25 4 4 (.array .int) true := ⟨RX4, TX4, 16, tyX4, rfl, by decide, inX4, tyX4_ok, nmX4, rfl, rfl, by decide +kernel, Or.inl (TB_m 65 (by decide +kernel) (by decide +kernel))⟩
theorem fg_X4_28 : FG RX4 28 4 5 := ⟨RX4, TX4, 16, rfl, by decide, inX4, Or.inl (TB_m 67 (by decide +kernel) (by decide +kernel))⟩
theorem fl_X4_28 : FL RX4 28 4 5 .int false := ⟨RX4, TX4, 16, tyX4, rfl, by decide, inX4, tyX4_ok, nmX4, rfl, rfl, by decide +kernel, Or.inl (TB_m 67 (by decide +kernel) (by decide +kernel))⟩
theorem fg_X4_31 : FG RX4 31 4 6 := ⟨RX4, TX4, 16, rfl, by decide, inX4, Or.inl (TB_m 69 (by decide +kernel) (by decide +kernel))⟩
theorem fl_X4_31 : FL RX4 31 4 6 .int false := ⟨RX4, TX4, 16, tyX4, rfl, by decide, inX4, tyX4_ok, nmX4, rfl, rfl, by decide +kernel, Or.inl (TB_m 69 (by decide +kernel) (by decide +kernel))⟩
theorem fg_X4_34 : FG RX4 34 4 7 := ⟨RX4, TX4, 16, rfl, by decide, inX4, Or.inl (TB_m 71 (by decide +kernel) (by decide +kernel))⟩
theorem fl_X4_34 : FL RX4 34 4 7 .int false := ⟨RX4, TX4, 16, tyX4, rfl, by decide, inX4, tyX4_ok, nmX4, rfl, rfl, by decide +kernel, Or.inl (TB_m 71 (by decide +kernel) (by decide +kernel))⟩
theorem fg_X4_37 : FG RX4 37 4 8 := ⟨RX4, TX4, 16, rfl, by decide, inX4, Or.inl (TB_m 72 (by decide +kernel) (by decide +kernel))⟩
theorem fl_X4_37 : FL RX4 37 4 8 .int false := ⟨RX4, TX4, 16, tyX4, rfl, by decide, inX4, tyX4_ok, nmX4, rfl, rfl, by decide +kernel, Or.inl (TB_m 72 (by decide +kernel) (by decide +kernel))⟩
theorem fg_X4_40 : FG RX4 40 4 9 := ⟨RX4, TX4, 16, rfl, by decide, inX4, Or.inl (TB_m 74 (by decide +kernel) (by decide +kernel))⟩
theorem fl_X4_40 : FL RX4 40 4 9 .int false := ⟨RX4, TX4, 16, tyX4, rfl, by decide, inX4, tyX4_ok, nmX4, rfl, rfl, by decide +kernel, Or.inl (TB_m 74 (by decide +kernel) (by decide +kernel))⟩
theorem fg_X4_43 : FG RX4 43 4 10 := ⟨RX4, TX4, 16, rfl, by decide, inX4, Or.inl (TB_m 77 (by decide +kernel) (by decide +kernel))⟩
theorem fl_X4_43 : FL RX4 43 4 10 .int false := ⟨RX4, TX4, 16, tyX4, rfl, by decide, inX4, tyX4_ok, nmX4, rfl, rfl, by decide +kernel, Or.inl (TB_m 77 (by decide +kernel) (by decide +kernel))⟩
theorem fg_X4_46 : FG RX4 46 4 11 := ⟨RX4, TX4, 16, rfl, by decide, inX4, Or.inl (TB_m 79 (by decide +kernel) (by decide +kernel))⟩
theorem fl_X4_46 : FL RX4 46 4 11 .boolean false := ⟨RX4, TX4, 16, tyX4, rfl, by decide, inX4, tyX4_ok, nmX4, rfl, rfl, by decide +kernel, Or.inl (TB_m 79 (by decide +kernel) (by decide +kernel))⟩
theorem fg_X4_50 : FG RX4 50 4 12 := ⟨RX4, TX4, 16, rfl, by decide, inX4, Or.inl (TB_m 81 (by decide +kernel) (by decide +kernel))⟩
theorem fl_X4_50 : FL RX4 50 4 12 .int false := ⟨RX4, TX4, 16, tyX4, rfl, by decide, inX4, tyX4_ok, nmX4, rfl, rfl, by decide +kernel, Or.inl (TB_m 81 (by decide +kernel) (by decide +kernel))⟩
theorem fg_X4_53 : FG RX4 53 4 13 := ⟨RX4, TX4, 16, rfl, by decide, inX4, Or.inl (TB_m 83 (by decide +kernel) (by decide +kernel))⟩
theorem fl_X4_53 : FL RX4 53 4 13 .int false := ⟨RX4, TX4, 16, tyX4, rfl, by decide, inX4, tyX4_ok, nmX4, rfl, rfl, by decide +kernel, Or.inl (TB_m 83 (by decide +kernel) (by decide +kernel))⟩
theorem fg_X4_56 : FG RX4 56 4 14 := ⟨RX4, TX4, 16, rfl, by decide, inX4, Or.inl (TB_m 85 (by decide +kernel) (by decide +kernel))⟩
theorem fl_X4_56 : FL RX4 56 4 14 .int false := ⟨RX4, TX4, 16, tyX4, rfl, by decide, inX4, tyX4_ok, nmX4, rfl, rfl, by decide +kernel, Or.inl (TB_m 85 (by decide +kernel) (by decide +kernel))⟩
theorem fg_X4_59 : FG RX4 59 4 15 := ⟨RX4, TX4, 16, rfl, by decide, inX4, Or.inl (TB_m 88 (by decide +kernel) (by decide +kernel))⟩
theorem fl_X4_59 : FL RX4 59 4 15 .int false := ⟨RX4, TX4, 16, tyX4, rfl, by decide, inX4, tyX4_ok, nmX4, rfl, rfl, by decide +kernel, Or.inl (TB_m 88 (by decide +kernel) (by decide +kernel))⟩
theorem fg_X6_7 : FG RX6 7 6 0 := ⟨RX6, TX6, 19, rfl, by decide, inX6, Or.inl (TB_m 587 (by decide +kernel) (by decide +kernel))⟩
theorem fl_X6_7 : FL RX6 7 6 0 (.array .int) true := ⟨RX6, TX6, 19, tyX6, rfl, by decide, inX6, tyX6_ok, nmX6, rfl, rfl, by decide +kernel, Or.inl (TB_m 587 (by decide +kernel) (by decide +kernel))⟩
theorem fg_X6_13 : FG RX6 13 6 1 := ⟨RX6, TX6, 19, rfl, by decide, inX6, Or.inl (TB_m 588 (by decide +kernel) (by decide +kernel))⟩
theorem fl_X6_13 : FL RX6 13 6 1 (.array .int) true := ⟨RX6, TX6, 19, tyX6, rfl, by decide, inX6, tyX6_ok, nmX6, rfl, rfl, by decide +kernel, Or.inl (TB_m 588 (by decide +kernel) (by decide +kernel))⟩
theorem fg_X6_16 : FG RX6 16 6 3 := ⟨RX6, TX6, 19, rfl, by decide, inX6, Or.inl (TB_m 590 (by decide +kernel) (by decide +kernel))⟩
theorem fl_X6_16 : FL RX6 16 6 3 (.array .int) true := ⟨RX6, TX6, 19, tyX6, rfl, by decide, inX6, tyX6_ok, nmX6, rfl, rfl, by decide +kernel, Or.inl (TB_m 590 (by decide +kernel) (by decide +kernel))⟩
theorem fg_X6_19 : FG RX6 19 6 4 := ⟨RX6, TX6, 19, rfl, by decide, inX6, Or.inl (TB_m 591 (by decide +kernel) (by decide +kernel))⟩
theorem fl_X6_19 : FL RX6 19 6 4 (.array .int) true := ⟨RX6, TX6, 19, tyX6, rfl, by decide, inX6, tyX6_ok, nmX6, rfl, rfl, by decide +kernel, Or.inl (TB_m 591 (by decide +kernel) (by decide +kernel))⟩
theorem fg_X6_22 : FG RX6 22 6 8 := ⟨RX6, TX6, 19, rfl, by decide, inX6, Or.inl (TB_m 595 (by decide +kernel) (by decide +kernel))⟩
theorem fl_X6_22 : FL RX6 22 6 8 (.array .int) true := ⟨RX6, TX6, 19, tyX6, rfl, by decide, inX6, tyX6_ok, nmX6, rfl, rfl, by decide +kernel, Or.inl (TB_m 595 (by decide +kernel) (by decide +kernel))⟩
theorem fg_X6_25 : FG RX6 25 6 12 := ⟨RX6, TX6, 19, rfl, by decide, inX6, Or.inl (TB_m 599 (by decide +kernel) (by decide +kernel))⟩
theorem fl_X6_25 : FL RX6 25 6 12 (.array .int) true := ⟨RX6, TX6, 19, tyX6, rfl, by decide, inX6, tyX6_ok, nmX6, rfl, rfl, by decide +kernel, Or.inl (TB_m 599 (by decide +kernel) (by decide +kernel))⟩
theorem fg_X6_28 : FG RX6 28 6 13 := ⟨RX6, TX6, 19, rfl, by decide, inX6, Or.inl (TB_m 600 (by decide +kernel) (by decide +kernel))⟩
theorem fl_X6_28 : FL RX6 28 6 13 (.array .int) true := ⟨RX6, TX6, 19, tyX6, rfl, by decide, inX6, tyX6_ok, nmX6, rfl, rfl, by decide +kernel, Or.inl (TB_m 600 (by decide +kernel) (by decide +kernel))⟩
theorem fg_X6_31 : FG RX6 31 6 15 := ⟨RX6, TX6, 19, rfl, by decide, inX6, Or.inl (TB_m 602 (by decide +kernel) (by decide +kernel))⟩
theorem fl_X6_31 : FL RX6 31 6 15 (.array .int) true := ⟨RX6, TX6, 19, tyX6, rfl, by decide, inX6, tyX6_ok, nmX6, rfl, rfl, by decide +kernel, Or.inl (TB_m 602 (by decide +kernel) (by decide +kernel))⟩
theorem fg_X6_34 : FG RX6 34 6 16 := ⟨RX6, TX6, 19, rfl, by decide, inX6, Or.inl (TB_m 603 (by decide +kernel) (by decide +kernel))⟩
theorem fl_X6_34 : FL RX6 34 6 16 (.array .int) true := ⟨RX6, TX6, 19, tyX6, rfl, by decide, inX6, tyX6_ok, nmX6, rfl, rfl, by decide +kernel, Or.inl (TB_m 603 (by decide +kernel) (by decide +kernel))⟩
theorem fg_X6_37 : FG RX6 37 6 17 := ⟨RX6, TX6, 19, rfl, by decide, inX6, Or.inl (TB_m 604 (by decide +kernel) (by decide +kernel))⟩
theorem fl_X6_37 : FL RX6 37 6 17 (.array .int) true := ⟨RX6, TX6, 19, tyX6, rfl, by decide, inX6, tyX6_ok, nmX6, rfl, rfl, by decide +kernel, Or.inl (TB_m 604 (by decide +kernel) (by decide +kernel))⟩
theorem fg_X6_40 : FG RX6 40 6 18 := ⟨RX6, TX6, 19, rfl, by decide, inX6, Or.inl (TB_m 605 (by decide +kernel) (by decide +kernel))⟩
theorem fl_X6_40 : FL RX6 40 6 18 (.array .int) true := ⟨RX6, TX6, 19, tyX6, rfl, by decide, inX6, tyX6_ok, nmX6, rfl, rfl, by decide +kernel, Or.inl (TB_m 605 (by decide +kernel) (by decide +kernel))⟩
theorem fg_X6_113 : FG RX6 113 6 2 := ⟨RX6, TX6, 19, rfl, by decide, inX6, Or.inl (TB_m 589 (by decide +kernel) (by decide +kernel))⟩
theorem fl_X6_113 : FL RX6 113 6 2 .int false := ⟨RX6, TX6, 19, tyX6, rfl, by decide, inX6, tyX6_ok, nmX6, rfl, rfl, by decide +kernel, Or.inl (TB_m 589 (by decide +kernel) (by decide +kernel))⟩
theorem fg_X6_117 : FG RX6 117 6 5 := ⟨RX6, TX6, 19, rfl, by decide, inX6, Or.inl (TB_m 592 (by decide +kernel) (by decide +kernel))⟩
theorem fl_X6_117 : FL RX6 117 6 5 .int false := ⟨RX6, TX6, 19, tyX6, rfl, by decide, inX6, tyX6_ok, nmX6, rfl, rfl, by decide +kernel, Or.inl (TB_m 592 (by decide +kernel) (by decide +kernel))⟩
theorem fg_X6_140 : FG RX6 140 6 6 := ⟨RX6, TX6, 19, rfl, by decide, inX6, Or.inl (TB_m 593 (by decide +kernel) (by decide +kernel))⟩
theorem fl_X6_140 : FL RX6 140 6 6 .int false := ⟨RX6, TX6, 19, tyX6, rfl, by decide, inX6, tyX6_ok, nmX6, rfl, rfl, by decide +kernel, Or.inl (TB_m 593 (by decide +kernel) (by decide +kernel))⟩
theorem fg_X6_143 : FG RX6 143 6 7 := ⟨RX6, TX6, 19, rfl, by decide, inX6, Or.inl (TB_m 594 (by decide +kernel) (by decide +kernel))⟩
theorem fl_X6_143 : FL RX6 143 6 7 .int false := ⟨RX6, TX6, 19, tyX6, rfl, by decide, inX6, tyX6_ok, nmX6, rfl, rfl, by decide +kernel, Or.inl (TB_m 594 (by decide +kernel) (by decide +kernel))⟩
theorem fg_X6_167 : FG RX6 167 6 9 := ⟨RX6, TX6, 19, rfl, by decide, inX6, Or.inl (TB_m 596 (by decide +kernel) (by decide +kernel))⟩
theorem fl_X6_167 : FL RX6 167 6 9 .int false := ⟨RX6, TX6, 19, tyX6, rfl, by decide, inX6, tyX6_ok, nmX6, rfl, rfl, by decide +kernel, Or.inl (TB_m 596 (by decide +kernel) (by decide +kernel))⟩
theorem fg_X6_170 : FG RX6 170 6 10 := ⟨RX6, TX6, 19, rfl, by decide, inX6, Or.inl (TB_m 597 (by decide +kernel) (by decide +kernel))⟩
theorem fl_X6_170 : FL RX6 170 6 10 .int false := ⟨RX6, TX6, 19, tyX6, rfl, by decide, inX6, tyX6_ok, nmX6, rfl, rfl, by decide +kernel, Or.inl (TB_m 597 (by decide +kernel) (by decide +kernel))⟩
theorem fg_X6_184 : FG RX6 184 6 11 := ⟨RX6, TX6, 19, rfl, by decide, inX6, Or.inl (TB_m 598 (by decide +kernel) (by decide +kernel))⟩
theorem fl_X6_184 : FL RX6 184 6 11 .int false := ⟨RX6, TX6, 19, tyX6, rfl, by decide, inX6, tyX6_ok, nmX6, rfl, rfl, by decide +kernel, Or.inl (TB_m 598 (by decide +kernel) (by decide +kernel))⟩
theorem fg_X6_202 : FG RX6 202 6 14 := ⟨RX6, TX6, 19, rfl, by decide, inX6, Or.inl (TB_m 601 (by decide +kernel) (by decide +kernel))⟩
theorem fl_X6_202 : FL RX6 202 6 14 .boolean false := ⟨RX6, TX6, 19, tyX6, rfl, by decide, inX6, tyX6_ok, nmX6, rfl, rfl, by decide +kernel, Or.inl (TB_m 601 (by decide +kernel) (by decide +kernel))⟩
abbrev I_X0_init : MI := (yX0_init, cX0_init, 1, none, 2, 41)
abbrev I_X0_forget : MI := (yX0_forget, cX0_forget, 1, none, 0, 0)
abbrev I_X0_foresee : MI := (yX0_foresee, cX0_foresee, 5, none, 4, 87)
abbrev I_X0_startOf : MI := (yX0_startOf, cX0_startOf, 3, (some .int), 0, 0)
abbrev I_X0_doneBy : MI := (yX0_doneBy, cX0_doneBy, 5, (some .int), 4, 87)
abbrev I_X0_seekPair : MI := (yX0_seekPair, cX0_seekPair, 6, none, 5, 111)
abbrev I_X0_mayHelp : MI := (yX0_mayHelp, cX0_mayHelp, 3, (some .boolean), 2, 42)
abbrev I_X1_init : MI := (yX1_init, cX1_init, 1, none, 1, 20)
abbrev I_X1_hold : MI := (yX1_hold, cX1_hold, 4, none, 0, 0)
abbrev I_X1_refusalAs : MI := (yX1_refusalAs, cX1_refusalAs, 2, (some .int), 0, 0)
abbrev I_X1_write : MI := (yX1_write, cX1_write, 3, none, 0, 0)
abbrev I_X1_areTimes : MI := (yX1_areTimes, cX1_areTimes, 4, (some .boolean), 0, 0)
abbrev I_X1_onlyGap : MI := (yX1_onlyGap, cX1_onlyGap, 6, (some .int), 0, 0)
abbrev I_X2_init : MI := (yX2_init, cX2_init, 1, none, 1, 20)
abbrev I_X2_append : MI := (yX2_append, cX2_append, 2, none, 0, 0)
abbrev I_X2_readActs : MI := (yX2_readActs, cX2_readActs, 3, (some .int), 3, 67)
abbrev I_X2_readAct : MI := (yX2_readAct, cX2_readAct, 2, (some .int), 2, 46)
abbrev I_X2_readSide : MI := (yX2_readSide, cX2_readSide, 3, (some .int), 1, 22)
abbrev I_X2_readNumber : MI := (yX2_readNumber, cX2_readNumber, 5, (some .int), 1, 22)
abbrev I_X2_peek : MI := (yX2_peek, cX2_peek, 1, (some .int), 0, 0)
abbrev I_X2_addAct : MI := (yX2_addAct, cX2_addAct, 3, none, 0, 0)
abbrev I_X3_init : MI := (yX3_init, cX3_init, 1, none, 1, 20)
abbrev I_X3_copyFrom : MI := (yX3_copyFrom, cX3_copyFrom, 2, none, 0, 0)
abbrev I_X3_newPrices : MI := (yX3_newPrices, cX3_newPrices, 4, none, 0, 0)
abbrev I_X3_take : MI := (yX3_take, cX3_take, 3, none, 1, 21)
abbrev I_X3_owed : MI := (yX3_owed, cX3_owed, 1, (some .int), 0, 0)
abbrev I_X4_init : MI := (yX4_init, cX4_init, 2, none, 1, 20)
abbrev I_X4_copyFrom : MI := (yX4_copyFrom, cX4_copyFrom, 2, none, 1, 26)
abbrev I_X4_addRecord : MI := (yX4_addRecord, cX4_addRecord, 4, (some .int), 0, 0)
abbrev I_X4_placeOf : MI := (yX4_placeOf, cX4_placeOf, 3, (some .int), 0, 0)
abbrev I_X4_emptyPlaces : MI := (yX4_emptyPlaces, cX4_emptyPlaces, 3, (some .int), 0, 0)
abbrev I_X4_swap : MI := (yX4_swap, cX4_swap, 4, none, 0, 0)
abbrev I_X4_isIn : MI := (yX4_isIn, cX4_isIn, 2, (some .boolean), 0, 0)
abbrev I_X4_howIs : MI := (yX4_howIs, cX4_howIs, 2, (some .int), 0, 0)
abbrev I_X4_makePin : MI := (yX4_makePin, cX4_makePin, 4, none, 0, 0)
abbrev I_X4_isAsked : MI := (yX4_isAsked, cX4_isAsked, 2, (some .boolean), 1, 21)
abbrev I_X4_isOut : MI := (yX4_isOut, cX4_isOut, 2, (some .boolean), 0, 0)
abbrev I_X4_isDone : MI := (yX4_isDone, cX4_isDone, 1, (some .boolean), 0, 0)
abbrev I_X4_ownSong : MI := (yX4_ownSong, cX4_ownSong, 1, (some .int), 0, 0)
abbrev I_X4_pass : MI := (yX4_pass, cX4_pass, 3, (some .int), 3, 65)
abbrev I_X4_endStep : MI := (yX4_endStep, cX4_endStep, 1, none, 2, 45)
abbrev I_X4_look : MI := (yX4_look, cX4_look, 2, none, 1, 21)
abbrev I_X4_goOn : MI := (yX4_goOn, cX4_goOn, 2, none, 0, 0)
abbrev I_X4_play : MI := (yX4_play, cX4_play, 4, none, 1, 22)
abbrev I_X5_init : MI := (yX5_init, cX5_init, 2, none, 3, 61)
abbrev I_X5_within : MI := (yX5_within, cX5_within, 3, (some .boolean), 0, 0)
abbrev I_X5_record : MI := (yX5_record, cX5_record, 3, (some .int), 1, 23)
abbrev I_X5_change : MI := (yX5_change, cX5_change, 5, (some .int), 1, 22)
abbrev I_X5_told : MI := (yX5_told, cX5_told, 3, (some .int), 1, 22)
abbrev I_X5_song : MI := (yX5_song, cX5_song, 3, (some .int), 1, 22)
abbrev I_X5_stick : MI := (yX5_stick, cX5_stick, 4, (some .int), 1, 23)
abbrev I_X5_prices : MI := (yX5_prices, cX5_prices, 4, (some .int), 1, 23)
abbrev I_X5_coin : MI := (yX5_coin, cX5_coin, 2, (some .int), 2, 43)
abbrev I_X5_set : MI := (yX5_set, cX5_set, 4, (some .int), 1, 22)
abbrev I_X5_key : MI := (yX5_key, cX5_key, 2, (some .int), 1, 22)
abbrev I_X5_keyInVain : MI := (yX5_keyInVain, cX5_keyInVain, 1, (some .int), 0, 0)
abbrev I_X5_ticks : MI := (yX5_ticks, cX5_ticks, 4, (some .int), 4, 87)
abbrev I_X5_carriage : MI := (yX5_carriage, cX5_carriage, 2, (some .int), 0, 0)
abbrev I_X5_count : MI := (yX5_count, cX5_count, 2, (some .int), 1, 22)
abbrev I_X5_next : MI := (yX5_next, cX5_next, 2, (some .int), 5, 111)
abbrev I_X5_when : MI := (yX5_when, cX5_when, 2, (some .int), 5, 111)
abbrev I_X5_done : MI := (yX5_done, cX5_done, 1, (some .int), 5, 111)
abbrev I_X5_better : MI := (yX5_better, cX5_better, 2, (some .int), 6, 136)
abbrev I_X5_heard : MI := (yX5_heard, cX5_heard, 8, (some .int), 3, 69)
abbrev I_X5_mayBe : MI := (yX5_mayBe, cX5_mayBe, 11, (some .int), 3, 69)
abbrev I_X5_wireRefusal : MI := (yX5_wireRefusal, cX5_wireRefusal, 7, (some .int), 2, 43)
abbrev I_X5_songOfPulses : MI := (yX5_songOfPulses, cX5_songOfPulses, 2, (some .int), 1, 22)
abbrev I_X5_bitOfPulses : MI := (yX5_bitOfPulses, cX5_bitOfPulses, 3, (some .int), 2, 43)
abbrev I_X5_type : MI := (yX5_type, cX5_type, 5, (some .int), 1, 22)
abbrev I_X5_byteOf : MI := (yX5_byteOf, cX5_byteOf, 3, (some .int), 0, 0)
abbrev I_X5_evening : MI := (yX5_evening, cX5_evening, 6, (some .int), 5, 110)
abbrev I_X5_image : MI := (yX5_image, cX5_image, 1, (some .int), 2, 47)
abbrev I_X5_restore : MI := (yX5_restore, cX5_restore, 1, (some .int), 2, 47)
abbrev I_X5_sheet : MI := (yX5_sheet, cX5_sheet, 4, (some .int), 2, 43)
abbrev I_X5_drop : MI := (yX5_drop, cX5_drop, 2, (some .int), 1, 22)
abbrev I_X5_item : MI := (yX5_item, cX5_item, 6, (some .int), 2, 43)
abbrev I_X5_isSheetOfLane : MI := (yX5_isSheetOfLane, cX5_isSheetOfLane, 2, (some .boolean), 1, 22)
abbrev I_X6_in : MI := (yX6_in, cX6_in, 6, (some .boolean), 0, 0)
abbrev I_X6_init : MI := (yX6_init, cX6_init, 2, none, 1, 20)
abbrev I_X6_keep : MI := (yX6_keep, cX6_keep, 3, none, 0, 0)
abbrev I_X6_bring : MI := (yX6_bring, cX6_bring, 3, none, 0, 0)
abbrev I_X6_isRecord : MI := (yX6_isRecord, cX6_isRecord, 2, (some .boolean), 1, 25)
abbrev I_X6_isPlace : MI := (yX6_isPlace, cX6_isPlace, 1, (some .boolean), 1, 25)
abbrev I_X6_isSong : MI := (yX6_isSong, cX6_isSong, 1, (some .boolean), 1, 25)
abbrev I_X6_record : MI := (yX6_record, cX6_record, 3, (some .int), 1, 25)
abbrev I_X6_placeOf : MI := (yX6_placeOf, cX6_placeOf, 4, (some .int), 0, 0)
abbrev I_X6_isOut : MI := (yX6_isOut, cX6_isOut, 2, (some .boolean), 0, 0)
abbrev I_X6_change : MI := (yX6_change, cX6_change, 5, (some .int), 2, 46)
abbrev I_X6_told : MI := (yX6_told, cX6_told, 3, (some .int), 2, 46)
abbrev I_X6_song : MI := (yX6_song, cX6_song, 3, (some .int), 2, 45)
abbrev I_X6_stick : MI := (yX6_stick, cX6_stick, 4, (some .int), 2, 45)
abbrev I_X6_prices : MI := (yX6_prices, cX6_prices, 4, (some .int), 1, 25)
abbrev I_X6_owes : MI := (yX6_owes, cX6_owes, 1, (some .int), 0, 0)
abbrev I_X6_coin : MI := (yX6_coin, cX6_coin, 3, (some .int), 1, 25)
abbrev I_X6_set : MI := (yX6_set, cX6_set, 4, (some .int), 1, 25)
abbrev I_X6_key : MI := (yX6_key, cX6_key, 3, (some .int), 2, 45)
abbrev I_X6_pinsIn : MI := (yX6_pinsIn, cX6_pinsIn, 3, (some .int), 0, 0)
abbrev I_X6_songHere : MI := (yX6_songHere, cX6_songHere, 1, (some .int), 0, 0)
abbrev I_X6_does : MI := (yX6_does, cX6_does, 3, none, 0, 0)
abbrev I_X6_goOn : MI := (yX6_goOn, cX6_goOn, 1, none, 1, 22)
abbrev I_X6_look : MI := (yX6_look, cX6_look, 3, none, 2, 42)
abbrev I_X6_play : MI := (yX6_play, cX6_play, 3, none, 1, 22)
abbrev I_X6_tick : MI := (yX6_tick, cX6_tick, 1, none, 3, 64)
abbrev I_X6_ticks : MI := (yX6_ticks, cX6_ticks, 3, (some .int), 4, 84)
abbrev I_X6_carriage : MI := (yX6_carriage, cX6_carriage, 2, (some .int), 1, 25)
abbrev I_X6_count : MI := (yX6_count, cX6_count, 4, (some .int), 1, 22)
abbrev I_X6_foretell : MI := (yX6_foretell, cX6_foretell, 4, none, 4, 84)
abbrev I_X6_next : MI := (yX6_next, cX6_next, 2, (some .int), 5, 107)
abbrev I_X6_when : MI := (yX6_when, cX6_when, 3, (some .int), 5, 107)
abbrev I_X6_isStuckIn : MI := (yX6_isStuckIn, cX6_isStuckIn, 3, (some .boolean), 0, 0)
abbrev I_X6_done : MI := (yX6_done, cX6_done, 1, (some .int), 5, 107)
abbrev I_X6_better : MI := (yX6_better, cX6_better, 8, (some .int), 5, 107)
abbrev I_X6_hear : MI := (yX6_hear, cX6_hear, 11, (some .int), 2, 49)
abbrev I_X6_isTold : MI := (yX6_isTold, cX6_isTold, 2, (some .boolean), 1, 25)
abbrev I_X6_songOf : MI := (yX6_songOf, cX6_songOf, 2, (some .int), 0, 0)
abbrev I_X6_heard : MI := (yX6_heard, cX6_heard, 7, (some .int), 3, 79)
abbrev I_X6_mayBe : MI := (yX6_mayBe, cX6_mayBe, 8, (some .int), 3, 79)
abbrev I_X6_type : MI := (yX6_type, cX6_type, 5, (some .int), 1, 25)
abbrev I_X6_nextByte : MI := (yX6_nextByte, cX6_nextByte, 1, (some .int), 0, 0)
abbrev I_X6_readNumber : MI := (yX6_readNumber, cX6_readNumber, 4, (some .int), 1, 25)
abbrev I_X6_readAct : MI := (yX6_readAct, cX6_readAct, 3, (some .boolean), 2, 48)
abbrev I_X6_evening : MI := (yX6_evening, cX6_evening, 4, (some .int), 5, 106)
abbrev I_X6_image : MI := (yX6_image, cX6_image, 1, (some .int), 1, 22)
abbrev I_X6_restore : MI := (yX6_restore, cX6_restore, 1, (some .int), 1, 22)
abbrev I_X6_isSheet : MI := (yX6_isSheet, cX6_isSheet, 2, (some .boolean), 1, 25)
abbrev I_X6_sheet : MI := (yX6_sheet, cX6_sheet, 5, (some .int), 2, 46)
abbrev I_X6_drop : MI := (yX6_drop, cX6_drop, 2, (some .int), 1, 25)
abbrev I_X6_lacksRow : MI := (yX6_lacksRow, cX6_lacksRow, 5, (some .int), 1, 25)
abbrev I_X6_item : MI := (yX6_item, cX6_item, 6, (some .int), 2, 49)
abbrev I_J6_bitCount_0f7a4 : MI := (yJ6_bitCount_0f7a4, cJ6_bitCount_0f7a4, 1, (some .int), 0, 0)
abbrev I_L_law : MI := (yL_law, cL_law, 4, some .boolean, 9, 316)
theorem mk_X0_init : MIt I_X0_init 0 := ⟨⟨TB_m 163 (by decide +kernel) (by decide +kernel), TB_m 36 (by decide +kernel) (by decide +kernel), by decide +kernel⟩, TB_m 162 (by decide +kernel) (by decide +kernel), rfl, rfl⟩
theorem mk_X0_forget : MVt I_X0_forget 0 0 := ⟨⟨TB_m 300 (by decide +kernel) (by decide +kernel), TB_m 36 (by decide +kernel) (by decide +kernel), by decide +kernel⟩, TB_m 298 (by decide +kernel) (by decide +kernel), TB_m 299 (by decide +kernel) (by decide +kernel), TX0, 9, rfl⟩
theorem mk_X0_foresee : MVt I_X0_foresee 1 0 := ⟨⟨TB_m 423 (by decide +kernel) (by decide +kernel), TB_m 36 (by decide +kernel) (by decide +kernel), by decide +kernel⟩, TB_m 421 (by decide +kernel) (by decide +kernel), TB_m 422 (by decide +kernel) (by decide +kernel), TX0, 9, rfl⟩
theorem mk_X0_startOf : MVt I_X0_startOf 1 0 := ⟨⟨TB_m 441 (by decide +kernel) (by decide +kernel), TB_m 36 (by decide +kernel) (by decide +kernel), by decide +kernel⟩, TB_m 439 (by decide +kernel) (by decide +kernel), TB_m 440 (by decide +kernel) (by decide +kernel), TX0, 9, rfl⟩
theorem mk_X0_doneBy : MVt I_X0_doneBy 3 0 := ⟨⟨TB_m 449 (by decide +kernel) (by decide +kernel), TB_m 36 (by decide +kernel) (by decide +kernel), by decide +kernel⟩, TB_m 447 (by decide +kernel) (by decide +kernel), TB_m 448 (by decide +kernel) (by decide +kernel), TX0, 9, rfl⟩
theorem mk_X0_seekPair : MVt I_X0_seekPair 1 0 := ⟨⟨TB_m 461 (by decide +kernel) (by decide +kernel), TB_m 36 (by decide +kernel) (by decide +kernel), by decide +kernel⟩, TB_m 459 (by decide +kernel) (by decide +kernel), TB_m 460 (by decide +kernel) (by decide +kernel), TX0, 9, rfl⟩
theorem mk_X0_mayHelp : MSt I_X0_mayHelp 3 := ⟨⟨TB_m 465 (by decide +kernel) (by decide +kernel), TB_m 36 (by decide +kernel) (by decide +kernel), by decide +kernel⟩, TB_m 464 (by decide +kernel) (by decide +kernel)⟩
theorem mk_X1_init : MIt I_X1_init 0 := ⟨⟨TB_m 235 (by decide +kernel) (by decide +kernel), TB_m 38 (by decide +kernel) (by decide +kernel), by decide +kernel⟩, TB_m 234 (by decide +kernel) (by decide +kernel), rfl, rfl⟩
theorem mk_X1_hold : MVt I_X1_hold 2 1 := ⟨⟨TB_m 568 (by decide +kernel) (by decide +kernel), TB_m 38 (by decide +kernel) (by decide +kernel), by decide +kernel⟩, TB_m 566 (by decide +kernel) (by decide +kernel), TB_m 567 (by decide +kernel) (by decide +kernel), TX1, 3, rfl⟩
theorem mk_X1_refusalAs : MVt I_X1_refusalAs 1 1 := ⟨⟨TB_m 486 (by decide +kernel) (by decide +kernel), TB_m 38 (by decide +kernel) (by decide +kernel), by decide +kernel⟩, TB_m 484 (by decide +kernel) (by decide +kernel), TB_m 485 (by decide +kernel) (by decide +kernel), TX1, 3, rfl⟩
theorem mk_X1_write : MVt I_X1_write 2 1 := ⟨⟨TB_m 580 (by decide +kernel) (by decide +kernel), TB_m 38 (by decide +kernel) (by decide +kernel), by decide +kernel⟩, TB_m 578 (by decide +kernel) (by decide +kernel), TB_m 579 (by decide +kernel) (by decide +kernel), TX1, 3, rfl⟩
theorem mk_X1_areTimes : MVt I_X1_areTimes 2 1 := ⟨⟨TB_m 490 (by decide +kernel) (by decide +kernel), TB_m 38 (by decide +kernel) (by decide +kernel), by decide +kernel⟩, TB_m 488 (by decide +kernel) (by decide +kernel), TB_m 489 (by decide +kernel) (by decide +kernel), TX1, 3, rfl⟩
theorem mk_X1_onlyGap : MVt I_X1_onlyGap 3 1 := ⟨⟨TB_m 494 (by decide +kernel) (by decide +kernel), TB_m 38 (by decide +kernel) (by decide +kernel), by decide +kernel⟩, TB_m 492 (by decide +kernel) (by decide +kernel), TB_m 493 (by decide +kernel) (by decide +kernel), TX1, 3, rfl⟩
theorem mk_X2_init : MIt I_X2_init 0 := ⟨⟨TB_m 204 (by decide +kernel) (by decide +kernel), TB_m 37 (by decide +kernel) (by decide +kernel), by decide +kernel⟩, TB_m 203 (by decide +kernel) (by decide +kernel), rfl, rfl⟩
theorem mk_X2_append : MVt I_X2_append 1 2 := ⟨⟨TB_m 515 (by decide +kernel) (by decide +kernel), TB_m 37 (by decide +kernel) (by decide +kernel), by decide +kernel⟩, TB_m 513 (by decide +kernel) (by decide +kernel), TB_m 514 (by decide +kernel) (by decide +kernel), TX2, 6, rfl⟩
theorem mk_X2_readActs : MVt I_X2_readActs 0 2 := ⟨⟨TB_m 523 (by decide +kernel) (by decide +kernel), TB_m 37 (by decide +kernel) (by decide +kernel), by decide +kernel⟩, TB_m 521 (by decide +kernel) (by decide +kernel), TB_m 522 (by decide +kernel) (by decide +kernel), TX2, 6, rfl⟩
theorem mk_X2_readAct : MVt I_X2_readAct 0 2 := ⟨⟨TB_m 527 (by decide +kernel) (by decide +kernel), TB_m 37 (by decide +kernel) (by decide +kernel), by decide +kernel⟩, TB_m 526 (by decide +kernel) (by decide +kernel), TB_m 7 (by decide +kernel) (by decide +kernel), TX2, 6, rfl⟩
theorem mk_X2_readSide : MVt I_X2_readSide 1 2 := ⟨⟨TB_m 535 (by decide +kernel) (by decide +kernel), TB_m 37 (by decide +kernel) (by decide +kernel), by decide +kernel⟩, TB_m 534 (by decide +kernel) (by decide +kernel), TB_m 9 (by decide +kernel) (by decide +kernel), TX2, 6, rfl⟩
theorem mk_X2_readNumber : MVt I_X2_readNumber 2 2 := ⟨⟨TB_m 543 (by decide +kernel) (by decide +kernel), TB_m 37 (by decide +kernel) (by decide +kernel), by decide +kernel⟩, TB_m 542 (by decide +kernel) (by decide +kernel), TB_m 11 (by decide +kernel) (by decide +kernel), TX2, 6, rfl⟩
theorem mk_X2_peek : MVt I_X2_peek 0 2 := ⟨⟨TB_m 531 (by decide +kernel) (by decide +kernel), TB_m 37 (by decide +kernel) (by decide +kernel), by decide +kernel⟩, TB_m 530 (by decide +kernel) (by decide +kernel), TB_m 8 (by decide +kernel) (by decide +kernel), TX2, 6, rfl⟩
theorem mk_X2_addAct : MVt I_X2_addAct 2 2 := ⟨⟨TB_m 539 (by decide +kernel) (by decide +kernel), TB_m 37 (by decide +kernel) (by decide +kernel), by decide +kernel⟩, TB_m 538 (by decide +kernel) (by decide +kernel), TB_m 10 (by decide +kernel) (by decide +kernel), TX2, 6, rfl⟩
theorem mk_X3_init : MIt I_X3_init 0 := ⟨⟨TB_m 128 (by decide +kernel) (by decide +kernel), TB_m 35 (by decide +kernel) (by decide +kernel), by decide +kernel⟩, TB_m 127 (by decide +kernel) (by decide +kernel), rfl, rfl⟩
theorem mk_X3_copyFrom : MVt I_X3_copyFrom 1 3 := ⟨⟨TB_m 556 (by decide +kernel) (by decide +kernel), TB_m 35 (by decide +kernel) (by decide +kernel), by decide +kernel⟩, TB_m 554 (by decide +kernel) (by decide +kernel), TB_m 555 (by decide +kernel) (by decide +kernel), TX3, 8, rfl⟩
theorem mk_X3_newPrices : MVt I_X3_newPrices 3 3 := ⟨⟨TB_m 332 (by decide +kernel) (by decide +kernel), TB_m 35 (by decide +kernel) (by decide +kernel), by decide +kernel⟩, TB_m 330 (by decide +kernel) (by decide +kernel), TB_m 331 (by decide +kernel) (by decide +kernel), TX3, 8, rfl⟩
theorem mk_X3_take : MVt I_X3_take 1 3 := ⟨⟨TB_m 340 (by decide +kernel) (by decide +kernel), TB_m 35 (by decide +kernel) (by decide +kernel), by decide +kernel⟩, TB_m 338 (by decide +kernel) (by decide +kernel), TB_m 339 (by decide +kernel) (by decide +kernel), TX3, 8, rfl⟩
theorem mk_X3_owed : MVt I_X3_owed 0 3 := ⟨⟨TB_m 344 (by decide +kernel) (by decide +kernel), TB_m 35 (by decide +kernel) (by decide +kernel), by decide +kernel⟩, TB_m 343 (by decide +kernel) (by decide +kernel), TB_m 0 (by decide +kernel) (by decide +kernel), TX3, 8, rfl⟩
theorem mk_X4_init : MIt I_X4_init 0 := ⟨⟨TB_m 55 (by decide +kernel) (by decide +kernel), TB_m 34 (by decide +kernel) (by decide +kernel), by decide +kernel⟩, TB_m 54 (by decide +kernel) (by decide +kernel), rfl, rfl⟩
theorem mk_X4_copyFrom : MVt I_X4_copyFrom 1 4 := ⟨⟨TB_m 427 (by decide +kernel) (by decide +kernel), TB_m 34 (by decide +kernel) (by decide +kernel), by decide +kernel⟩, TB_m 425 (by decide +kernel) (by decide +kernel), TB_m 426 (by decide +kernel) (by decide +kernel), TX4, 16, rfl⟩
theorem mk_X4_addRecord : MVt I_X4_addRecord 2 4 := ⟨⟨TB_m 284 (by decide +kernel) (by decide +kernel), TB_m 34 (by decide +kernel) (by decide +kernel), by decide +kernel⟩, TB_m 282 (by decide +kernel) (by decide +kernel), TB_m 283 (by decide +kernel) (by decide +kernel), TX4, 16, rfl⟩
theorem mk_X4_placeOf : MVt I_X4_placeOf 1 4 := ⟨⟨TB_m 292 (by decide +kernel) (by decide +kernel), TB_m 34 (by decide +kernel) (by decide +kernel), by decide +kernel⟩, TB_m 290 (by decide +kernel) (by decide +kernel), TB_m 291 (by decide +kernel) (by decide +kernel), TX4, 16, rfl⟩
theorem mk_X4_emptyPlaces : MVt I_X4_emptyPlaces 0 4 := ⟨⟨TB_m 415 (by decide +kernel) (by decide +kernel), TB_m 34 (by decide +kernel) (by decide +kernel), by decide +kernel⟩, TB_m 413 (by decide +kernel) (by decide +kernel), TB_m 414 (by decide +kernel) (by decide +kernel), TX4, 16, rfl⟩
theorem mk_X4_swap : MVt I_X4_swap 2 4 := ⟨⟨TB_m 453 (by decide +kernel) (by decide +kernel), TB_m 34 (by decide +kernel) (by decide +kernel), by decide +kernel⟩, TB_m 451 (by decide +kernel) (by decide +kernel), TB_m 452 (by decide +kernel) (by decide +kernel), TX4, 16, rfl⟩
theorem mk_X4_isIn : MVt I_X4_isIn 1 4 := ⟨⟨TB_m 312 (by decide +kernel) (by decide +kernel), TB_m 34 (by decide +kernel) (by decide +kernel), by decide +kernel⟩, TB_m 310 (by decide +kernel) (by decide +kernel), TB_m 311 (by decide +kernel) (by decide +kernel), TX4, 16, rfl⟩
theorem mk_X4_howIs : MVt I_X4_howIs 1 4 := ⟨⟨TB_m 316 (by decide +kernel) (by decide +kernel), TB_m 34 (by decide +kernel) (by decide +kernel), by decide +kernel⟩, TB_m 314 (by decide +kernel) (by decide +kernel), TB_m 315 (by decide +kernel) (by decide +kernel), TX4, 16, rfl⟩
theorem mk_X4_makePin : MVt I_X4_makePin 2 4 := ⟨⟨TB_m 324 (by decide +kernel) (by decide +kernel), TB_m 34 (by decide +kernel) (by decide +kernel), by decide +kernel⟩, TB_m 322 (by decide +kernel) (by decide +kernel), TB_m 323 (by decide +kernel) (by decide +kernel), TX4, 16, rfl⟩
theorem mk_X4_isAsked : MVt I_X4_isAsked 1 4 := ⟨⟨TB_m 470 (by decide +kernel) (by decide +kernel), TB_m 34 (by decide +kernel) (by decide +kernel), by decide +kernel⟩, TB_m 468 (by decide +kernel) (by decide +kernel), TB_m 469 (by decide +kernel) (by decide +kernel), TX4, 16, rfl⟩
theorem mk_X4_isOut : MVt I_X4_isOut 1 4 := ⟨⟨TB_m 296 (by decide +kernel) (by decide +kernel), TB_m 34 (by decide +kernel) (by decide +kernel), by decide +kernel⟩, TB_m 294 (by decide +kernel) (by decide +kernel), TB_m 295 (by decide +kernel) (by decide +kernel), TX4, 16, rfl⟩
theorem mk_X4_isDone : MVt I_X4_isDone 0 4 := ⟨⟨TB_m 372 (by decide +kernel) (by decide +kernel), TB_m 34 (by decide +kernel) (by decide +kernel), by decide +kernel⟩, TB_m 370 (by decide +kernel) (by decide +kernel), TB_m 371 (by decide +kernel) (by decide +kernel), TX4, 16, rfl⟩
theorem mk_X4_ownSong : MVt I_X4_ownSong 0 4 := ⟨⟨TB_m 380 (by decide +kernel) (by decide +kernel), TB_m 34 (by decide +kernel) (by decide +kernel), by decide +kernel⟩, TB_m 378 (by decide +kernel) (by decide +kernel), TB_m 379 (by decide +kernel) (by decide +kernel), TX4, 16, rfl⟩
theorem mk_X4_pass : MVt I_X4_pass 1 4 := ⟨⟨TB_m 368 (by decide +kernel) (by decide +kernel), TB_m 34 (by decide +kernel) (by decide +kernel), by decide +kernel⟩, TB_m 366 (by decide +kernel) (by decide +kernel), TB_m 367 (by decide +kernel) (by decide +kernel), TX4, 16, rfl⟩
theorem mk_X4_endStep : MVt I_X4_endStep 0 4 := ⟨⟨TB_m 391 (by decide +kernel) (by decide +kernel), TB_m 34 (by decide +kernel) (by decide +kernel), by decide +kernel⟩, TB_m 390 (by decide +kernel) (by decide +kernel), TB_m 4 (by decide +kernel) (by decide +kernel), TX4, 16, rfl⟩
theorem mk_X4_look : MVt I_X4_look 0 4 := ⟨⟨TB_m 376 (by decide +kernel) (by decide +kernel), TB_m 34 (by decide +kernel) (by decide +kernel), by decide +kernel⟩, TB_m 375 (by decide +kernel) (by decide +kernel), TB_m 2 (by decide +kernel) (by decide +kernel), TX4, 16, rfl⟩
theorem mk_X4_goOn : MVt I_X4_goOn 0 4 := ⟨⟨TB_m 384 (by decide +kernel) (by decide +kernel), TB_m 34 (by decide +kernel) (by decide +kernel), by decide +kernel⟩, TB_m 383 (by decide +kernel) (by decide +kernel), TB_m 3 (by decide +kernel) (by decide +kernel), TX4, 16, rfl⟩
theorem mk_X4_play : MVt I_X4_play 0 4 := ⟨⟨TB_m 396 (by decide +kernel) (by decide +kernel), TB_m 34 (by decide +kernel) (by decide +kernel), by decide +kernel⟩, TB_m 395 (by decide +kernel) (by decide +kernel), TB_m 5 (by decide +kernel) (by decide +kernel), TX4, 16, rfl⟩
theorem mk_X5_init : MIt I_X5_init 0 := ⟨⟨TB_m 47 (by decide +kernel) (by decide +kernel), TB_m 33 (by decide +kernel) (by decide +kernel), by decide +kernel⟩, TB_m 46 (by decide +kernel) (by decide +kernel), rfl, rfl⟩
theorem mk_X5_within : MSt I_X5_within 3 := ⟨⟨TB_m 280 (by decide +kernel) (by decide +kernel), TB_m 33 (by decide +kernel) (by decide +kernel), by decide +kernel⟩, TB_m 279 (by decide +kernel) (by decide +kernel)⟩
theorem mk_X5_record : MVt I_X5_record 2 5 := ⟨⟨TB_m 277 (by decide +kernel) (by decide +kernel), TB_m 33 (by decide +kernel) (by decide +kernel), by decide +kernel⟩, TB_m 275 (by decide +kernel) (by decide +kernel), TB_m 276 (by decide +kernel) (by decide +kernel), TX5, 8, rfl⟩
theorem mk_X5_change : MVt I_X5_change 2 5 := ⟨⟨TB_m 288 (by decide +kernel) (by decide +kernel), TB_m 33 (by decide +kernel) (by decide +kernel), by decide +kernel⟩, TB_m 286 (by decide +kernel) (by decide +kernel), TB_m 287 (by decide +kernel) (by decide +kernel), TX5, 8, rfl⟩
theorem mk_X5_told : MVt I_X5_told 2 5 := ⟨⟨TB_m 304 (by decide +kernel) (by decide +kernel), TB_m 33 (by decide +kernel) (by decide +kernel), by decide +kernel⟩, TB_m 302 (by decide +kernel) (by decide +kernel), TB_m 303 (by decide +kernel) (by decide +kernel), TX5, 8, rfl⟩
theorem mk_X5_song : MVt I_X5_song 2 5 := ⟨⟨TB_m 308 (by decide +kernel) (by decide +kernel), TB_m 33 (by decide +kernel) (by decide +kernel), by decide +kernel⟩, TB_m 306 (by decide +kernel) (by decide +kernel), TB_m 307 (by decide +kernel) (by decide +kernel), TX5, 8, rfl⟩
theorem mk_X5_stick : MVt I_X5_stick 2 5 := ⟨⟨TB_m 320 (by decide +kernel) (by decide +kernel), TB_m 33 (by decide +kernel) (by decide +kernel), by decide +kernel⟩, TB_m 318 (by decide +kernel) (by decide +kernel), TB_m 319 (by decide +kernel) (by decide +kernel), TX5, 8, rfl⟩
theorem mk_X5_prices : MVt I_X5_prices 3 5 := ⟨⟨TB_m 328 (by decide +kernel) (by decide +kernel), TB_m 33 (by decide +kernel) (by decide +kernel), by decide +kernel⟩, TB_m 326 (by decide +kernel) (by decide +kernel), TB_m 327 (by decide +kernel) (by decide +kernel), TX5, 8, rfl⟩
theorem mk_X5_coin : MVt I_X5_coin 1 5 := ⟨⟨TB_m 336 (by decide +kernel) (by decide +kernel), TB_m 33 (by decide +kernel) (by decide +kernel), by decide +kernel⟩, TB_m 334 (by decide +kernel) (by decide +kernel), TB_m 335 (by decide +kernel) (by decide +kernel), TX5, 8, rfl⟩
theorem mk_X5_set : MVt I_X5_set 2 5 := ⟨⟨TB_m 351 (by decide +kernel) (by decide +kernel), TB_m 33 (by decide +kernel) (by decide +kernel), by decide +kernel⟩, TB_m 349 (by decide +kernel) (by decide +kernel), TB_m 350 (by decide +kernel) (by decide +kernel), TX5, 8, rfl⟩
theorem mk_X5_key : MVt I_X5_key 1 5 := ⟨⟨TB_m 355 (by decide +kernel) (by decide +kernel), TB_m 33 (by decide +kernel) (by decide +kernel), by decide +kernel⟩, TB_m 353 (by decide +kernel) (by decide +kernel), TB_m 354 (by decide +kernel) (by decide +kernel), TX5, 8, rfl⟩
theorem mk_X5_keyInVain : MVt I_X5_keyInVain 0 5 := ⟨⟨TB_m 359 (by decide +kernel) (by decide +kernel), TB_m 33 (by decide +kernel) (by decide +kernel), by decide +kernel⟩, TB_m 358 (by decide +kernel) (by decide +kernel), TB_m 1 (by decide +kernel) (by decide +kernel), TX5, 8, rfl⟩
theorem mk_X5_ticks : MVt I_X5_ticks 1 5 := ⟨⟨TB_m 363 (by decide +kernel) (by decide +kernel), TB_m 33 (by decide +kernel) (by decide +kernel), by decide +kernel⟩, TB_m 361 (by decide +kernel) (by decide +kernel), TB_m 362 (by decide +kernel) (by decide +kernel), TX5, 8, rfl⟩
theorem mk_X5_carriage : MVt I_X5_carriage 1 5 := ⟨⟨TB_m 401 (by decide +kernel) (by decide +kernel), TB_m 33 (by decide +kernel) (by decide +kernel), by decide +kernel⟩, TB_m 399 (by decide +kernel) (by decide +kernel), TB_m 400 (by decide +kernel) (by decide +kernel), TX5, 8, rfl⟩
theorem mk_X5_count : MVt I_X5_count 1 5 := ⟨⟨TB_m 405 (by decide +kernel) (by decide +kernel), TB_m 33 (by decide +kernel) (by decide +kernel), by decide +kernel⟩, TB_m 403 (by decide +kernel) (by decide +kernel), TB_m 404 (by decide +kernel) (by decide +kernel), TX5, 8, rfl⟩
theorem mk_X5_next : MVt I_X5_next 1 5 := ⟨⟨TB_m 419 (by decide +kernel) (by decide +kernel), TB_m 33 (by decide +kernel) (by decide +kernel), by decide +kernel⟩, TB_m 417 (by decide +kernel) (by decide +kernel), TB_m 418 (by decide +kernel) (by decide +kernel), TX5, 8, rfl⟩
theorem mk_X5_when : MVt I_X5_when 1 5 := ⟨⟨TB_m 437 (by decide +kernel) (by decide +kernel), TB_m 33 (by decide +kernel) (by decide +kernel), by decide +kernel⟩, TB_m 435 (by decide +kernel) (by decide +kernel), TB_m 436 (by decide +kernel) (by decide +kernel), TX5, 8, rfl⟩
theorem mk_X5_done : MVt I_X5_done 0 5 := ⟨⟨TB_m 445 (by decide +kernel) (by decide +kernel), TB_m 33 (by decide +kernel) (by decide +kernel), by decide +kernel⟩, TB_m 443 (by decide +kernel) (by decide +kernel), TB_m 444 (by decide +kernel) (by decide +kernel), TX5, 8, rfl⟩
theorem mk_X5_better : MVt I_X5_better 1 5 := ⟨⟨TB_m 457 (by decide +kernel) (by decide +kernel), TB_m 33 (by decide +kernel) (by decide +kernel), by decide +kernel⟩, TB_m 455 (by decide +kernel) (by decide +kernel), TB_m 456 (by decide +kernel) (by decide +kernel), TX5, 8, rfl⟩
theorem mk_X5_heard : MVt I_X5_heard 5 5 := ⟨⟨TB_m 475 (by decide +kernel) (by decide +kernel), TB_m 33 (by decide +kernel) (by decide +kernel), by decide +kernel⟩, TB_m 473 (by decide +kernel) (by decide +kernel), TB_m 474 (by decide +kernel) (by decide +kernel), TX5, 8, rfl⟩
theorem mk_X5_mayBe : MVt I_X5_mayBe 5 5 := ⟨⟨TB_m 501 (by decide +kernel) (by decide +kernel), TB_m 33 (by decide +kernel) (by decide +kernel), by decide +kernel⟩, TB_m 499 (by decide +kernel) (by decide +kernel), TB_m 500 (by decide +kernel) (by decide +kernel), TX5, 8, rfl⟩
theorem mk_X5_wireRefusal : MVt I_X5_wireRefusal 5 5 := ⟨⟨TB_m 479 (by decide +kernel) (by decide +kernel), TB_m 33 (by decide +kernel) (by decide +kernel), by decide +kernel⟩, TB_m 478 (by decide +kernel) (by decide +kernel), TB_m 6 (by decide +kernel) (by decide +kernel), TX5, 8, rfl⟩
theorem mk_X5_songOfPulses : MSt I_X5_songOfPulses 2 := ⟨⟨TB_m 497 (by decide +kernel) (by decide +kernel), TB_m 33 (by decide +kernel) (by decide +kernel), by decide +kernel⟩, TB_m 496 (by decide +kernel) (by decide +kernel)⟩
theorem mk_X5_bitOfPulses : MSt I_X5_bitOfPulses 2 := ⟨⟨TB_m 504 (by decide +kernel) (by decide +kernel), TB_m 33 (by decide +kernel) (by decide +kernel), by decide +kernel⟩, TB_m 503 (by decide +kernel) (by decide +kernel)⟩
theorem mk_X5_type : MVt I_X5_type 2 5 := ⟨⟨TB_m 508 (by decide +kernel) (by decide +kernel), TB_m 33 (by decide +kernel) (by decide +kernel), by decide +kernel⟩, TB_m 506 (by decide +kernel) (by decide +kernel), TB_m 507 (by decide +kernel) (by decide +kernel), TX5, 8, rfl⟩
theorem mk_X5_byteOf : MSt I_X5_byteOf 2 := ⟨⟨TB_m 511 (by decide +kernel) (by decide +kernel), TB_m 33 (by decide +kernel) (by decide +kernel), by decide +kernel⟩, TB_m 510 (by decide +kernel) (by decide +kernel)⟩
theorem mk_X5_evening : MVt I_X5_evening 0 5 := ⟨⟨TB_m 519 (by decide +kernel) (by decide +kernel), TB_m 33 (by decide +kernel) (by decide +kernel), by decide +kernel⟩, TB_m 517 (by decide +kernel) (by decide +kernel), TB_m 518 (by decide +kernel) (by decide +kernel), TX5, 8, rfl⟩
theorem mk_X5_image : MVt I_X5_image 0 5 := ⟨⟨TB_m 551 (by decide +kernel) (by decide +kernel), TB_m 33 (by decide +kernel) (by decide +kernel), by decide +kernel⟩, TB_m 549 (by decide +kernel) (by decide +kernel), TB_m 550 (by decide +kernel) (by decide +kernel), TX5, 8, rfl⟩
theorem mk_X5_restore : MVt I_X5_restore 0 5 := ⟨⟨TB_m 560 (by decide +kernel) (by decide +kernel), TB_m 33 (by decide +kernel) (by decide +kernel), by decide +kernel⟩, TB_m 558 (by decide +kernel) (by decide +kernel), TB_m 559 (by decide +kernel) (by decide +kernel), TX5, 8, rfl⟩
theorem mk_X5_sheet : MVt I_X5_sheet 3 5 := ⟨⟨TB_m 564 (by decide +kernel) (by decide +kernel), TB_m 33 (by decide +kernel) (by decide +kernel), by decide +kernel⟩, TB_m 562 (by decide +kernel) (by decide +kernel), TB_m 563 (by decide +kernel) (by decide +kernel), TX5, 8, rfl⟩
theorem mk_X5_drop : MVt I_X5_drop 1 5 := ⟨⟨TB_m 572 (by decide +kernel) (by decide +kernel), TB_m 33 (by decide +kernel) (by decide +kernel), by decide +kernel⟩, TB_m 570 (by decide +kernel) (by decide +kernel), TB_m 571 (by decide +kernel) (by decide +kernel), TX5, 8, rfl⟩
theorem mk_X5_item : MVt I_X5_item 4 5 := ⟨⟨TB_m 576 (by decide +kernel) (by decide +kernel), TB_m 33 (by decide +kernel) (by decide +kernel), by decide +kernel⟩, TB_m 574 (by decide +kernel) (by decide +kernel), TB_m 575 (by decide +kernel) (by decide +kernel), TX5, 8, rfl⟩
theorem mk_X5_isSheetOfLane : MSt I_X5_isSheetOfLane 2 := ⟨⟨TB_m 482 (by decide +kernel) (by decide +kernel), TB_m 33 (by decide +kernel) (by decide +kernel), by decide +kernel⟩, TB_m 481 (by decide +kernel) (by decide +kernel)⟩
theorem mk_X6_in : MSt I_X6_in 3 := ⟨⟨TB_m 652 (by decide +kernel) (by decide +kernel), TB_m 39 (by decide +kernel) (by decide +kernel), by decide +kernel⟩, TB_m 651 (by decide +kernel) (by decide +kernel)⟩
theorem mk_X6_init : MIt I_X6_init 0 := ⟨⟨TB_m 585 (by decide +kernel) (by decide +kernel), TB_m 39 (by decide +kernel) (by decide +kernel), by decide +kernel⟩, TB_m 584 (by decide +kernel) (by decide +kernel), rfl, rfl⟩
theorem mk_X6_keep : MVt I_X6_keep 1 6 := ⟨⟨TB_m 768 (by decide +kernel) (by decide +kernel), TB_m 39 (by decide +kernel) (by decide +kernel), by decide +kernel⟩, TB_m 767 (by decide +kernel) (by decide +kernel), TB_m 24 (by decide +kernel) (by decide +kernel), TX6, 19, rfl⟩
theorem mk_X6_bring : MVt I_X6_bring 1 6 := ⟨⟨TB_m 772 (by decide +kernel) (by decide +kernel), TB_m 39 (by decide +kernel) (by decide +kernel), by decide +kernel⟩, TB_m 771 (by decide +kernel) (by decide +kernel), TB_m 25 (by decide +kernel) (by decide +kernel), TX6, 19, rfl⟩
theorem mk_X6_isRecord : MVt I_X6_isRecord 1 6 := ⟨⟨TB_m 664 (by decide +kernel) (by decide +kernel), TB_m 39 (by decide +kernel) (by decide +kernel), by decide +kernel⟩, TB_m 663 (by decide +kernel) (by decide +kernel), TB_m 12 (by decide +kernel) (by decide +kernel), TX6, 19, rfl⟩
theorem mk_X6_isPlace : MSt I_X6_isPlace 1 := ⟨⟨TB_m 659 (by decide +kernel) (by decide +kernel), TB_m 39 (by decide +kernel) (by decide +kernel), by decide +kernel⟩, TB_m 658 (by decide +kernel) (by decide +kernel)⟩
theorem mk_X6_isSong : MSt I_X6_isSong 1 := ⟨⟨TB_m 683 (by decide +kernel) (by decide +kernel), TB_m 39 (by decide +kernel) (by decide +kernel), by decide +kernel⟩, TB_m 682 (by decide +kernel) (by decide +kernel)⟩
theorem mk_X6_record : MVt I_X6_record 2 6 := ⟨⟨TB_m 648 (by decide +kernel) (by decide +kernel), TB_m 39 (by decide +kernel) (by decide +kernel), by decide +kernel⟩, TB_m 646 (by decide +kernel) (by decide +kernel), TB_m 647 (by decide +kernel) (by decide +kernel), TX6, 19, rfl⟩
theorem mk_X6_placeOf : MVt I_X6_placeOf 1 6 := ⟨⟨TB_m 668 (by decide +kernel) (by decide +kernel), TB_m 39 (by decide +kernel) (by decide +kernel), by decide +kernel⟩, TB_m 667 (by decide +kernel) (by decide +kernel), TB_m 13 (by decide +kernel) (by decide +kernel), TX6, 19, rfl⟩
theorem mk_X6_isOut : MVt I_X6_isOut 1 6 := ⟨⟨TB_m 672 (by decide +kernel) (by decide +kernel), TB_m 39 (by decide +kernel) (by decide +kernel), by decide +kernel⟩, TB_m 671 (by decide +kernel) (by decide +kernel), TB_m 14 (by decide +kernel) (by decide +kernel), TX6, 19, rfl⟩
theorem mk_X6_change : MVt I_X6_change 2 6 := ⟨⟨TB_m 656 (by decide +kernel) (by decide +kernel), TB_m 39 (by decide +kernel) (by decide +kernel), by decide +kernel⟩, TB_m 654 (by decide +kernel) (by decide +kernel), TB_m 655 (by decide +kernel) (by decide +kernel), TX6, 19, rfl⟩
theorem mk_X6_told : MVt I_X6_told 2 6 := ⟨⟨TB_m 676 (by decide +kernel) (by decide +kernel), TB_m 39 (by decide +kernel) (by decide +kernel), by decide +kernel⟩, TB_m 674 (by decide +kernel) (by decide +kernel), TB_m 675 (by decide +kernel) (by decide +kernel), TX6, 19, rfl⟩
theorem mk_X6_song : MVt I_X6_song 2 6 := ⟨⟨TB_m 680 (by decide +kernel) (by decide +kernel), TB_m 39 (by decide +kernel) (by decide +kernel), by decide +kernel⟩, TB_m 678 (by decide +kernel) (by decide +kernel), TB_m 679 (by decide +kernel) (by decide +kernel), TX6, 19, rfl⟩
theorem mk_X6_stick : MVt I_X6_stick 2 6 := ⟨⟨TB_m 688 (by decide +kernel) (by decide +kernel), TB_m 39 (by decide +kernel) (by decide +kernel), by decide +kernel⟩, TB_m 686 (by decide +kernel) (by decide +kernel), TB_m 687 (by decide +kernel) (by decide +kernel), TX6, 19, rfl⟩
theorem mk_X6_prices : MVt I_X6_prices 3 6 := ⟨⟨TB_m 693 (by decide +kernel) (by decide +kernel), TB_m 39 (by decide +kernel) (by decide +kernel), by decide +kernel⟩, TB_m 691 (by decide +kernel) (by decide +kernel), TB_m 692 (by decide +kernel) (by decide +kernel), TX6, 19, rfl⟩
theorem mk_X6_owes : MVt I_X6_owes 0 6 := ⟨⟨TB_m 704 (by decide +kernel) (by decide +kernel), TB_m 39 (by decide +kernel) (by decide +kernel), by decide +kernel⟩, TB_m 703 (by decide +kernel) (by decide +kernel), TB_m 15 (by decide +kernel) (by decide +kernel), TX6, 19, rfl⟩
theorem mk_X6_coin : MVt I_X6_coin 1 6 := ⟨⟨TB_m 700 (by decide +kernel) (by decide +kernel), TB_m 39 (by decide +kernel) (by decide +kernel), by decide +kernel⟩, TB_m 698 (by decide +kernel) (by decide +kernel), TB_m 699 (by decide +kernel) (by decide +kernel), TX6, 19, rfl⟩
theorem mk_X6_set : MVt I_X6_set 2 6 := ⟨⟨TB_m 708 (by decide +kernel) (by decide +kernel), TB_m 39 (by decide +kernel) (by decide +kernel), by decide +kernel⟩, TB_m 706 (by decide +kernel) (by decide +kernel), TB_m 707 (by decide +kernel) (by decide +kernel), TX6, 19, rfl⟩
theorem mk_X6_key : MVt I_X6_key 1 6 := ⟨⟨TB_m 712 (by decide +kernel) (by decide +kernel), TB_m 39 (by decide +kernel) (by decide +kernel), by decide +kernel⟩, TB_m 710 (by decide +kernel) (by decide +kernel), TB_m 711 (by decide +kernel) (by decide +kernel), TX6, 19, rfl⟩
theorem mk_X6_pinsIn : MVt I_X6_pinsIn 0 6 := ⟨⟨TB_m 726 (by decide +kernel) (by decide +kernel), TB_m 39 (by decide +kernel) (by decide +kernel), by decide +kernel⟩, TB_m 725 (by decide +kernel) (by decide +kernel), TB_m 17 (by decide +kernel) (by decide +kernel), TX6, 19, rfl⟩
theorem mk_X6_songHere : MVt I_X6_songHere 0 6 := ⟨⟨TB_m 734 (by decide +kernel) (by decide +kernel), TB_m 39 (by decide +kernel) (by decide +kernel), by decide +kernel⟩, TB_m 733 (by decide +kernel) (by decide +kernel), TB_m 19 (by decide +kernel) (by decide +kernel), TX6, 19, rfl⟩
theorem mk_X6_does : MVt I_X6_does 2 6 := ⟨⟨TB_m 738 (by decide +kernel) (by decide +kernel), TB_m 39 (by decide +kernel) (by decide +kernel), by decide +kernel⟩, TB_m 737 (by decide +kernel) (by decide +kernel), TB_m 20 (by decide +kernel) (by decide +kernel), TX6, 19, rfl⟩
theorem mk_X6_goOn : MVt I_X6_goOn 0 6 := ⟨⟨TB_m 742 (by decide +kernel) (by decide +kernel), TB_m 39 (by decide +kernel) (by decide +kernel), by decide +kernel⟩, TB_m 741 (by decide +kernel) (by decide +kernel), TB_m 21 (by decide +kernel) (by decide +kernel), TX6, 19, rfl⟩
theorem mk_X6_look : MVt I_X6_look 0 6 := ⟨⟨TB_m 730 (by decide +kernel) (by decide +kernel), TB_m 39 (by decide +kernel) (by decide +kernel), by decide +kernel⟩, TB_m 729 (by decide +kernel) (by decide +kernel), TB_m 18 (by decide +kernel) (by decide +kernel), TX6, 19, rfl⟩
theorem mk_X6_play : MVt I_X6_play 0 6 := ⟨⟨TB_m 746 (by decide +kernel) (by decide +kernel), TB_m 39 (by decide +kernel) (by decide +kernel), by decide +kernel⟩, TB_m 745 (by decide +kernel) (by decide +kernel), TB_m 22 (by decide +kernel) (by decide +kernel), TX6, 19, rfl⟩
theorem mk_X6_tick : MVt I_X6_tick 0 6 := ⟨⟨TB_m 722 (by decide +kernel) (by decide +kernel), TB_m 39 (by decide +kernel) (by decide +kernel), by decide +kernel⟩, TB_m 721 (by decide +kernel) (by decide +kernel), TB_m 16 (by decide +kernel) (by decide +kernel), TX6, 19, rfl⟩
theorem mk_X6_ticks : MVt I_X6_ticks 1 6 := ⟨⟨TB_m 716 (by decide +kernel) (by decide +kernel), TB_m 39 (by decide +kernel) (by decide +kernel), by decide +kernel⟩, TB_m 714 (by decide +kernel) (by decide +kernel), TB_m 715 (by decide +kernel) (by decide +kernel), TX6, 19, rfl⟩
theorem mk_X6_carriage : MVt I_X6_carriage 1 6 := ⟨⟨TB_m 750 (by decide +kernel) (by decide +kernel), TB_m 39 (by decide +kernel) (by decide +kernel), by decide +kernel⟩, TB_m 748 (by decide +kernel) (by decide +kernel), TB_m 749 (by decide +kernel) (by decide +kernel), TX6, 19, rfl⟩
theorem mk_X6_count : MVt I_X6_count 1 6 := ⟨⟨TB_m 755 (by decide +kernel) (by decide +kernel), TB_m 39 (by decide +kernel) (by decide +kernel), by decide +kernel⟩, TB_m 753 (by decide +kernel) (by decide +kernel), TB_m 754 (by decide +kernel) (by decide +kernel), TX6, 19, rfl⟩
theorem mk_X6_foretell : MVt I_X6_foretell 0 6 := ⟨⟨TB_m 764 (by decide +kernel) (by decide +kernel), TB_m 39 (by decide +kernel) (by decide +kernel), by decide +kernel⟩, TB_m 763 (by decide +kernel) (by decide +kernel), TB_m 23 (by decide +kernel) (by decide +kernel), TX6, 19, rfl⟩
theorem mk_X6_next : MVt I_X6_next 1 6 := ⟨⟨TB_m 759 (by decide +kernel) (by decide +kernel), TB_m 39 (by decide +kernel) (by decide +kernel), by decide +kernel⟩, TB_m 757 (by decide +kernel) (by decide +kernel), TB_m 758 (by decide +kernel) (by decide +kernel), TX6, 19, rfl⟩
theorem mk_X6_when : MVt I_X6_when 1 6 := ⟨⟨TB_m 776 (by decide +kernel) (by decide +kernel), TB_m 39 (by decide +kernel) (by decide +kernel), by decide +kernel⟩, TB_m 774 (by decide +kernel) (by decide +kernel), TB_m 775 (by decide +kernel) (by decide +kernel), TX6, 19, rfl⟩
theorem mk_X6_isStuckIn : MVt I_X6_isStuckIn 0 6 := ⟨⟨TB_m 784 (by decide +kernel) (by decide +kernel), TB_m 39 (by decide +kernel) (by decide +kernel), by decide +kernel⟩, TB_m 783 (by decide +kernel) (by decide +kernel), TB_m 26 (by decide +kernel) (by decide +kernel), TX6, 19, rfl⟩
theorem mk_X6_done : MVt I_X6_done 0 6 := ⟨⟨TB_m 780 (by decide +kernel) (by decide +kernel), TB_m 39 (by decide +kernel) (by decide +kernel), by decide +kernel⟩, TB_m 778 (by decide +kernel) (by decide +kernel), TB_m 779 (by decide +kernel) (by decide +kernel), TX6, 19, rfl⟩
theorem mk_X6_better : MVt I_X6_better 1 6 := ⟨⟨TB_m 788 (by decide +kernel) (by decide +kernel), TB_m 39 (by decide +kernel) (by decide +kernel), by decide +kernel⟩, TB_m 786 (by decide +kernel) (by decide +kernel), TB_m 787 (by decide +kernel) (by decide +kernel), TX6, 19, rfl⟩
theorem mk_X6_hear : MVt I_X6_hear 5 6 := ⟨⟨TB_m 796 (by decide +kernel) (by decide +kernel), TB_m 39 (by decide +kernel) (by decide +kernel), by decide +kernel⟩, TB_m 795 (by decide +kernel) (by decide +kernel), TB_m 27 (by decide +kernel) (by decide +kernel), TX6, 19, rfl⟩
theorem mk_X6_isTold : MSt I_X6_isTold 2 := ⟨⟨TB_m 806 (by decide +kernel) (by decide +kernel), TB_m 39 (by decide +kernel) (by decide +kernel), by decide +kernel⟩, TB_m 805 (by decide +kernel) (by decide +kernel)⟩
theorem mk_X6_songOf : MSt I_X6_songOf 2 := ⟨⟨TB_m 810 (by decide +kernel) (by decide +kernel), TB_m 39 (by decide +kernel) (by decide +kernel), by decide +kernel⟩, TB_m 809 (by decide +kernel) (by decide +kernel)⟩
theorem mk_X6_heard : MVt I_X6_heard 5 6 := ⟨⟨TB_m 792 (by decide +kernel) (by decide +kernel), TB_m 39 (by decide +kernel) (by decide +kernel), by decide +kernel⟩, TB_m 790 (by decide +kernel) (by decide +kernel), TB_m 791 (by decide +kernel) (by decide +kernel), TX6, 19, rfl⟩
theorem mk_X6_mayBe : MVt I_X6_mayBe 5 6 := ⟨⟨TB_m 814 (by decide +kernel) (by decide +kernel), TB_m 39 (by decide +kernel) (by decide +kernel), by decide +kernel⟩, TB_m 812 (by decide +kernel) (by decide +kernel), TB_m 813 (by decide +kernel) (by decide +kernel), TX6, 19, rfl⟩
theorem mk_X6_type : MVt I_X6_type 2 6 := ⟨⟨TB_m 818 (by decide +kernel) (by decide +kernel), TB_m 39 (by decide +kernel) (by decide +kernel), by decide +kernel⟩, TB_m 816 (by decide +kernel) (by decide +kernel), TB_m 817 (by decide +kernel) (by decide +kernel), TX6, 19, rfl⟩
theorem mk_X6_nextByte : MVt I_X6_nextByte 0 6 := ⟨⟨TB_m 834 (by decide +kernel) (by decide +kernel), TB_m 39 (by decide +kernel) (by decide +kernel), by decide +kernel⟩, TB_m 833 (by decide +kernel) (by decide +kernel), TB_m 30 (by decide +kernel) (by decide +kernel), TX6, 19, rfl⟩
theorem mk_X6_readNumber : MVt I_X6_readNumber 1 6 := ⟨⟨TB_m 840 (by decide +kernel) (by decide +kernel), TB_m 39 (by decide +kernel) (by decide +kernel), by decide +kernel⟩, TB_m 839 (by decide +kernel) (by decide +kernel), TB_m 31 (by decide +kernel) (by decide +kernel), TX6, 19, rfl⟩
theorem mk_X6_readAct : MVt I_X6_readAct 0 6 := ⟨⟨TB_m 830 (by decide +kernel) (by decide +kernel), TB_m 39 (by decide +kernel) (by decide +kernel), by decide +kernel⟩, TB_m 829 (by decide +kernel) (by decide +kernel), TB_m 29 (by decide +kernel) (by decide +kernel), TX6, 19, rfl⟩
theorem mk_X6_evening : MVt I_X6_evening 0 6 := ⟨⟨TB_m 826 (by decide +kernel) (by decide +kernel), TB_m 39 (by decide +kernel) (by decide +kernel), by decide +kernel⟩, TB_m 824 (by decide +kernel) (by decide +kernel), TB_m 825 (by decide +kernel) (by decide +kernel), TX6, 19, rfl⟩
theorem mk_X6_image : MVt I_X6_image 0 6 := ⟨⟨TB_m 849 (by decide +kernel) (by decide +kernel), TB_m 39 (by decide +kernel) (by decide +kernel), by decide +kernel⟩, TB_m 847 (by decide +kernel) (by decide +kernel), TB_m 848 (by decide +kernel) (by decide +kernel), TX6, 19, rfl⟩
theorem mk_X6_restore : MVt I_X6_restore 0 6 := ⟨⟨TB_m 853 (by decide +kernel) (by decide +kernel), TB_m 39 (by decide +kernel) (by decide +kernel), by decide +kernel⟩, TB_m 851 (by decide +kernel) (by decide +kernel), TB_m 852 (by decide +kernel) (by decide +kernel), TX6, 19, rfl⟩
theorem mk_X6_isSheet : MSt I_X6_isSheet 2 := ⟨⟨TB_m 799 (by decide +kernel) (by decide +kernel), TB_m 39 (by decide +kernel) (by decide +kernel), by decide +kernel⟩, TB_m 798 (by decide +kernel) (by decide +kernel)⟩
theorem mk_X6_sheet : MVt I_X6_sheet 3 6 := ⟨⟨TB_m 857 (by decide +kernel) (by decide +kernel), TB_m 39 (by decide +kernel) (by decide +kernel), by decide +kernel⟩, TB_m 855 (by decide +kernel) (by decide +kernel), TB_m 856 (by decide +kernel) (by decide +kernel), TX6, 19, rfl⟩
theorem mk_X6_drop : MVt I_X6_drop 1 6 := ⟨⟨TB_m 861 (by decide +kernel) (by decide +kernel), TB_m 39 (by decide +kernel) (by decide +kernel), by decide +kernel⟩, TB_m 859 (by decide +kernel) (by decide +kernel), TB_m 860 (by decide +kernel) (by decide +kernel), TX6, 19, rfl⟩
theorem mk_X6_lacksRow : MVt I_X6_lacksRow 4 6 := ⟨⟨TB_m 803 (by decide +kernel) (by decide +kernel), TB_m 39 (by decide +kernel) (by decide +kernel), by decide +kernel⟩, TB_m 802 (by decide +kernel) (by decide +kernel), TB_m 28 (by decide +kernel) (by decide +kernel), TX6, 19, rfl⟩
theorem mk_X6_item : MVt I_X6_item 4 6 := ⟨⟨TB_m 865 (by decide +kernel) (by decide +kernel), TB_m 39 (by decide +kernel) (by decide +kernel), by decide +kernel⟩, TB_m 863 (by decide +kernel) (by decide +kernel), TB_m 864 (by decide +kernel) (by decide +kernel), TX6, 19, rfl⟩
theorem mk_J6_bitCount_0f7a4 : MSt I_J6_bitCount_0f7a4 1 := ⟨⟨TB_m 408 (by decide +kernel) (by decide +kernel), TB_m 41 (by decide +kernel) (by decide +kernel), by decide +kernel⟩, TB_m 407 (by decide +kernel) (by decide +kernel)⟩
theorem ml_X5_3 : Cond.methodLink RX5 3 objectInit ∈ TB := TB_m 48 (by decide +kernel) (by decide +kernel)
theorem ml_X5_11 : MLk RX5 11 yX4_init := Or.inl (TB_m 53 (by decide +kernel) (by decide +kernel))
theorem ml_X5_18 : MLk RX5 18 yX3_init := Or.inr ⟨"RecordBox", by decide +kernel⟩
theorem ml_X5_35 : MLk RX5 35 yX0_init := Or.inr ⟨"RecordBox", by decide +kernel⟩
theorem ml_X5_42 : MLk RX5 42 yX2_init := Or.inr ⟨"RecordBox", by decide +kernel⟩
theorem ml_X5_53 : MLk RX5 53 yX1_init := Or.inr ⟨"RecordBox", by decide +kernel⟩
theorem ml_X5_54 : MLk RX5 54 yX5_within := Or.inl (TB_m 278 (by decide +kernel) (by decide +kernel))
theorem ml_X5_62 : MLk RX5 62 yX4_addRecord := Or.inl (TB_m 281 (by decide +kernel) (by decide +kernel))
theorem ml_X5_66 : MLk RX5 66 yX4_placeOf := Or.inl (TB_m 289 (by decide +kernel) (by decide +kernel))
theorem ml_X5_70 : MLk RX5 70 yX4_isOut := Or.inl (TB_m 293 (by decide +kernel) (by decide +kernel))
theorem ml_X5_74 : MLk RX5 74 yX0_forget := Or.inl (TB_m 297 (by decide +kernel) (by decide +kernel))
theorem ml_X5_87 : MLk RX5 87 yX4_isIn := Or.inl (TB_m 309 (by decide +kernel) (by decide +kernel))
theorem ml_X5_90 : MLk RX5 90 yX4_howIs := Or.inl (TB_m 313 (by decide +kernel) (by decide +kernel))
theorem ml_X5_96 : MLk RX5 96 yX4_makePin := Or.inl (TB_m 321 (by decide +kernel) (by decide +kernel))
theorem ml_X5_100 : MLk RX5 100 yX3_newPrices := Or.inl (TB_m 329 (by decide +kernel) (by decide +kernel))
theorem ml_X5_104 : MLk RX5 104 yX3_take := Or.inl (TB_m 337 (by decide +kernel) (by decide +kernel))
theorem ml_X5_117 : MLk RX5 117 yX5_keyInVain := Or.inl (TB_m 356 (by decide +kernel) (by decide +kernel))
theorem ml_X5_131 : MLk RX5 131 yX4_pass := Or.inl (TB_m 365 (by decide +kernel) (by decide +kernel))
theorem ml_X5_146 : MLk RX5 146 yJ6_bitCount_0f7a4 := Or.inl (TB_m 406 (by decide +kernel) (by decide +kernel))
theorem ml_X5_160 : MLk RX5 160 yX4_emptyPlaces := Or.inl (TB_m 412 (by decide +kernel) (by decide +kernel))
theorem ml_X5_163 : MLk RX5 163 yX0_foresee := Or.inl (TB_m 420 (by decide +kernel) (by decide +kernel))
theorem ml_X5_173 : MLk RX5 173 yX0_startOf := Or.inl (TB_m 438 (by decide +kernel) (by decide +kernel))
theorem ml_X5_179 : MLk RX5 179 yX0_doneBy := Or.inl (TB_m 446 (by decide +kernel) (by decide +kernel))
theorem ml_X5_183 : MLk RX5 183 yX0_seekPair := Or.inl (TB_m 458 (by decide +kernel) (by decide +kernel))
theorem ml_X5_195 : MLk RX5 195 yX5_wireRefusal := Or.inl (TB_m 476 (by decide +kernel) (by decide +kernel))
theorem ml_X5_199 : MLk RX5 199 yX1_onlyGap := Or.inl (TB_m 491 (by decide +kernel) (by decide +kernel))
theorem ml_X5_203 : MLk RX5 203 yX5_songOfPulses := Or.inl (TB_m 495 (by decide +kernel) (by decide +kernel))
theorem ml_X5_206 : MLk RX5 206 yX5_bitOfPulses := Or.inl (TB_m 502 (by decide +kernel) (by decide +kernel))
theorem ml_X5_209 : MLk RX5 209 yX5_isSheetOfLane := Or.inl (TB_m 480 (by decide +kernel) (by decide +kernel))
theorem ml_X5_213 : MLk RX5 213 yX1_refusalAs := Or.inl (TB_m 483 (by decide +kernel) (by decide +kernel))
theorem ml_X5_219 : MLk RX5 219 yX1_areTimes := Or.inl (TB_m 487 (by decide +kernel) (by decide +kernel))
theorem ml_X5_222 : MLk RX5 222 yX5_byteOf := Or.inl (TB_m 509 (by decide +kernel) (by decide +kernel))
theorem ml_X5_229 : MLk RX5 229 yX2_append := Or.inl (TB_m 512 (by decide +kernel) (by decide +kernel))
theorem ml_X5_232 : MLk RX5 232 yX2_readActs := Or.inl (TB_m 520 (by decide +kernel) (by decide +kernel))
theorem ml_X5_244 : MLk RX5 244 yX5_key := Or.inl (TB_m 545 (by decide +kernel) (by decide +kernel))
theorem ml_X5_247 : MLk RX5 247 yX5_coin := Or.inl (TB_m 546 (by decide +kernel) (by decide +kernel))
theorem ml_X5_250 : MLk RX5 250 yX5_ticks := Or.inl (TB_m 547 (by decide +kernel) (by decide +kernel))
theorem ml_X5_253 : MLk RX5 253 yX4_copyFrom := Or.inl (TB_m 552 (by decide +kernel) (by decide +kernel))
theorem ml_X5_256 : MLk RX5 256 yX3_copyFrom := Or.inl (TB_m 553 (by decide +kernel) (by decide +kernel))
theorem ml_X5_259 : MLk RX5 259 yX1_hold := Or.inl (TB_m 565 (by decide +kernel) (by decide +kernel))
theorem ml_X5_265 : MLk RX5 265 yX1_write := Or.inl (TB_m 577 (by decide +kernel) (by decide +kernel))
theorem ml_X0_3 : Cond.methodLink RX0 3 objectInit ∈ TB := TB_m 164 (by decide +kernel) (by decide +kernel)
theorem ml_X0_11 : MLk RX0 11 yX4_init := Or.inl (TB_m 166 (by decide +kernel) (by decide +kernel))
theorem ml_X0_45 : MLk RX0 45 yX4_copyFrom := Or.inl (TB_m 424 (by decide +kernel) (by decide +kernel))
theorem ml_X0_49 : MLk RX0 49 yX4_isDone := Or.inl (TB_m 431 (by decide +kernel) (by decide +kernel))
theorem ml_X0_56 : MLk RX0 56 yX4_pass := Or.inl (TB_m 432 (by decide +kernel) (by decide +kernel))
theorem ml_X0_60 : MLk RX0 60 yX4_ownSong := Or.inl (TB_m 433 (by decide +kernel) (by decide +kernel))
theorem ml_X0_67 : MLk RX0 67 yX4_swap := Or.inl (TB_m 450 (by decide +kernel) (by decide +kernel))
theorem ml_X0_71 : MLk RX0 71 yX0_doneBy := Or.inl (TB_m 462 (by decide +kernel) (by decide +kernel))
theorem ml_X0_75 : MLk RX0 75 yX0_mayHelp := Or.inl (TB_m 463 (by decide +kernel) (by decide +kernel))
theorem ml_X0_79 : MLk RX0 79 yX4_isOut := Or.inl (TB_m 466 (by decide +kernel) (by decide +kernel))
theorem ml_X0_83 : MLk RX0 83 yX4_isAsked := Or.inl (TB_m 467 (by decide +kernel) (by decide +kernel))
theorem ml_X1_3 : Cond.methodLink RX1 3 objectInit ∈ TB := TB_m 236 (by decide +kernel) (by decide +kernel)
theorem ml_X2_3 : Cond.methodLink RX2 3 objectInit ∈ TB := TB_m 205 (by decide +kernel) (by decide +kernel)
theorem ml_X2_32 : MLk RX2 32 yX2_readAct := Or.inl (TB_m 524 (by decide +kernel) (by decide +kernel))
theorem ml_X2_36 : MLk RX2 36 yX2_peek := Or.inl (TB_m 528 (by decide +kernel) (by decide +kernel))
theorem ml_X2_39 : MLk RX2 39 yX2_readSide := Or.inl (TB_m 532 (by decide +kernel) (by decide +kernel))
theorem ml_X2_43 : MLk RX2 43 yX2_readNumber := Or.inl (TB_m 540 (by decide +kernel) (by decide +kernel))
theorem ml_X2_47 : MLk RX2 47 yX2_addAct := Or.inl (TB_m 536 (by decide +kernel) (by decide +kernel))
theorem ml_X2_51 : Cond.methodLink RX2 51 Lib.Math.min.name ∈ TB := TB_m 544 (by decide +kernel) (by decide +kernel)
theorem ml_X3_1 : Cond.methodLink RX3 1 objectInit ∈ TB := TB_m 129 (by decide +kernel) (by decide +kernel)
theorem ml_X3_34 : MLk RX3 34 yX3_owed := Or.inl (TB_m 341 (by decide +kernel) (by decide +kernel))
theorem ml_X3_38 : Cond.methodLink RX3 38 Lib.Math.max.name ∈ TB := TB_m 345 (by decide +kernel) (by decide +kernel)
theorem ml_X4_3 : Cond.methodLink RX4 3 objectInit ∈ TB := TB_m 56 (by decide +kernel) (by decide +kernel)
theorem ml_X4_62 : Cond.methodLink RX4 62 arraycopyName ∈ TB := TB_m 428 (by decide +kernel) (by decide +kernel)
theorem ml_X4_68 : MLk RX4 68 yX4_isIn := Or.inl (TB_m 471 (by decide +kernel) (by decide +kernel))
theorem ml_X4_72 : MLk RX4 72 yX4_isDone := Or.inl (TB_m 369 (by decide +kernel) (by decide +kernel))
theorem ml_X4_76 : MLk RX4 76 yX4_look := Or.inl (TB_m 373 (by decide +kernel) (by decide +kernel))
theorem ml_X4_79 : Cond.methodLink RX4 79 Lib.Math.min.name ∈ TB := TB_m 385 (by decide +kernel) (by decide +kernel)
theorem ml_X4_85 : MLk RX4 85 yX4_endStep := Or.inl (TB_m 388 (by decide +kernel) (by decide +kernel))
theorem ml_X4_88 : Cond.methodLink RX4 88 Lib.Math.max.name ∈ TB := TB_m 392 (by decide +kernel) (by decide +kernel)
theorem ml_X4_91 : MLk RX4 91 yX4_play := Or.inl (TB_m 393 (by decide +kernel) (by decide +kernel))
theorem ml_X4_94 : MLk RX4 94 yX4_goOn := Or.inl (TB_m 381 (by decide +kernel) (by decide +kernel))
theorem ml_X4_97 : MLk RX4 97 yX4_ownSong := Or.inl (TB_m 377 (by decide +kernel) (by decide +kernel))
theorem ml_X4_101 : MLk RX4 101 yX5_within := Or.inr ⟨"RecordBox", by decide +kernel⟩
theorem ml_L_9 : MLk RL 9 yX5_init := Or.inl (TB_m 45 (by decide +kernel) (by decide +kernel))
theorem ml_L_12 : MLk RL 12 yX6_init := Or.inl (TB_m 583 (by decide +kernel) (by decide +kernel))
theorem ml_L_13 : MLk RL 13 yX5_record := Or.inl (TB_m 274 (by decide +kernel) (by decide +kernel))
theorem ml_L_17 : MLk RL 17 yX6_record := Or.inl (TB_m 645 (by decide +kernel) (by decide +kernel))
theorem ml_L_18 : MLk RL 18 yX5_change := Or.inl (TB_m 285 (by decide +kernel) (by decide +kernel))
theorem ml_L_21 : MLk RL 21 yX6_change := Or.inl (TB_m 653 (by decide +kernel) (by decide +kernel))
theorem ml_L_22 : MLk RL 22 yX5_told := Or.inl (TB_m 301 (by decide +kernel) (by decide +kernel))
theorem ml_L_25 : MLk RL 25 yX6_told := Or.inl (TB_m 673 (by decide +kernel) (by decide +kernel))
theorem ml_L_26 : MLk RL 26 yX5_song := Or.inl (TB_m 305 (by decide +kernel) (by decide +kernel))
theorem ml_L_29 : MLk RL 29 yX6_song := Or.inl (TB_m 677 (by decide +kernel) (by decide +kernel))
theorem ml_L_30 : MLk RL 30 yX5_stick := Or.inl (TB_m 317 (by decide +kernel) (by decide +kernel))
theorem ml_L_33 : MLk RL 33 yX6_stick := Or.inl (TB_m 685 (by decide +kernel) (by decide +kernel))
theorem ml_L_34 : MLk RL 34 yX5_prices := Or.inl (TB_m 325 (by decide +kernel) (by decide +kernel))
theorem ml_L_38 : MLk RL 38 yX6_prices := Or.inl (TB_m 690 (by decide +kernel) (by decide +kernel))
theorem ml_L_39 : MLk RL 39 yX5_coin := Or.inl (TB_m 333 (by decide +kernel) (by decide +kernel))
theorem ml_L_43 : MLk RL 43 yX6_coin := Or.inl (TB_m 697 (by decide +kernel) (by decide +kernel))
theorem ml_L_44 : MLk RL 44 yX5_set := Or.inl (TB_m 348 (by decide +kernel) (by decide +kernel))
theorem ml_L_47 : MLk RL 47 yX6_set := Or.inl (TB_m 705 (by decide +kernel) (by decide +kernel))
theorem ml_L_48 : MLk RL 48 yX5_key := Or.inl (TB_m 352 (by decide +kernel) (by decide +kernel))
theorem ml_L_51 : MLk RL 51 yX6_key := Or.inl (TB_m 709 (by decide +kernel) (by decide +kernel))
theorem ml_L_52 : MLk RL 52 yX5_ticks := Or.inl (TB_m 360 (by decide +kernel) (by decide +kernel))
theorem ml_L_55 : MLk RL 55 yX6_ticks := Or.inl (TB_m 713 (by decide +kernel) (by decide +kernel))
theorem ml_L_56 : MLk RL 56 yX5_carriage := Or.inl (TB_m 398 (by decide +kernel) (by decide +kernel))
theorem ml_L_59 : MLk RL 59 yX6_carriage := Or.inl (TB_m 747 (by decide +kernel) (by decide +kernel))
theorem ml_L_60 : MLk RL 60 yX5_count := Or.inl (TB_m 402 (by decide +kernel) (by decide +kernel))
theorem ml_L_63 : MLk RL 63 yX6_count := Or.inl (TB_m 752 (by decide +kernel) (by decide +kernel))
theorem ml_L_64 : MLk RL 64 yX5_next := Or.inl (TB_m 416 (by decide +kernel) (by decide +kernel))
theorem ml_L_67 : MLk RL 67 yX6_next := Or.inl (TB_m 756 (by decide +kernel) (by decide +kernel))
theorem ml_L_68 : MLk RL 68 yX5_when := Or.inl (TB_m 434 (by decide +kernel) (by decide +kernel))
theorem ml_L_71 : MLk RL 71 yX6_when := Or.inl (TB_m 773 (by decide +kernel) (by decide +kernel))
theorem ml_L_72 : MLk RL 72 yX5_done := Or.inl (TB_m 442 (by decide +kernel) (by decide +kernel))
theorem ml_L_76 : MLk RL 76 yX6_done := Or.inl (TB_m 777 (by decide +kernel) (by decide +kernel))
theorem ml_L_77 : MLk RL 77 yX5_better := Or.inl (TB_m 454 (by decide +kernel) (by decide +kernel))
theorem ml_L_80 : MLk RL 80 yX6_better := Or.inl (TB_m 785 (by decide +kernel) (by decide +kernel))
theorem ml_L_81 : MLk RL 81 yX5_heard := Or.inl (TB_m 472 (by decide +kernel) (by decide +kernel))
theorem ml_L_85 : MLk RL 85 yX6_heard := Or.inl (TB_m 789 (by decide +kernel) (by decide +kernel))
theorem ml_L_86 : MLk RL 86 yX5_mayBe := Or.inl (TB_m 498 (by decide +kernel) (by decide +kernel))
theorem ml_L_89 : MLk RL 89 yX6_mayBe := Or.inl (TB_m 811 (by decide +kernel) (by decide +kernel))
theorem ml_L_92 : MLk RL 92 yX5_type := Or.inl (TB_m 505 (by decide +kernel) (by decide +kernel))
theorem ml_L_96 : MLk RL 96 yX6_type := Or.inl (TB_m 815 (by decide +kernel) (by decide +kernel))
theorem ml_L_97 : MLk RL 97 yX5_evening := Or.inl (TB_m 516 (by decide +kernel) (by decide +kernel))
theorem ml_L_100 : MLk RL 100 yX6_evening := Or.inl (TB_m 823 (by decide +kernel) (by decide +kernel))
theorem ml_L_101 : MLk RL 101 yX5_image := Or.inl (TB_m 548 (by decide +kernel) (by decide +kernel))
theorem ml_L_104 : MLk RL 104 yX6_image := Or.inl (TB_m 846 (by decide +kernel) (by decide +kernel))
theorem ml_L_105 : MLk RL 105 yX5_restore := Or.inl (TB_m 557 (by decide +kernel) (by decide +kernel))
theorem ml_L_108 : MLk RL 108 yX6_restore := Or.inl (TB_m 850 (by decide +kernel) (by decide +kernel))
theorem ml_L_109 : MLk RL 109 yX5_sheet := Or.inl (TB_m 561 (by decide +kernel) (by decide +kernel))
theorem ml_L_112 : MLk RL 112 yX6_sheet := Or.inl (TB_m 854 (by decide +kernel) (by decide +kernel))
theorem ml_L_113 : MLk RL 113 yX5_drop := Or.inl (TB_m 569 (by decide +kernel) (by decide +kernel))
theorem ml_L_116 : MLk RL 116 yX6_drop := Or.inl (TB_m 858 (by decide +kernel) (by decide +kernel))
theorem ml_L_117 : MLk RL 117 yX5_item := Or.inl (TB_m 573 (by decide +kernel) (by decide +kernel))
theorem ml_L_121 : MLk RL 121 yX6_item := Or.inl (TB_m 862 (by decide +kernel) (by decide +kernel))
theorem ml_X6_1 : Cond.methodLink RX6 1 objectInit ∈ TB := TB_m 586 (by decide +kernel) (by decide +kernel)
theorem ml_X6_43 : MLk RX6 43 yX6_in := Or.inl (TB_m 650 (by decide +kernel) (by decide +kernel))
theorem ml_X6_53 : MLk RX6 53 yX6_isPlace := Or.inl (TB_m 657 (by decide +kernel) (by decide +kernel))
theorem ml_X6_57 : MLk RX6 57 yX6_isRecord := Or.inl (TB_m 661 (by decide +kernel) (by decide +kernel))
theorem ml_X6_60 : MLk RX6 60 yX6_placeOf := Or.inl (TB_m 665 (by decide +kernel) (by decide +kernel))
theorem ml_X6_64 : MLk RX6 64 yX6_isOut := Or.inl (TB_m 669 (by decide +kernel) (by decide +kernel))
theorem ml_X6_67 : MLk RX6 67 yX6_isSong := Or.inl (TB_m 681 (by decide +kernel) (by decide +kernel))
theorem ml_X6_78 : MLk RX6 78 yX6_owes := Or.inl (TB_m 701 (by decide +kernel) (by decide +kernel))
theorem ml_X6_82 : MLk RX6 82 yX6_pinsIn := Or.inl (TB_m 723 (by decide +kernel) (by decide +kernel))
theorem ml_X6_85 : MLk RX6 85 yX6_does := Or.inl (TB_m 735 (by decide +kernel) (by decide +kernel))
theorem ml_X6_89 : MLk RX6 89 yX6_songHere := Or.inl (TB_m 731 (by decide +kernel) (by decide +kernel))
theorem ml_X6_92 : MLk RX6 92 yX6_goOn := Or.inl (TB_m 739 (by decide +kernel) (by decide +kernel))
theorem ml_X6_95 : MLk RX6 95 yX6_look := Or.inl (TB_m 727 (by decide +kernel) (by decide +kernel))
theorem ml_X6_98 : MLk RX6 98 yX6_play := Or.inl (TB_m 743 (by decide +kernel) (by decide +kernel))
theorem ml_X6_104 : MLk RX6 104 yX6_tick := Or.inl (TB_m 719 (by decide +kernel) (by decide +kernel))
theorem ml_X6_109 : MLk RX6 109 yX6_keep := Or.inl (TB_m 765 (by decide +kernel) (by decide +kernel))
theorem ml_X6_120 : MLk RX6 120 yX6_bring := Or.inl (TB_m 769 (by decide +kernel) (by decide +kernel))
theorem ml_X6_125 : MLk RX6 125 yX6_foretell := Or.inl (TB_m 761 (by decide +kernel) (by decide +kernel))
theorem ml_X6_128 : MLk RX6 128 yX6_isStuckIn := Or.inl (TB_m 781 (by decide +kernel) (by decide +kernel))
theorem ml_X6_132 : MLk RX6 132 yX6_isSheet := Or.inl (TB_m 797 (by decide +kernel) (by decide +kernel))
theorem ml_X6_136 : MLk RX6 136 yX6_lacksRow := Or.inl (TB_m 800 (by decide +kernel) (by decide +kernel))
theorem ml_X6_148 : MLk RX6 148 yX6_hear := Or.inl (TB_m 793 (by decide +kernel) (by decide +kernel))
theorem ml_X6_152 : MLk RX6 152 yX6_isTold := Or.inl (TB_m 804 (by decide +kernel) (by decide +kernel))
theorem ml_X6_155 : MLk RX6 155 yX6_songOf := Or.inl (TB_m 808 (by decide +kernel) (by decide +kernel))
theorem ml_X6_173 : MLk RX6 173 yX6_nextByte := Or.inl (TB_m 831 (by decide +kernel) (by decide +kernel))
theorem ml_X6_187 : MLk RX6 187 yX6_readNumber := Or.inl (TB_m 837 (by decide +kernel) (by decide +kernel))
theorem ml_X6_190 : MLk RX6 190 yX6_readAct := Or.inl (TB_m 827 (by decide +kernel) (by decide +kernel))
theorem ml_X6_193 : MLk RX6 193 yX6_key := Or.inl (TB_m 843 (by decide +kernel) (by decide +kernel))
theorem ml_X6_196 : MLk RX6 196 yX6_coin := Or.inl (TB_m 844 (by decide +kernel) (by decide +kernel))
theorem ml_X6_199 : MLk RX6 199 yX6_ticks := Or.inl (TB_m 845 (by decide +kernel) (by decide +kernel))
def nfX0 : List Value := [.null, .null, .null, .int (iI 0), .int (iI 0), .int (iI 0), .int (iI 0), .int (iI 0), .int (iI 0)]
theorem nfdX0 : ∀ S b j, j < 9 → defaultValue (tyX0 j) = vp_V (nfX0.map (cv S b)) j := by
  intro S b j hj
  rcases (show j = 0 ∨ j = 1 ∨ j = 2 ∨ j = 3 ∨ j = 4 ∨ j = 5 ∨ j = 6 ∨ j = 7 ∨ j = 8 by omega) with rfl | rfl | rfl | rfl | rfl | rfl | rfl | rfl | rfl <;> rfl
def nfX1 : List Value := [.int (iI 0), .int (iI 0), .null]
theorem nfdX1 : ∀ S b j, j < 3 → defaultValue (tyX1 j) = vp_V (nfX1.map (cv S b)) j := by
  intro S b j hj
  rcases (show j = 0 ∨ j = 1 ∨ j = 2 by omega) with rfl | rfl | rfl <;> rfl
def nfX2 : List Value := [.null, .int (iI 0), .int (iI 0), .null, .null, .int (iI 0)]
theorem nfdX2 : ∀ S b j, j < 6 → defaultValue (tyX2 j) = vp_V (nfX2.map (cv S b)) j := by
  intro S b j hj
  rcases (show j = 0 ∨ j = 1 ∨ j = 2 ∨ j = 3 ∨ j = 4 ∨ j = 5 by omega) with rfl | rfl | rfl | rfl | rfl | rfl <;> rfl
def nfX3 : List Value := [.int (iI 0), .int (iI 0), .int (iI 0), .int (iI 0), .int (iI 0), .int (iI 0), .int (iI 0), .int (iI 0)]
theorem nfdX3 : ∀ S b j, j < 8 → defaultValue (tyX3 j) = vp_V (nfX3.map (cv S b)) j := by
  intro S b j hj
  rcases (show j = 0 ∨ j = 1 ∨ j = 2 ∨ j = 3 ∨ j = 4 ∨ j = 5 ∨ j = 6 ∨ j = 7 by omega) with rfl | rfl | rfl | rfl | rfl | rfl | rfl | rfl <;> rfl
def nfX4 : List Value := [.int (iI 0), .null, .null, .null, .null, .int (iI 0), .int (iI 0), .int (iI 0), .int (iI 0), .int (iI 0), .int (iI 0), .int (iI 0), .int (iI 0), .int (iI 0), .int (iI 0), .int (iI 0)]
theorem nfdX4 : ∀ S b j, j < 16 → defaultValue (tyX4 j) = vp_V (nfX4.map (cv S b)) j := by
  intro S b j hj
  rcases (show j = 0 ∨ j = 1 ∨ j = 2 ∨ j = 3 ∨ j = 4 ∨ j = 5 ∨ j = 6 ∨ j = 7 ∨ j = 8 ∨ j = 9 ∨ j = 10 ∨ j = 11 ∨ j = 12 ∨ j = 13 ∨ j = 14 ∨ j = 15 by omega) with rfl | rfl | rfl | rfl | rfl | rfl | rfl | rfl | rfl | rfl | rfl | rfl | rfl | rfl | rfl | rfl <;> rfl
def nfX5 : List Value := [.null, .null, .null, .null, .int (iI 0), .null, .null, .null]
theorem nfdX5 : ∀ S b j, j < 8 → defaultValue (tyX5 j) = vp_V (nfX5.map (cv S b)) j := by
  intro S b j hj
  rcases (show j = 0 ∨ j = 1 ∨ j = 2 ∨ j = 3 ∨ j = 4 ∨ j = 5 ∨ j = 6 ∨ j = 7 by omega) with rfl | rfl | rfl | rfl | rfl | rfl | rfl | rfl <;> rfl
def nfX6 : List Value := [.null, .null, .int (iI 0), .null, .null, .int (iI 0), .int (iI 0), .int (iI 0), .null, .int (iI 0), .int (iI 0), .int (iI 0), .null, .null, .int (iI 0), .null, .null, .null, .null]
theorem nfdX6 : ∀ S b j, j < 19 → defaultValue (tyX6 j) = vp_V (nfX6.map (cv S b)) j := by
  intro S b j hj
  rcases (show j = 0 ∨ j = 1 ∨ j = 2 ∨ j = 3 ∨ j = 4 ∨ j = 5 ∨ j = 6 ∨ j = 7 ∨ j = 8 ∨ j = 9 ∨ j = 10 ∨ j = 11 ∨ j = 12 ∨ j = 13 ∨ j = 14 ∨ j = 15 ∨ j = 16 ∨ j = 17 ∨ j = 18 by omega) with rfl | rfl | rfl | rfl | rfl | rfl | rfl | rfl | rfl | rfl | rfl | rfl | rfl | rfl | rfl | rfl | rfl | rfl | rfl <;> rfl
theorem cl_X5_9 : Cond.classLink RX5 9 RX4 ∈ TB := TB_m 51 (by decide +kernel) (by decide +kernel)
theorem nw_X5_9 : NewOk RX5 9 4 16 nfX4 := ⟨RX4, TX4, tyX4, rfl, inX4, tyX4_ok, cl_X5_9, TB_m 52 (by decide +kernel) (by decide +kernel), TB_m 34 (by decide +kernel) (by decide +kernel), nfdX4⟩
theorem cl_X5_16 : Cond.classLink RX5 16 RX3 ∈ TB := TB_m 124 (by decide +kernel) (by decide +kernel)
theorem nw_X5_16 : NewOk RX5 16 3 8 nfX3 := ⟨RX3, TX3, tyX3, rfl, inX3, tyX3_ok, cl_X5_16, TB_m 125 (by decide +kernel) (by decide +kernel), TB_m 35 (by decide +kernel) (by decide +kernel), nfdX3⟩
theorem cl_X5_33 : Cond.classLink RX5 33 RX0 ∈ TB := TB_m 159 (by decide +kernel) (by decide +kernel)
theorem nw_X5_33 : NewOk RX5 33 0 9 nfX0 := ⟨RX0, TX0, tyX0, rfl, inX0, tyX0_ok, cl_X5_33, TB_m 160 (by decide +kernel) (by decide +kernel), TB_m 36 (by decide +kernel) (by decide +kernel), nfdX0⟩
theorem cl_X5_40 : Cond.classLink RX5 40 RX2 ∈ TB := TB_m 200 (by decide +kernel) (by decide +kernel)
theorem nw_X5_40 : NewOk RX5 40 2 6 nfX2 := ⟨RX2, TX2, tyX2, rfl, inX2, tyX2_ok, cl_X5_40, TB_m 201 (by decide +kernel) (by decide +kernel), TB_m 37 (by decide +kernel) (by decide +kernel), nfdX2⟩
theorem cl_X5_47 : Cond.classLink RX5 47 RX1 ∈ TB := TB_m 230 (by decide +kernel) (by decide +kernel)
theorem nw_X5_47 : NewOk RX5 47 1 3 nfX1 := ⟨RX1, TX1, tyX1, rfl, inX1, tyX1_ok, cl_X5_47, TB_m 232 (by decide +kernel) (by decide +kernel), TB_m 38 (by decide +kernel) (by decide +kernel), nfdX1⟩
theorem cl_X0_9 : Cond.classLink RX0 9 RX4 ∈ TB := TB_m 165 (by decide +kernel) (by decide +kernel)
theorem nw_X0_9 : NewOk RX0 9 4 16 nfX4 := ⟨RX4, TX4, tyX4, rfl, inX4, tyX4_ok, cl_X0_9, TB_m 52 (by decide +kernel) (by decide +kernel), TB_m 34 (by decide +kernel) (by decide +kernel), nfdX4⟩
theorem cl_L_7 : Cond.classLink RL 7 RX5 ∈ TB := TB_m 43 (by decide +kernel) (by decide +kernel)
theorem nw_L_7 : NewOk RL 7 5 8 nfX5 := ⟨RX5, TX5, tyX5, rfl, inX5, tyX5_ok, cl_L_7, TB_m 44 (by decide +kernel) (by decide +kernel), TB_m 33 (by decide +kernel) (by decide +kernel), nfdX5⟩
theorem cl_L_10 : Cond.classLink RL 10 RX6 ∈ TB := TB_m 581 (by decide +kernel) (by decide +kernel)
theorem nw_L_10 : NewOk RL 10 6 19 nfX6 := ⟨RX6, TX6, tyX6, rfl, inX6, tyX6_ok, cl_L_10, TB_m 582 (by decide +kernel) (by decide +kernel), TB_m 39 (by decide +kernel) (by decide +kernel), nfdX6⟩
theorem kc_X5_130 : Cond.constant RX5 130 (iI (1000000)) ∈ TB := TB_m 364 (by decide +kernel) (by decide +kernel)
theorem kc_J6_265 : Cond.constant RJ6 265 (iI (1431655765)) ∈ TB := TB_m 409 (by decide +kernel) (by decide +kernel)
theorem kc_J6_266 : Cond.constant RJ6 266 (iI (858993459)) ∈ TB := TB_m 410 (by decide +kernel) (by decide +kernel)
theorem kc_J6_267 : Cond.constant RJ6 267 (iI (252645135)) ∈ TB := TB_m 411 (by decide +kernel) (by decide +kernel)
theorem kl_X6_51 : Cond.constantLong RX6 51 (lI (60)) ∈ TB := TB_m 649 (by decide +kernel) (by decide +kernel)
theorem kl_X6_47 : Cond.constantLong RX6 47 (lI (9)) ∈ TB := TB_m 660 (by decide +kernel) (by decide +kernel)
theorem kl_X6_49 : Cond.constantLong RX6 49 (lI (19)) ∈ TB := TB_m 684 (by decide +kernel) (by decide +kernel)
theorem kl_X6_70 : Cond.constantLong RX6 70 (lI (2)) ∈ TB := TB_m 689 (by decide +kernel) (by decide +kernel)
theorem kl_X6_72 : Cond.constantLong RX6 72 (lI (99)) ∈ TB := TB_m 694 (by decide +kernel) (by decide +kernel)
theorem kl_X6_74 : Cond.constantLong RX6 74 (lI (999)) ∈ TB := TB_m 695 (by decide +kernel) (by decide +kernel)
theorem kl_X6_76 : Cond.constantLong RX6 76 (lI (20)) ∈ TB := TB_m 696 (by decide +kernel) (by decide +kernel)
theorem kl_X6_101 : Cond.constantLong RX6 101 (lI (2000)) ∈ TB := TB_m 717 (by decide +kernel) (by decide +kernel)
theorem kc_X6_103 : Cond.constant RX6 103 (iI (1000000)) ∈ TB := TB_m 718 (by decide +kernel) (by decide +kernel)
theorem kl_X6_107 : Cond.constantLong RX6 107 (lI (3)) ∈ TB := TB_m 751 (by decide +kernel) (by decide +kernel)
theorem kl_X6_123 : Cond.constantLong RX6 123 (lI (63)) ∈ TB := TB_m 760 (by decide +kernel) (by decide +kernel)
theorem kl_X6_146 : Cond.constantLong RX6 146 (lI (10)) ∈ TB := TB_m 807 (by decide +kernel) (by decide +kernel)
theorem kl_X6_159 : Cond.constantLong RX6 159 (lI (8)) ∈ TB := TB_m 819 (by decide +kernel) (by decide +kernel)
theorem kl_X6_161 : Cond.constantLong RX6 161 (lI (255)) ∈ TB := TB_m 820 (by decide +kernel) (by decide +kernel)
theorem kl_X6_163 : Cond.constantLong RX6 163 (lI (32)) ∈ TB := TB_m 821 (by decide +kernel) (by decide +kernel)
theorem kl_X6_165 : Cond.constantLong RX6 165 (lI (126)) ∈ TB := TB_m 822 (by decide +kernel) (by decide +kernel)
theorem kl_X6_180 : Cond.constantLong RX6 180 (lI (97)) ∈ TB := TB_m 835 (by decide +kernel) (by decide +kernel)
theorem kl_X6_182 : Cond.constantLong RX6 182 (lI (106)) ∈ TB := TB_m 836 (by decide +kernel) (by decide +kernel)
theorem kl_X6_176 : Cond.constantLong RX6 176 (lI (48)) ∈ TB := TB_m 841 (by decide +kernel) (by decide +kernel)
theorem kl_X6_178 : Cond.constantLong RX6 178 (lI (57)) ∈ TB := TB_m 842 (by decide +kernel) (by decide +kernel)
theorem kl_L_90 : Cond.constantLong RL 90 (lI (4294967295)) ∈ TB := TB_m 866 (by decide +kernel) (by decide +kernel)
end
section
theorem x_top {mi : MI} {mc ms : Nat} {SC : Option (Nat × (Nat → Int32))} {Z : Zt} {pc : Nat} {ls : List (Option Value)} {st : List Value} {w : AW} {k n : Nat} {x y : Int} (h : x = y) (kk : EX mi mc ms SC Z pc ls (.int (iI y) :: st) w k n) : EX mi mc ms SC Z pc ls (.int (iI x) :: st) w k n := h ▸ kk
theorem bfit {x : Int} (h : x = 0 ∨ x = 1) {S b : Nat} : narrow .boolean (cv S b (.int (iI x))) = cv S b (.int (iI x)) ∧ fits .boolean (cv S b (.int (iI x))) = true := by
  rcases h with rfl | rfl <;> exact ⟨rfl, rfl⟩
theorem cmpI_R (a b : Int) : inR (cmpI a b) := by unfold cmpI; (repeat' split) <;> decide
theorem cmpI_lt {a b : Int} : cmpI a b < 0 ↔ a < b := by unfold cmpI; (repeat' split) <;> omega
theorem cmpI_gt {a b : Int} : 0 < cmpI a b ↔ b < a := by unfold cmpI; (repeat' split) <;> omega
theorem inR_upd {z : Nat → Int} {j : Nat} {v : Int} (h : ∀ i, inR (z i)) (hv : inR v) : ∀ i, inR (updI z j v i) := by
  intro i
  unfold updI
  split
  · exact hv
  · exact h i
/-! ===== the reference: its methods over z ===== -/
abbrev mz (a : Nat) (fr : List Value) (z : Nat → Int) (R : AW) : AW := .inr (6, .ref (a + 1) :: fr) :: aI 0 154 z :: R
abbrev b2i (c : Prop) [Decidable c] : Int := if c then 1 else 0
def mSong (z : Nat → Int) : Int := 2 * z 1 + (if z 2 = 1 then 0 else 1)
def mDoes (z : Nat → Int) (x t : Int) : Nat → Int := updI (updI z 3 x) 4 t
def mPins (z : Nat → Int) : Nat → Int
  | 0 => 0
  | n + 1 => mPins z n + z (30 + n)
def mGoOn (z : Nat → Int) : Nat → Int := if mPins z 20 = 0 then mDoes z 0 0 else if (z 2 = 1 ∧ z 1 = 9) ∨ (¬ z 2 = 1 ∧ z 1 = 0) then mDoes z 2 2 else mDoes z 1 3
def mOut (z : Nat → Int) (s : Nat) : Nat → Int := updI z (30 + s) (if z (50 + s) = 0 then 0 else z (30 + s))
def mLook (z : Nat → Int) : Nat → Int :=
  if z (30 + (mSong z).toNat) = 1 then (if 0 ≤ z (20 + (z 1).toNat) then mDoes (mOut z (mSong z).toNat) 3 4 else mGoOn (updI (mOut z (mSong z).toNat) 6 (z 6 + 1)))
  else mGoOn (updI (mOut z (mSong z).toNat) 6 (z 6 + 0))
def mSide (z : Nat → Int) : Nat := (2 * z (20 + (z 1).toNat) + mSong z % 2).toNat
def mWear (z : Nat → Int) : Int := if 99 ≤ z (122 + mSide z) then 99 else z (122 + mSide z) + 1
def mPlay (z : Nat → Int) : Nat → Int := mDoes (updI (updI (updI z (70 + (mSong z).toNat) ((z (70 + (mSong z).toNat) + 1) % 100)) (122 + mSide z) (mWear z)) 5 (z 5 + 1)) 4 (if mWear z ≤ z 15 then z (90 + mSide z) else 2 * z (90 + mSide z))
def mTick (z : Nat → Int) : Nat → Int :=
  if z 3 = 0 then (if mPins (updI z 0 (z 0 + 1)) 20 ≤ 0 then updI z 0 (z 0 + 1) else mLook (updI z 0 (z 0 + 1)))
  else if 0 < z 4 - 1 then updI (updI z 0 (z 0 + 1)) 4 (z 4 - 1)
  else if z 3 = 1 then mLook (updI (updI (updI z 0 (z 0 + 1)) 4 (z 4 - 1)) 1 (z 1 + (if z 2 = 1 then 1 else -1)))
  else if z 3 = 2 then mLook (updI (updI (updI z 0 (z 0 + 1)) 4 (z 4 - 1)) 2 (1 - z 2))
  else if z 3 = 3 then mPlay (updI (updI z 0 (z 0 + 1)) 4 (z 4 - 1))
  else if z 3 = 4 then mDoes (updI (updI z 0 (z 0 + 1)) 4 (z 4 - 1)) 5 4
  else mGoOn (updI (updI z 0 (z 0 + 1)) 4 (z 4 - 1))
set_option maxRecDepth 100000 in
set_option maxHeartbeats 4000000 in
theorem c_in (w : AW) (v lo hi : Int) (h1 : inR v) (h2 : inR lo) (h3 : inR hi) : CTi I_X6_in 0 0 [.long (lI v), .long (lI lo), .long (lI hi)] (w) (fun x w' => x = (if lo ≤ v ∧ v ≤ hi then 1 else 0) ∧ w' = w) := by
  refine CT_of 0 rfl (Nat.le_of_ble_eq_true rfl) ?_
  show EX I_X6_in 0 0 none _ 0 [some (.long (lI v)), none, some (.long (lI lo)), none, some (.long (lI hi)), none] [] _ 0 0
  refine x_lload_n dX6_in_0 rfl ?_
  refine x_lload_n dX6_in_1 rfl ?_
  refine x_lcmp dX6_in_2 ?_
  refine x_if_lt 17 dX6_in_3 (fun h3 => ?_) (fun h3 => ?_) (ha := cmpI_R _ _)
  · refine x_iconst dX6_in_17 ?_
    exact x_zret dX6_in_18 (by omega) (by rw [cmpI_lt] at *; (try rw [cmpI_gt] at *); exact ⟨by (repeat' split) <;> omega, rfl⟩)
  · refine x_lload_n dX6_in_6 rfl ?_
    refine x_lload dX6_in_7 rfl ?_
    refine x_lcmp dX6_in_9 ?_
    refine x_if_gt 17 dX6_in_10 (fun h10 => ?_) (fun h10 => ?_) (ha := cmpI_R _ _)
    · refine x_iconst dX6_in_17 ?_
      exact x_zret dX6_in_18 (by omega) (by rw [cmpI_lt] at *; (try rw [cmpI_gt] at *); exact ⟨by (repeat' split) <;> omega, rfl⟩)
    · refine x_iconst dX6_in_13 ?_
      refine x_goto 18 dX6_in_14 ?_
      exact x_zret dX6_in_18 (by omega) (by rw [cmpI_lt] at *; (try rw [cmpI_gt] at *); exact ⟨by (repeat' split) <;> omega, rfl⟩)
set_option maxRecDepth 100000 in
set_option maxHeartbeats 4000000 in
theorem c_isPlace (w : AW) (p : Int) (hx : inR p) : CTi I_X6_isPlace 0 0 [.int (iI p)] (w) (fun x w' => x = (if 0 ≤ p ∧ p ≤ 9 then 1 else 0) ∧ w' = w) := by
  refine CT_of 0 rfl (Nat.le_of_ble_eq_true rfl) ?_
  show EX I_X6_isPlace 0 0 none _ 0 [some (.int (iI p))] [] _ 0 0
  refine x_iload_n dX6_isPlace_0 rfl ?_
  refine x_i2l dX6_isPlace_1 ?_
  refine x_lconst dX6_isPlace_2 ?_
  refine x_ldc2 dX6_isPlace_3 kl_X6_47 ?_
  refine x_calliS dX6_isPlace_6 mk_X6_in ml_X6_43 (c_in w p 0 9 hx (by decide) (by decide)) rfl (fun x6 w6 h6 => ?_)
  obtain ⟨rfl, rfl⟩ := h6
  exact x_zret dX6_isPlace_9 (by split <;> omega) (⟨rfl, rfl⟩) 
set_option maxRecDepth 100000 in
set_option maxHeartbeats 4000000 in
theorem c_isSong (w : AW) (s : Int) (hx : inR s) : CTi I_X6_isSong 0 0 [.int (iI s)] (w) (fun x w' => x = (if 0 ≤ s ∧ s ≤ 19 then 1 else 0) ∧ w' = w) := by
  refine CT_of 0 rfl (Nat.le_of_ble_eq_true rfl) ?_
  show EX I_X6_isSong 0 0 none _ 0 [some (.int (iI s))] [] _ 0 0
  refine x_iload_n dX6_isSong_0 rfl ?_
  refine x_i2l dX6_isSong_1 ?_
  refine x_lconst dX6_isSong_2 ?_
  refine x_ldc2 dX6_isSong_3 kl_X6_49 ?_
  refine x_calliS dX6_isSong_6 mk_X6_in ml_X6_43 (c_in w s 0 19 hx (by decide) (by decide)) rfl (fun x6 w6 h6 => ?_)
  obtain ⟨rfl, rfl⟩ := h6
  exact x_zret dX6_isSong_9 (by split <;> omega) (⟨rfl, rfl⟩) 
set_option maxRecDepth 100000 in
set_option maxHeartbeats 4000000 in
theorem c_isRecord {P : AW} {a : Nat} (hP : P.length = a) (fr : List Value) (z : Nat → Int) (R : AW) (r : Int) (hx : inR r) (hm : 0 ≤ z 16 ∧ z 16 ≤ 16) : CTi I_X6_isRecord 0 0 [.ref (a + 0), .int (iI r)] (P ++ mz a fr z R) (fun x w' => x = (if 0 ≤ r ∧ r ≤ z 16 - 1 then 1 else 0) ∧ w' = P ++ mz a fr z R) := by
  refine CT_of 0 rfl (Nat.le_of_ble_eq_true rfl) ?_
  show EX I_X6_isRecord 0 0 none _ 0 [some (.ref (a + 0)), some (.int (iI r))] [] _ 0 0
  refine x_iload_n dX6_isRecord_0 rfl ?_
  refine x_i2l dX6_isRecord_1 ?_
  refine x_lconst dX6_isRecord_2 ?_
  refine x_aload_n dX6_isRecord_3 rfl ?_
  refine x_getfield 0 dX6_isRecord_4 fg_X6_7 hP rfl rfl ?_
  refine x_bipush dX6_isRecord_7 ?_
  refine x_iaload 1 (16) dX6_isRecord_9 hP rfl ?_
  refine x_iconst dX6_isRecord_10 ?_
  refine x_isub dX6_isRecord_11 ?_
  refine x_i2l dX6_isRecord_12 ?_
  refine x_calliS dX6_isRecord_13 mk_X6_in ml_X6_43 (c_in (P ++ mz a fr z R) r 0 (z 16 - 1) hx (by decide) (by omega)) rfl (fun x13 w13 h13 => ?_)
  obtain ⟨rfl, rfl⟩ := h13
  exact x_zret dX6_isRecord_16 (by split <;> omega) (⟨rfl, rfl⟩)
set_option maxRecDepth 100000 in
set_option maxHeartbeats 4000000 in
theorem c_isOut {P : AW} {a : Nat} (hP : P.length = a) (fr : List Value) (z : Nat → Int) (R : AW) (hR : ∀ i, inR (z i)) (p : Int) (hx : inR p) : CTi I_X6_isOut 0 0 [.ref (a + 0), .int (iI p)] (P ++ mz a fr z R) (fun x w' => x = (if z 1 = p ∧ 3 ≤ z 3 then 1 else 0) ∧ w' = P ++ mz a fr z R) := by
  refine CT_of 0 rfl (Nat.le_of_ble_eq_true rfl) ?_
  show EX I_X6_isOut 0 0 none _ 0 [some (.ref (a + 0)), some (.int (iI p))] [] _ 0 0
  refine x_aload_n dX6_isOut_0 rfl ?_
  refine x_getfield 0 dX6_isOut_1 fg_X6_7 hP rfl rfl ?_
  refine x_iconst dX6_isOut_4 ?_
  refine x_iaload 1 (1) dX6_isOut_5 hP rfl ?_
  refine x_iload_n dX6_isOut_6 rfl ?_
  refine x_icmp_ne 24 dX6_isOut_7 (fun h7 => ?_) (fun h7 => ?_) (ha := hR _)
  · refine x_iconst dX6_isOut_24 ?_
    exact x_zret dX6_isOut_25 (by omega) (⟨by (repeat' split) <;> omega, rfl⟩)
  · refine x_aload_n dX6_isOut_10 rfl ?_
    refine x_getfield 0 dX6_isOut_11 fg_X6_7 hP rfl rfl ?_
    refine x_iconst dX6_isOut_14 ?_
    refine x_iaload 1 (3) dX6_isOut_15 hP rfl ?_
    refine x_iconst dX6_isOut_16 ?_
    refine x_icmp_lt 24 dX6_isOut_17 (fun h17 => ?_) (fun h17 => ?_) (ha := hR _)
    · refine x_iconst dX6_isOut_24 ?_
      exact x_zret dX6_isOut_25 (by omega) (⟨by (repeat' split) <;> omega, rfl⟩)
    · refine x_iconst dX6_isOut_20 ?_
      refine x_goto 25 dX6_isOut_21 ?_
      exact x_zret dX6_isOut_25 (by omega) (⟨by (repeat' split) <;> omega, rfl⟩)
set_option maxRecDepth 100000 in
set_option maxHeartbeats 4000000 in
theorem c_songHere {P : AW} {a : Nat} (hP : P.length = a) (fr : List Value) (z : Nat → Int) (R : AW) (hR : ∀ i, inR (z i)) : CTi I_X6_songHere 0 0 [.ref (a + 0)] (P ++ mz a fr z R) (fun x w' => x = mSong z ∧ w' = P ++ mz a fr z R) := by
  refine CT_of 0 rfl (Nat.le_of_ble_eq_true rfl) ?_
  show EX I_X6_songHere 0 0 none _ 0 [some (.ref (a + 0))] [] _ 0 0
  refine x_iconst dX6_songHere_0 ?_
  refine x_aload_n dX6_songHere_1 rfl ?_
  refine x_getfield 0 dX6_songHere_2 fg_X6_7 hP rfl rfl ?_
  refine x_iconst dX6_songHere_5 ?_
  refine x_iaload 1 (1) dX6_songHere_6 hP rfl ?_
  refine x_imul dX6_songHere_7 ?_
  refine x_aload_n dX6_songHere_8 rfl ?_
  refine x_getfield 0 dX6_songHere_9 fg_X6_7 hP rfl rfl ?_
  refine x_iconst dX6_songHere_12 ?_
  refine x_iaload 1 (2) dX6_songHere_13 hP rfl ?_
  refine x_iconst dX6_songHere_14 ?_
  refine x_icmp_ne 22 dX6_songHere_15 (fun h15 => ?_) (fun h15 => ?_) (ha := hR _)
  · refine x_iconst dX6_songHere_22 ?_
    refine x_iadd dX6_songHere_23 ?_
    exact x_iret dX6_songHere_24 (⟨by unfold mSong; split <;> first | rfl | (exfalso; omega), rfl⟩)
  · refine x_iconst dX6_songHere_18 ?_
    refine x_goto 23 dX6_songHere_19 ?_
    refine x_iadd dX6_songHere_23 ?_
    exact x_iret dX6_songHere_24 (⟨by unfold mSong; split <;> first | rfl | (exfalso; omega), rfl⟩)
set_option maxRecDepth 100000 in
set_option maxHeartbeats 4000000 in
theorem c_does {P : AW} {a : Nat} (hP : P.length = a) (fr : List Value) (z : Nat → Int) (R : AW) (x t : Int) : CTv I_X6_does 0 0 [.ref (a + 0), .int (iI x), .int (iI t)] (P ++ mz a fr z R) (fun w' => w' = P ++ mz a fr (mDoes z x t) R) := by
  refine CT_of 0 rfl (Nat.le_of_ble_eq_true rfl) ?_
  show EX I_X6_does 0 0 none _ 0 [some (.ref (a + 0)), some (.int (iI x)), some (.int (iI t))] [] _ 0 0
  refine x_aload_n dX6_does_0 rfl ?_
  refine x_getfield 0 dX6_does_1 fg_X6_7 hP rfl rfl ?_
  refine x_iconst dX6_does_4 ?_
  refine x_iload_n dX6_does_5 rfl ?_
  refine x_iastore 1 (3) dX6_does_6 hP rfl ?_
  refine x_aload_n dX6_does_7 rfl ?_
  refine x_getfield 0 dX6_does_8 fg_X6_7 hP rfl rfl ?_
  refine x_iconst dX6_does_11 ?_
  refine x_iload_n dX6_does_12 rfl ?_
  refine x_iastore 1 (4) dX6_does_13 hP rfl ?_
  exact x_vret dX6_does_14 (rfl)
set_option maxRecDepth 100000 in
set_option maxHeartbeats 4000000 in
theorem l_pinsIn {P : AW} {a : Nat} (hP : P.length = a) (fr : List Value) (z : Nat → Int) (R : AW) {Z : Zt} (hx : EX I_X6_pinsIn 0 0 none Z 28 [some (.ref (a + 0)), some (.int (iI (mPins z 20))), some (.int (iI ((20 : Nat) : Int)))] [] (P ++ mz a fr z R) 0 0) : ∀ (r s : Nat), s + r = 20 → EX I_X6_pinsIn 0 0 none Z 4 [some (.ref (a + 0)), some (.int (iI (mPins z s))), some (.int (iI ((s : Nat) : Int)))] [] (P ++ mz a fr z R) 0 0 := by
  intro r
  induction r with
  | zero =>
    intro s hs 
    have hs' : s = 20 := by omega
    subst hs'
    refine x_iload_n dX6_pinsIn_4 rfl ?_
    refine x_bipush dX6_pinsIn_5 ?_
    refine x_icmp_ge 28 dX6_pinsIn_7 (fun h7 => ?_) (fun h7 => by exfalso; omega)
    exact hx
  | succ r ih =>
    intro s hs 
    refine x_iload_n dX6_pinsIn_4 rfl ?_
    refine x_bipush dX6_pinsIn_5 ?_
    refine x_icmp_ge 28 dX6_pinsIn_7 (fun h7 => by exfalso; omega) (fun h7 => ?_)
    refine x_iload_n dX6_pinsIn_10 rfl ?_
    refine x_aload_n dX6_pinsIn_11 rfl ?_
    refine x_getfield 0 dX6_pinsIn_12 fg_X6_7 hP rfl rfl ?_
    refine x_bipush dX6_pinsIn_15 ?_
    refine x_iload_n dX6_pinsIn_17 rfl ?_
    refine x_iadd dX6_pinsIn_18 ?_
    refine x_iaload 1 (30 + s) dX6_pinsIn_19 hP rfl ?_
    refine x_iadd dX6_pinsIn_20 ?_
    refine x_ist1 dX6_pinsIn_21 ?_
    refine x_inc2 dX6_pinsIn_22 ?_
    refine x_goto 4 dX6_pinsIn_25 ?_
    exact ih (s + 1) (by omega)
set_option maxRecDepth 100000 in
set_option maxHeartbeats 4000000 in
theorem c_pinsIn {P : AW} {a : Nat} (hP : P.length = a) (fr : List Value) (z : Nat → Int) (R : AW) : CTi I_X6_pinsIn 0 0 [.ref (a + 0)] (P ++ mz a fr z R) (fun x w' => x = mPins z 20 ∧ w' = P ++ mz a fr z R) := by
  refine CT_of 2 rfl (Nat.le_of_ble_eq_true rfl) ?_
  show EX I_X6_pinsIn 0 0 none _ 0 [some (.ref (a + 0)), none, none] [] _ 0 0
  refine x_iconst dX6_pinsIn_0 ?_
  refine x_ist1 dX6_pinsIn_1 ?_
  refine x_iconst dX6_pinsIn_2 ?_
  refine x_ist2 dX6_pinsIn_3 ?_
  refine l_pinsIn hP fr z R ?_ 20 0 rfl
  refine x_iload_n dX6_pinsIn_28 rfl ?_
  exact x_iret dX6_pinsIn_29 (⟨rfl, rfl⟩)
set_option maxRecDepth 100000 in
set_option maxHeartbeats 4000000 in
theorem c_goOn {P : AW} {a : Nat} (hP : P.length = a) (fr : List Value) (z : Nat → Int) (R : AW) (hR : ∀ i, inR (z i)) (hp : inR (mPins z 20)) : CTv I_X6_goOn 0 0 [.ref (a + 0)] (P ++ mz a fr z R) (fun w' => w' = P ++ mz a fr (mGoOn z) R) := by
  refine CT_of 0 rfl (Nat.le_of_ble_eq_true rfl) ?_
  show EX I_X6_goOn 0 0 none _ 0 [some (.ref (a + 0))] [] _ 0 0
  refine x_aload_n dX6_goOn_0 rfl ?_
  refine x_calliV dX6_goOn_1 mk_X6_pinsIn ml_X6_82 (c_pinsIn hP fr z R) ((wg_app hP 0).trans rfl) rfl (fun x1 w1 h1 => ?_)
  obtain ⟨rfl, rfl⟩ := h1
  refine x_if_ne 16 dX6_goOn_4 (fun h4 => ?_) (fun h4 => ?_) (ha := hp)
  · refine x_aload_n dX6_goOn_16 rfl ?_
    refine x_getfield 0 dX6_goOn_17 fg_X6_7 hP rfl rfl ?_
    refine x_iconst dX6_goOn_20 ?_
    refine x_iaload 1 (2) dX6_goOn_21 hP rfl ?_
    refine x_iconst dX6_goOn_22 ?_
    refine x_icmp_ne 40 dX6_goOn_23 (fun h23 => ?_) (fun h23 => ?_) (ha := hR _)
    · refine x_aload_n dX6_goOn_40 rfl ?_
      refine x_getfield 0 dX6_goOn_41 fg_X6_7 hP rfl rfl ?_
      refine x_iconst dX6_goOn_44 ?_
      refine x_iaload 1 (1) dX6_goOn_45 hP rfl ?_
      refine x_if_ne 58 dX6_goOn_46 (fun h46 => ?_) (fun h46 => ?_) (ha := hR _)
      · refine x_aload_n dX6_goOn_58 rfl ?_
        refine x_iconst dX6_goOn_59 ?_
        refine x_iconst dX6_goOn_60 ?_
        refine x_callvV dX6_goOn_61 mk_X6_does ml_X6_85 (c_does hP fr _ R 1 3) ((wg_app hP 0).trans rfl) rfl (fun w61 h61 => ?_)
        subst h61
        exact x_vret dX6_goOn_64 (by unfold mGoOn; (repeat' split) <;> first | rfl | (exfalso; omega))
      · refine x_aload_n dX6_goOn_49 rfl ?_
        refine x_iconst dX6_goOn_50 ?_
        refine x_iconst dX6_goOn_51 ?_
        refine x_callvV dX6_goOn_52 mk_X6_does ml_X6_85 (c_does hP fr _ R 2 2) ((wg_app hP 0).trans rfl) rfl (fun w52 h52 => ?_)
        subst h52
        refine x_goto 64 dX6_goOn_55 ?_
        exact x_vret dX6_goOn_64 (by unfold mGoOn; (repeat' split) <;> first | rfl | (exfalso; omega))
    · refine x_aload_n dX6_goOn_26 rfl ?_
      refine x_getfield 0 dX6_goOn_27 fg_X6_7 hP rfl rfl ?_
      refine x_iconst dX6_goOn_30 ?_
      refine x_iaload 1 (1) dX6_goOn_31 hP rfl ?_
      refine x_bipush dX6_goOn_32 ?_
      refine x_icmp_ne 58 dX6_goOn_34 (fun h34 => ?_) (fun h34 => ?_) (ha := hR _)
      · refine x_aload_n dX6_goOn_58 rfl ?_
        refine x_iconst dX6_goOn_59 ?_
        refine x_iconst dX6_goOn_60 ?_
        refine x_callvV dX6_goOn_61 mk_X6_does ml_X6_85 (c_does hP fr _ R 1 3) ((wg_app hP 0).trans rfl) rfl (fun w61 h61 => ?_)
        subst h61
        exact x_vret dX6_goOn_64 (by unfold mGoOn; (repeat' split) <;> first | rfl | (exfalso; omega))
      · refine x_goto 49 dX6_goOn_37 ?_
        refine x_aload_n dX6_goOn_49 rfl ?_
        refine x_iconst dX6_goOn_50 ?_
        refine x_iconst dX6_goOn_51 ?_
        refine x_callvV dX6_goOn_52 mk_X6_does ml_X6_85 (c_does hP fr _ R 2 2) ((wg_app hP 0).trans rfl) rfl (fun w52 h52 => ?_)
        subst h52
        refine x_goto 64 dX6_goOn_55 ?_
        exact x_vret dX6_goOn_64 (by unfold mGoOn; (repeat' split) <;> first | rfl | (exfalso; omega))
  · refine x_aload_n dX6_goOn_7 rfl ?_
    refine x_iconst dX6_goOn_8 ?_
    refine x_iconst dX6_goOn_9 ?_
    refine x_callvV dX6_goOn_10 mk_X6_does ml_X6_85 (c_does hP fr _ R 0 0) ((wg_app hP 0).trans rfl) rfl (fun w10 h10 => ?_)
    subst h10
    refine x_goto 64 dX6_goOn_13 ?_
    exact x_vret dX6_goOn_64 (by unfold mGoOn; (repeat' split) <;> first | rfl | (exfalso; omega))
end
section
/-! ===== what holds of z ===== -/
def P01 (z : Nat → Int) : Prop := ∀ s, s < 20 → z (30 + s) = 0 ∨ z (30 + s) = 1
theorem mPins_b {z : Nat → Int} (h : P01 z) : ∀ n, n ≤ 20 → 0 ≤ mPins z n ∧ mPins z n ≤ n
  | 0, _ => by simp [mPins]
  | n + 1, hn => by
    have h1 := mPins_b h n (by omega)
    have h2 := h n (by omega)
    simp only [mPins]
    omega
theorem mPins_R {z : Nat → Int} (h : P01 z) : inR (mPins z 20) := by
  have := mPins_b h 20 (by omega)
  omega
theorem P01_u {z : Nat → Int} {j : Nat} {v : Int} (h : P01 z) (hv : v = 0 ∨ v = 1) : P01 (updI z j v) := by
  intro s hs
  unfold updI
  split
  · exact hv
  · exact h s hs
theorem P01_n {z : Nat → Int} {j : Nat} {v : Int} (h : P01 z) (hj : j < 30) : P01 (updI z j v) := by
  intro s hs
  rw [updI_n (by omega)]
  exact h s hs
theorem P01_o {z : Nat → Int} (h : P01 z) (s : Nat) (hs : s < 20) : P01 (mOut z s) := by
  unfold mOut
  refine P01_u h ?_
  split
  · exact Or.inl rfl
  · exact h s hs
theorem mSong_b {z : Nat → Int} (h1 : 0 ≤ z 1) (h2 : z 1 ≤ 9) : 0 ≤ mSong z ∧ mSong z ≤ 19 := by
  unfold mSong
  split <;> omega
set_option maxRecDepth 100000 in
set_option maxHeartbeats 4000000 in
theorem c_look {P : AW} {a : Nat} (hP : P.length = a) (fr : List Value) (z : Nat → Int) (R : AW) (hR : ∀ i, inR (z i)) (h1 : 0 ≤ z 1) (h2 : z 1 ≤ 9) (hpn : P01 z) (h6 : 0 ≤ z 6 ∧ z 6 ≤ 2000000000) : CTv I_X6_look 0 0 [.ref (a + 0)] (P ++ mz a fr z R) (fun w' => w' = P ++ mz a fr (mLook z) R) := by
  have hs := mSong_b h1 h2
  refine CT_of 2 rfl (Nat.le_of_ble_eq_true rfl) ?_
  show EX I_X6_look 0 0 none _ 0 [some (.ref (a + 0)), none, none] [] _ 0 0
  refine x_aload_n dX6_look_0 rfl ?_
  refine x_calliV dX6_look_1 mk_X6_songHere ml_X6_89 (c_songHere hP fr z R hR) ((wg_app hP 0).trans rfl) rfl (fun x1 w1 h1 => ?_)
  obtain ⟨rfl, rfl⟩ := h1
  refine x_ist1 dX6_look_4 ?_
  refine x_aload_n dX6_look_5 rfl ?_
  refine x_getfield 0 dX6_look_6 fg_X6_7 hP rfl rfl ?_
  refine x_bipush dX6_look_9 ?_
  refine x_iload_n dX6_look_11 rfl ?_
  refine x_iadd dX6_look_12 ?_
  refine x_iaload 1 (30 + (mSong z).toNat) dX6_look_13 hP rfl ?_
  refine x_iconst dX6_look_14 ?_
  refine x_icmp_ne 22 dX6_look_15 (fun h15 => ?_) (fun h15 => ?_) (ha := hR _)
  · refine x_iconst dX6_look_22 ?_
    refine x_ist2 dX6_look_23 ?_
    refine x_aload_n dX6_look_24 rfl ?_
    refine x_getfield 0 dX6_look_25 fg_X6_7 hP rfl rfl ?_
    refine x_bipush dX6_look_28 ?_
    refine x_iload_n dX6_look_30 rfl ?_
    refine x_iadd dX6_look_31 ?_
    refine x_aload_n dX6_look_32 rfl ?_
    refine x_getfield 0 dX6_look_33 fg_X6_7 hP rfl rfl ?_
    refine x_bipush dX6_look_36 ?_
    refine x_iload_n dX6_look_38 rfl ?_
    refine x_iadd dX6_look_39 ?_
    refine x_iaload 1 (50 + (mSong z).toNat) dX6_look_40 hP rfl ?_
    refine x_if_ne 48 dX6_look_41 (fun h41 => ?_) (fun h41 => ?_) (ha := hR _)
    · refine x_aload_n dX6_look_48 rfl ?_
      refine x_getfield 0 dX6_look_49 fg_X6_7 hP rfl rfl ?_
      refine x_bipush dX6_look_52 ?_
      refine x_iload_n dX6_look_54 rfl ?_
      refine x_iadd dX6_look_55 ?_
      refine x_iaload 1 (30 + (mSong z).toNat) dX6_look_56 hP rfl ?_
      refine x_iastore 1 (30 + (mSong z).toNat) dX6_look_57 hP rfl ?_
      refine x_iload_n dX6_look_58 rfl ?_
      refine x_if_eq 86 dX6_look_59 (fun h59 => ?_) (fun h59 => absurd h59 (by decide))
      refine x_aload_n dX6_look_86 rfl ?_
      refine x_getfield 0 dX6_look_87 fg_X6_7 hP rfl rfl ?_
      refine x_bipush dX6_look_90 ?_
      refine x_dup2 dX6_look_92 ?_
      refine x_iaload 1 (6) dX6_look_93 hP rfl ?_
      refine x_top (updI_n (by omega)) ?_
      refine x_iload_n dX6_look_94 rfl ?_
      refine x_if_eq 102 dX6_look_95 (fun h95 => ?_) (fun h95 => absurd h95 (by decide))
      refine x_iconst dX6_look_102 ?_
      refine x_iadd dX6_look_103 ?_
      refine x_iastore 1 (6) dX6_look_104 hP rfl ?_
      refine x_aload_n dX6_look_105 rfl ?_
      refine x_callvV dX6_look_106 mk_X6_goOn ml_X6_92 (c_goOn hP fr _ R (inR_upd (inR_upd hR (by first | exact hR _ | decide)) (by omega)) (mPins_R (P01_n (P01_u hpn (by first | exact Or.inl rfl | exact hpn _ (by omega))) (by decide)))) ((wg_app hP 0).trans rfl) rfl (fun w106 h106 => ?_)
      subst h106
      exact x_vret dX6_look_109 (by unfold mLook mOut; (repeat' split) <;> first | rfl | (exfalso; omega))
    · refine x_iconst dX6_look_44 ?_
      refine x_goto 57 dX6_look_45 ?_
      refine x_iastore 1 (30 + (mSong z).toNat) dX6_look_57 hP rfl ?_
      refine x_iload_n dX6_look_58 rfl ?_
      refine x_if_eq 86 dX6_look_59 (fun h59 => ?_) (fun h59 => absurd h59 (by decide))
      refine x_aload_n dX6_look_86 rfl ?_
      refine x_getfield 0 dX6_look_87 fg_X6_7 hP rfl rfl ?_
      refine x_bipush dX6_look_90 ?_
      refine x_dup2 dX6_look_92 ?_
      refine x_iaload 1 (6) dX6_look_93 hP rfl ?_
      refine x_top (updI_n (by omega)) ?_
      refine x_iload_n dX6_look_94 rfl ?_
      refine x_if_eq 102 dX6_look_95 (fun h95 => ?_) (fun h95 => absurd h95 (by decide))
      refine x_iconst dX6_look_102 ?_
      refine x_iadd dX6_look_103 ?_
      refine x_iastore 1 (6) dX6_look_104 hP rfl ?_
      refine x_aload_n dX6_look_105 rfl ?_
      refine x_callvV dX6_look_106 mk_X6_goOn ml_X6_92 (c_goOn hP fr _ R (inR_upd (inR_upd hR (by first | exact hR _ | decide)) (by omega)) (mPins_R (P01_n (P01_u hpn (by first | exact Or.inl rfl | exact hpn _ (by omega))) (by decide)))) ((wg_app hP 0).trans rfl) rfl (fun w106 h106 => ?_)
      subst h106
      exact x_vret dX6_look_109 (by unfold mLook mOut; (repeat' split) <;> first | rfl | (exfalso; omega))
  · refine x_iconst dX6_look_18 ?_
    refine x_goto 23 dX6_look_19 ?_
    refine x_ist2 dX6_look_23 ?_
    refine x_aload_n dX6_look_24 rfl ?_
    refine x_getfield 0 dX6_look_25 fg_X6_7 hP rfl rfl ?_
    refine x_bipush dX6_look_28 ?_
    refine x_iload_n dX6_look_30 rfl ?_
    refine x_iadd dX6_look_31 ?_
    refine x_aload_n dX6_look_32 rfl ?_
    refine x_getfield 0 dX6_look_33 fg_X6_7 hP rfl rfl ?_
    refine x_bipush dX6_look_36 ?_
    refine x_iload_n dX6_look_38 rfl ?_
    refine x_iadd dX6_look_39 ?_
    refine x_iaload 1 (50 + (mSong z).toNat) dX6_look_40 hP rfl ?_
    refine x_if_ne 48 dX6_look_41 (fun h41 => ?_) (fun h41 => ?_) (ha := hR _)
    · refine x_aload_n dX6_look_48 rfl ?_
      refine x_getfield 0 dX6_look_49 fg_X6_7 hP rfl rfl ?_
      refine x_bipush dX6_look_52 ?_
      refine x_iload_n dX6_look_54 rfl ?_
      refine x_iadd dX6_look_55 ?_
      refine x_iaload 1 (30 + (mSong z).toNat) dX6_look_56 hP rfl ?_
      refine x_iastore 1 (30 + (mSong z).toNat) dX6_look_57 hP rfl ?_
      refine x_iload_n dX6_look_58 rfl ?_
      refine x_if_eq 86 dX6_look_59 (fun h59 => absurd h59 (by decide)) (fun h59 => ?_)
      refine x_aload_n dX6_look_62 rfl ?_
      refine x_getfield 0 dX6_look_63 fg_X6_7 hP rfl rfl ?_
      refine x_bipush dX6_look_66 ?_
      refine x_aload_n dX6_look_68 rfl ?_
      refine x_getfield 0 dX6_look_69 fg_X6_7 hP rfl rfl ?_
      refine x_iconst dX6_look_72 ?_
      refine x_iaload 1 (1) dX6_look_73 hP rfl ?_
      refine x_top (updI_n (by omega)) ?_
      refine x_iadd dX6_look_74 ?_
      refine x_iaload 1 (20 + (z 1).toNat) dX6_look_75 hP rfl ?_
      refine x_top (updI_n (by omega)) ?_
      refine x_if_lt 86 dX6_look_76 (fun h76 => ?_) (fun h76 => ?_) (ha := hR _)
      · refine x_aload_n dX6_look_86 rfl ?_
        refine x_getfield 0 dX6_look_87 fg_X6_7 hP rfl rfl ?_
        refine x_bipush dX6_look_90 ?_
        refine x_dup2 dX6_look_92 ?_
        refine x_iaload 1 (6) dX6_look_93 hP rfl ?_
        refine x_top (updI_n (by omega)) ?_
        refine x_iload_n dX6_look_94 rfl ?_
        refine x_if_eq 102 dX6_look_95 (fun h95 => absurd h95 (by decide)) (fun h95 => ?_)
        refine x_iconst dX6_look_98 ?_
        refine x_goto 103 dX6_look_99 ?_
        refine x_iadd dX6_look_103 ?_
        refine x_iastore 1 (6) dX6_look_104 hP rfl ?_
        refine x_aload_n dX6_look_105 rfl ?_
        refine x_callvV dX6_look_106 mk_X6_goOn ml_X6_92 (c_goOn hP fr _ R (inR_upd (inR_upd hR (by first | exact hR _ | decide)) (by omega)) (mPins_R (P01_n (P01_u hpn (by first | exact Or.inl rfl | exact hpn _ (by omega))) (by decide)))) ((wg_app hP 0).trans rfl) rfl (fun w106 h106 => ?_)
        subst h106
        exact x_vret dX6_look_109 (by unfold mLook mOut; (repeat' split) <;> first | rfl | (exfalso; omega))
      · refine x_aload_n dX6_look_79 rfl ?_
        refine x_iconst dX6_look_80 ?_
        refine x_iconst dX6_look_81 ?_
        refine x_callvV dX6_look_82 mk_X6_does ml_X6_85 (c_does hP fr _ R 3 4) ((wg_app hP 0).trans rfl) rfl (fun w82 h82 => ?_)
        subst h82
        exact x_vret dX6_look_85 (by unfold mLook mOut; (repeat' split) <;> first | rfl | (exfalso; omega))
    · refine x_iconst dX6_look_44 ?_
      refine x_goto 57 dX6_look_45 ?_
      refine x_iastore 1 (30 + (mSong z).toNat) dX6_look_57 hP rfl ?_
      refine x_iload_n dX6_look_58 rfl ?_
      refine x_if_eq 86 dX6_look_59 (fun h59 => absurd h59 (by decide)) (fun h59 => ?_)
      refine x_aload_n dX6_look_62 rfl ?_
      refine x_getfield 0 dX6_look_63 fg_X6_7 hP rfl rfl ?_
      refine x_bipush dX6_look_66 ?_
      refine x_aload_n dX6_look_68 rfl ?_
      refine x_getfield 0 dX6_look_69 fg_X6_7 hP rfl rfl ?_
      refine x_iconst dX6_look_72 ?_
      refine x_iaload 1 (1) dX6_look_73 hP rfl ?_
      refine x_top (updI_n (by omega)) ?_
      refine x_iadd dX6_look_74 ?_
      refine x_iaload 1 (20 + (z 1).toNat) dX6_look_75 hP rfl ?_
      refine x_top (updI_n (by omega)) ?_
      refine x_if_lt 86 dX6_look_76 (fun h76 => ?_) (fun h76 => ?_) (ha := hR _)
      · refine x_aload_n dX6_look_86 rfl ?_
        refine x_getfield 0 dX6_look_87 fg_X6_7 hP rfl rfl ?_
        refine x_bipush dX6_look_90 ?_
        refine x_dup2 dX6_look_92 ?_
        refine x_iaload 1 (6) dX6_look_93 hP rfl ?_
        refine x_top (updI_n (by omega)) ?_
        refine x_iload_n dX6_look_94 rfl ?_
        refine x_if_eq 102 dX6_look_95 (fun h95 => absurd h95 (by decide)) (fun h95 => ?_)
        refine x_iconst dX6_look_98 ?_
        refine x_goto 103 dX6_look_99 ?_
        refine x_iadd dX6_look_103 ?_
        refine x_iastore 1 (6) dX6_look_104 hP rfl ?_
        refine x_aload_n dX6_look_105 rfl ?_
        refine x_callvV dX6_look_106 mk_X6_goOn ml_X6_92 (c_goOn hP fr _ R (inR_upd (inR_upd hR (by first | exact hR _ | decide)) (by omega)) (mPins_R (P01_n (P01_u hpn (by first | exact Or.inl rfl | exact hpn _ (by omega))) (by decide)))) ((wg_app hP 0).trans rfl) rfl (fun w106 h106 => ?_)
        subst h106
        exact x_vret dX6_look_109 (by unfold mLook mOut; (repeat' split) <;> first | rfl | (exfalso; omega))
      · refine x_aload_n dX6_look_79 rfl ?_
        refine x_iconst dX6_look_80 ?_
        refine x_iconst dX6_look_81 ?_
        refine x_callvV dX6_look_82 mk_X6_does ml_X6_85 (c_does hP fr _ R 3 4) ((wg_app hP 0).trans rfl) rfl (fun w82 h82 => ?_)
        subst h82
        exact x_vret dX6_look_85 (by unfold mLook mOut; (repeat' split) <;> first | rfl | (exfalso; omega))
set_option maxRecDepth 100000 in
set_option maxHeartbeats 4000000 in
theorem c_play {P : AW} {a : Nat} (hP : P.length = a) (fr : List Value) (z : Nat → Int) (R : AW) (hR : ∀ i, inR (z i)) (h1 : 0 ≤ z 1) (h2 : z 1 ≤ 9) (hr1 : 0 ≤ z (20 + (z 1).toNat)) (hr2 : z (20 + (z 1).toNat) ≤ 15) (hm : ∀ s, s < 20 → 0 ≤ z (70 + s) ∧ z (70 + s) ≤ 99) (hwr : ∀ s, s < 32 → 0 ≤ z (122 + s) ∧ z (122 + s) ≤ 99) : CTv I_X6_play 0 0 [.ref (a + 0)] (P ++ mz a fr z R) (fun w' => w' = P ++ mz a fr (mPlay z) R) := by
  have hs := mSong_b h1 h2
  have hm := hm (mSong z).toNat (by omega)
  have hsd : 2 * z (20 + (z 1).toNat) + mSong z % 2 = ((mSide z : Nat) : Int) := by unfold mSide; omega
  have hw := hwr (mSide z) (by omega)
  refine CT_of 2 rfl (Nat.le_of_ble_eq_true rfl) ?_
  show EX I_X6_play 0 0 none _ 0 [some (.ref (a + 0)), none, none] [] _ 0 0
  refine x_aload_n dX6_play_0 rfl ?_
  refine x_calliV dX6_play_1 mk_X6_songHere ml_X6_89 (c_songHere hP fr z R hR) ((wg_app hP 0).trans rfl) rfl (fun x1 w1 h1 => ?_)
  obtain ⟨rfl, rfl⟩ := h1
  refine x_ist1 dX6_play_4 ?_
  refine x_iconst dX6_play_5 ?_
  refine x_aload_n dX6_play_6 rfl ?_
  refine x_getfield 0 dX6_play_7 fg_X6_7 hP rfl rfl ?_
  refine x_bipush dX6_play_10 ?_
  refine x_aload_n dX6_play_12 rfl ?_
  refine x_getfield 0 dX6_play_13 fg_X6_7 hP rfl rfl ?_
  refine x_iconst dX6_play_16 ?_
  refine x_iaload 1 (1) dX6_play_17 hP rfl ?_
  refine x_iadd dX6_play_18 ?_
  refine x_iaload 1 (20 + (z 1).toNat) dX6_play_19 hP rfl ?_
  refine x_imul dX6_play_20 ?_
  refine x_iload_n dX6_play_21 rfl ?_
  refine x_iconst dX6_play_22 ?_
  refine x_irem dX6_play_23 ?_
  refine x_iadd dX6_play_24 ?_
  refine x_ist2 dX6_play_25 ?_
  refine x_aload_n dX6_play_26 rfl ?_
  refine x_getfield 0 dX6_play_27 fg_X6_7 hP rfl rfl ?_
  refine x_bipush dX6_play_30 ?_
  refine x_iload_n dX6_play_32 rfl ?_
  refine x_iadd dX6_play_33 ?_
  refine x_aload_n dX6_play_34 rfl ?_
  refine x_getfield 0 dX6_play_35 fg_X6_7 hP rfl rfl ?_
  refine x_bipush dX6_play_38 ?_
  refine x_iload_n dX6_play_40 rfl ?_
  refine x_iadd dX6_play_41 ?_
  refine x_iaload 1 (70 + (mSong z).toNat) dX6_play_42 hP rfl ?_
  refine x_iconst dX6_play_43 ?_
  refine x_iadd dX6_play_44 ?_
  refine x_bipush dX6_play_45 ?_
  refine x_irem dX6_play_47 ?_ (h1 := by omega) (h2 := by omega)
  refine x_iastore 1 (70 + (mSong z).toNat) dX6_play_48 hP rfl ?_
  refine x_aload_n dX6_play_49 rfl ?_
  refine x_getfield 0 dX6_play_50 fg_X6_7 hP rfl rfl ?_
  refine x_bipush dX6_play_53 ?_
  refine x_iload_n dX6_play_55 rfl ?_
  refine x_iadd dX6_play_56 ?_
  refine x_aload_n dX6_play_57 rfl ?_
  refine x_getfield 0 dX6_play_58 fg_X6_7 hP rfl rfl ?_
  refine x_bipush dX6_play_61 ?_
  refine x_iload_n dX6_play_63 rfl ?_
  refine x_iadd dX6_play_64 ?_
  refine x_iaload 1 (122 + mSide z) dX6_play_65 hP rfl ?_
  refine x_top (updI_n (by omega)) ?_
  refine x_bipush dX6_play_66 ?_
  refine x_icmp_ge 85 dX6_play_68 (fun h68 => ?_) (fun h68 => ?_) (ha := hR _)
  · refine x_bipush dX6_play_85 ?_
    refine x_iastore 1 (122 + mSide z) dX6_play_87 hP rfl ?_
    refine x_aload_n dX6_play_88 rfl ?_
    refine x_getfield 0 dX6_play_89 fg_X6_7 hP rfl rfl ?_
    refine x_iconst dX6_play_92 ?_
    refine x_dup2 dX6_play_93 ?_
    refine x_iaload 1 (5) dX6_play_94 hP rfl ?_
    refine x_top ((updI_n (by omega)).trans (updI_n (by omega))) ?_
    refine x_iconst dX6_play_95 ?_
    refine x_iadd dX6_play_96 ?_
    refine x_iastore 1 (5) dX6_play_97 hP rfl ?_
    refine x_aload_n dX6_play_98 rfl ?_
    refine x_iconst dX6_play_99 ?_
    refine x_aload_n dX6_play_100 rfl ?_
    refine x_getfield 0 dX6_play_101 fg_X6_7 hP rfl rfl ?_
    refine x_bipush dX6_play_104 ?_
    refine x_iload_n dX6_play_106 rfl ?_
    refine x_iadd dX6_play_107 ?_
    refine x_iaload 1 (122 + mSide z) dX6_play_108 hP rfl ?_
    refine x_top ((updI_n (by omega)).trans (updI_e _ _ _)) ?_
    refine x_aload_n dX6_play_109 rfl ?_
    refine x_getfield 0 dX6_play_110 fg_X6_7 hP rfl rfl ?_
    refine x_bipush dX6_play_113 ?_
    refine x_iaload 1 (15) dX6_play_115 hP rfl ?_
    refine x_top ((updI_n (by omega)).trans ((updI_n (by omega)).trans (updI_n (by omega)))) ?_
    refine x_icmp_le 133 dX6_play_116 (fun h116 => ?_) (fun h116 => ?_) (ha := by omega) (hb := hR _)
    · refine x_aload_n dX6_play_133 rfl ?_
      refine x_getfield 0 dX6_play_134 fg_X6_7 hP rfl rfl ?_
      refine x_bipush dX6_play_137 ?_
      refine x_iload_n dX6_play_139 rfl ?_
      refine x_iadd dX6_play_140 ?_
      refine x_iaload 1 (90 + mSide z) dX6_play_141 hP rfl ?_
      refine x_top ((updI_n (by omega)).trans ((updI_n (by omega)).trans (updI_n (by omega)))) ?_
      refine x_callvV dX6_play_142 mk_X6_does ml_X6_85 (c_does hP fr _ R 4 _) ((wg_app hP 0).trans rfl) rfl (fun w142 h142 => ?_)
      subst h142
      exact x_vret dX6_play_145 (by unfold mPlay mWear; (repeat' split) <;> first | rfl | (exfalso; omega))
    · refine x_iconst dX6_play_119 ?_
      refine x_aload_n dX6_play_120 rfl ?_
      refine x_getfield 0 dX6_play_121 fg_X6_7 hP rfl rfl ?_
      refine x_bipush dX6_play_124 ?_
      refine x_iload_n dX6_play_126 rfl ?_
      refine x_iadd dX6_play_127 ?_
      refine x_iaload 1 (90 + mSide z) dX6_play_128 hP rfl ?_
      refine x_top ((updI_n (by omega)).trans ((updI_n (by omega)).trans (updI_n (by omega)))) ?_
      refine x_imul dX6_play_129 ?_
      refine x_goto 142 dX6_play_130 ?_
      refine x_callvV dX6_play_142 mk_X6_does ml_X6_85 (c_does hP fr _ R 4 _) ((wg_app hP 0).trans rfl) rfl (fun w142 h142 => ?_)
      subst h142
      exact x_vret dX6_play_145 (by unfold mPlay mWear; (repeat' split) <;> first | rfl | (exfalso; omega))
  · refine x_aload_n dX6_play_71 rfl ?_
    refine x_getfield 0 dX6_play_72 fg_X6_7 hP rfl rfl ?_
    refine x_bipush dX6_play_75 ?_
    refine x_iload_n dX6_play_77 rfl ?_
    refine x_iadd dX6_play_78 ?_
    refine x_iaload 1 (122 + mSide z) dX6_play_79 hP rfl ?_
    refine x_top (updI_n (by omega)) ?_
    refine x_iconst dX6_play_80 ?_
    refine x_iadd dX6_play_81 ?_
    refine x_goto 87 dX6_play_82 ?_
    refine x_iastore 1 (122 + mSide z) dX6_play_87 hP rfl ?_
    refine x_aload_n dX6_play_88 rfl ?_
    refine x_getfield 0 dX6_play_89 fg_X6_7 hP rfl rfl ?_
    refine x_iconst dX6_play_92 ?_
    refine x_dup2 dX6_play_93 ?_
    refine x_iaload 1 (5) dX6_play_94 hP rfl ?_
    refine x_top ((updI_n (by omega)).trans (updI_n (by omega))) ?_
    refine x_iconst dX6_play_95 ?_
    refine x_iadd dX6_play_96 ?_
    refine x_iastore 1 (5) dX6_play_97 hP rfl ?_
    refine x_aload_n dX6_play_98 rfl ?_
    refine x_iconst dX6_play_99 ?_
    refine x_aload_n dX6_play_100 rfl ?_
    refine x_getfield 0 dX6_play_101 fg_X6_7 hP rfl rfl ?_
    refine x_bipush dX6_play_104 ?_
    refine x_iload_n dX6_play_106 rfl ?_
    refine x_iadd dX6_play_107 ?_
    refine x_iaload 1 (122 + mSide z) dX6_play_108 hP rfl ?_
    refine x_top ((updI_n (by omega)).trans (updI_e _ _ _)) ?_
    refine x_aload_n dX6_play_109 rfl ?_
    refine x_getfield 0 dX6_play_110 fg_X6_7 hP rfl rfl ?_
    refine x_bipush dX6_play_113 ?_
    refine x_iaload 1 (15) dX6_play_115 hP rfl ?_
    refine x_top ((updI_n (by omega)).trans ((updI_n (by omega)).trans (updI_n (by omega)))) ?_
    refine x_icmp_le 133 dX6_play_116 (fun h116 => ?_) (fun h116 => ?_) (ha := by omega) (hb := hR _)
    · refine x_aload_n dX6_play_133 rfl ?_
      refine x_getfield 0 dX6_play_134 fg_X6_7 hP rfl rfl ?_
      refine x_bipush dX6_play_137 ?_
      refine x_iload_n dX6_play_139 rfl ?_
      refine x_iadd dX6_play_140 ?_
      refine x_iaload 1 (90 + mSide z) dX6_play_141 hP rfl ?_
      refine x_top ((updI_n (by omega)).trans ((updI_n (by omega)).trans (updI_n (by omega)))) ?_
      refine x_callvV dX6_play_142 mk_X6_does ml_X6_85 (c_does hP fr _ R 4 _) ((wg_app hP 0).trans rfl) rfl (fun w142 h142 => ?_)
      subst h142
      exact x_vret dX6_play_145 (by unfold mPlay mWear; (repeat' split) <;> first | rfl | (exfalso; omega))
    · refine x_iconst dX6_play_119 ?_
      refine x_aload_n dX6_play_120 rfl ?_
      refine x_getfield 0 dX6_play_121 fg_X6_7 hP rfl rfl ?_
      refine x_bipush dX6_play_124 ?_
      refine x_iload_n dX6_play_126 rfl ?_
      refine x_iadd dX6_play_127 ?_
      refine x_iaload 1 (90 + mSide z) dX6_play_128 hP rfl ?_
      refine x_top ((updI_n (by omega)).trans ((updI_n (by omega)).trans (updI_n (by omega)))) ?_
      refine x_imul dX6_play_129 ?_
      refine x_goto 142 dX6_play_130 ?_
      refine x_callvV dX6_play_142 mk_X6_does ml_X6_85 (c_does hP fr _ R 4 _) ((wg_app hP 0).trans rfl) rfl (fun w142 h142 => ?_)
      subst h142
      exact x_vret dX6_play_145 (by unfold mPlay mWear; (repeat' split) <;> first | rfl | (exfalso; omega))
end
section
/-- what holds of z, but for what the carriage does -/
def ZC (z : Nat → Int) : Prop :=
  (0 ≤ z 1 ∧ z 1 ≤ 9) ∧ (z 2 = 0 ∨ z 2 = 1) ∧ (1 ≤ z 15 ∧ z 15 ≤ 99) ∧ (0 ≤ z 16 ∧ z 16 ≤ 16) ∧
  (∀ p, p < 10 → z (20 + p) = -4 ∨ (0 ≤ z (20 + p) ∧ z (20 + p) < z 16)) ∧
  (∀ p q, p < q → q < 10 → z (20 + p) = z (20 + q) → z (20 + p) = -4) ∧
  P01 z ∧ (∀ s, s < 20 → 0 ≤ z (50 + s) ∧ z (50 + s) ≤ 2) ∧ (∀ s, s < 20 → z (50 + s) = 1 → z (30 + s) = 1) ∧ (∀ s, s < 20 → z (50 + s) = 2 → z (30 + s) = 0) ∧
  (∀ s, s < 20 → 0 ≤ z (70 + s) ∧ z (70 + s) ≤ 99) ∧ (∀ r, r < 32 → 0 ≤ z (90 + r) ∧ z (90 + r) ≤ 60) ∧ (∀ r : Nat, (r : Int) < 2 * z 16 → 1 ≤ z (90 + r)) ∧ (∀ r, r < 32 → 0 ≤ z (122 + r) ∧ z (122 + r) ≤ 99)
/-- what the carriage does -/
def ZD (z : Nat → Int) : Prop :=
  (0 ≤ z 3 ∧ z 3 ≤ 5) ∧ (0 ≤ z 4 ∧ z 4 ≤ 120) ∧ (z 3 = 0 → z 4 = 0) ∧ (¬ z 3 = 0 → 1 ≤ z 4) ∧ (3 ≤ z 3 → 0 ≤ z (20 + (z 1).toNat)) ∧
  (z 3 = 1 → (z 2 = 1 → z 1 ≤ 8) ∧ (z 2 = 0 → 1 ≤ z 1)) ∧ (z 3 = 2 → (z 2 = 1 ∧ z 1 = 9) ∨ (z 2 = 0 ∧ z 1 = 0))
def ZB (z : Nat → Int) : Prop := (0 ≤ z 0 ∧ z 0 ≤ 2000000000) ∧ (0 ≤ z 5 ∧ z 5 ≤ 2000000000) ∧ (0 ≤ z 6 ∧ z 6 ≤ 2000000000)
theorem ZC_eq {z z' : Nat → Int} (h : ZC z) (e : ∀ i, i = 1 ∨ i = 2 ∨ 15 ≤ i → z' i = z i) : ZC z' := by
  obtain ⟨h1, h2, h3, h4, h5, h6, h7, h8, h9, h10, h11, h12, h13, h14⟩ := h
  refine ⟨by rw [e 1 (by omega)]; exact h1, by rw [e 2 (by omega)]; exact h2, by rw [e 15 (by omega)]; exact h3, by rw [e 16 (by omega)]; exact h4, fun p hp => by rw [e (20 + p) (by omega), e 16 (by omega)]; exact h5 p hp, fun p q hpq hq he => ?_, fun s hs => by rw [e _ (by omega)]; exact h7 s hs, fun s hs => by rw [e _ (by omega)]; exact h8 s hs, fun s hs he => ?_, fun s hs he => ?_, fun s hs => by rw [e _ (by omega)]; exact h11 s hs, fun s hs => by rw [e _ (by omega)]; exact h12 s hs, fun r hr => ?_, fun s hs => by rw [e _ (by omega)]; exact h14 s hs⟩
  · rw [e (20 + p) (by omega), e (20 + q) (by omega)] at he
    rw [e (20 + p) (by omega)]
    exact h6 p q hpq hq he
  · rw [e _ (by omega)] at he ⊢
    exact h9 s hs he
  · rw [e _ (by omega)] at he ⊢
    exact h10 s hs he
  · rw [e 16 (by omega)] at hr
    rw [e _ (by omega)]
    exact h13 r hr
theorem ZC_n {z : Nat → Int} {j : Nat} {v : Int} (h : ZC z) (hj : j = 0 ∨ (3 ≤ j ∧ j ≤ 14)) : ZC (updI z j v) := ZC_eq h (fun i hi => updI_n (by omega))
theorem ZC_p {z : Nat → Int} {v : Int} (h : ZC z) (h1 : 0 ≤ v) (h2 : v ≤ 9) : ZC (updI z 1 v) := by
  obtain ⟨g1, g2, g3, g4, g5, g6, g7, g8, g9, g10, g11, g12, g13, g14⟩ := h
  have e : ∀ i, ¬ i = 1 → updI z 1 v i = z i := fun i hi => updI_n hi
  refine ⟨by rw [updI_e]; exact ⟨h1, h2⟩, by rw [e 2 (by omega)]; exact g2, by rw [e 15 (by omega)]; exact g3, by rw [e 16 (by omega)]; exact g4, fun p hp => by rw [e (20 + p) (by omega), e 16 (by omega)]; exact g5 p hp, fun p q hpq hq he => ?_, fun s hs => by rw [e _ (by omega)]; exact g7 s hs, fun s hs => by rw [e _ (by omega)]; exact g8 s hs, fun s hs he => ?_, fun s hs he => ?_, fun s hs => by rw [e _ (by omega)]; exact g11 s hs, fun s hs => by rw [e _ (by omega)]; exact g12 s hs, fun r hr => ?_, fun s hs => by rw [e _ (by omega)]; exact g14 s hs⟩
  · rw [e (20 + p) (by omega), e (20 + q) (by omega)] at he
    rw [e (20 + p) (by omega)]
    exact g6 p q hpq hq he
  · rw [e _ (by omega)] at he ⊢
    exact g9 s hs he
  · rw [e _ (by omega)] at he ⊢
    exact g10 s hs he
  · rw [e 16 (by omega)] at hr
    rw [e _ (by omega)]
    exact g13 r hr
theorem ZC_t {z : Nat → Int} {v : Int} (h : ZC z) (h1 : v = 0 ∨ v = 1) : ZC (updI z 2 v) := by
  obtain ⟨g1, g2, g3, g4, g5, g6, g7, g8, g9, g10, g11, g12, g13, g14⟩ := h
  have e : ∀ i, ¬ i = 2 → updI z 2 v i = z i := fun i hi => updI_n hi
  refine ⟨by rw [e 1 (by omega)]; exact g1, by rw [updI_e]; exact h1, by rw [e 15 (by omega)]; exact g3, by rw [e 16 (by omega)]; exact g4, fun p hp => by rw [e (20 + p) (by omega), e 16 (by omega)]; exact g5 p hp, fun p q hpq hq he => ?_, fun s hs => by rw [e _ (by omega)]; exact g7 s hs, fun s hs => by rw [e _ (by omega)]; exact g8 s hs, fun s hs he => ?_, fun s hs he => ?_, fun s hs => by rw [e _ (by omega)]; exact g11 s hs, fun s hs => by rw [e _ (by omega)]; exact g12 s hs, fun r hr => ?_, fun s hs => by rw [e _ (by omega)]; exact g14 s hs⟩
  · rw [e (20 + p) (by omega), e (20 + q) (by omega)] at he
    rw [e (20 + p) (by omega)]
    exact g6 p q hpq hq he
  · rw [e _ (by omega)] at he ⊢
    exact g9 s hs he
  · rw [e _ (by omega)] at he ⊢
    exact g10 s hs he
  · rw [e 16 (by omega)] at hr
    rw [e _ (by omega)]
    exact g13 r hr
theorem ZC_o {z : Nat → Int} (h : ZC z) (s : Nat) (hs : s < 20) : ZC (mOut z s) := by
  obtain ⟨g1, g2, g3, g4, g5, g6, g7, g8, g9, g10, g11, g12, g13, g14⟩ := h
  have e : ∀ i, ¬ i = 30 + s → mOut z s i = z i := fun i hi => updI_n hi
  refine ⟨by rw [e 1 (by omega)]; exact g1, by rw [e 2 (by omega)]; exact g2, by rw [e 15 (by omega)]; exact g3, by rw [e 16 (by omega)]; exact g4, fun p hp => by rw [e (20 + p) (by omega), e 16 (by omega)]; exact g5 p hp, fun p q hpq hq he => ?_, P01_o g7 s hs, fun s hs => by rw [e _ (by omega)]; exact g8 s hs, fun t ht he => ?_, fun t ht he => ?_, fun s hs => by rw [e _ (by omega)]; exact g11 s hs, fun s hs => by rw [e _ (by omega)]; exact g12 s hs, fun r hr => ?_, fun s hs => by rw [e _ (by omega)]; exact g14 s hs⟩
  · rw [e (20 + p) (by omega), e (20 + q) (by omega)] at he
    rw [e (20 + p) (by omega)]
    exact g6 p q hpq hq he
  · rw [e _ (by omega)] at he
    by_cases hst : t = s
    · subst hst
      unfold mOut
      rw [updI_e, if_neg (by omega)]
      exact g9 t ht he
    · rw [e _ (by omega)]
      exact g9 t ht he
  · rw [e _ (by omega)] at he
    by_cases hst : t = s
    · subst hst
      unfold mOut
      rw [updI_e, if_neg (by omega)]
      exact g10 t ht he
    · rw [e _ (by omega)]
      exact g10 t ht he
  · rw [e 16 (by omega)] at hr
    rw [e _ (by omega)]
    exact g13 r hr
/-- mOut leaves all but one pin -/
theorem mOut_n {z : Nat → Int} {s i : Nat} (h : ¬ i = 30 + s) : mOut z s i = z i := updI_n h
theorem mDoes_n {z : Nat → Int} {x t : Int} {i : Nat} (h3 : ¬ i = 3) (h4 : ¬ i = 4) : mDoes z x t i = z i := (updI_n h4).trans (updI_n h3)
theorem mDoes_3 (z : Nat → Int) (x t : Int) : mDoes z x t 3 = x := (updI_n (by decide)).trans (updI_e _ _ _)
theorem mDoes_4 (z : Nat → Int) (x t : Int) : mDoes z x t 4 = t := updI_e _ _ _
theorem ZC_d {z : Nat → Int} {x t : Int} (h : ZC z) : ZC (mDoes z x t) := ZC_eq h (fun i hi => mDoes_n (by omega) (by omega))
theorem ZD_d {z : Nat → Int} {x t : Int} (h1 : 0 ≤ x ∧ x ≤ 5) (h2 : 0 ≤ t ∧ t ≤ 120) (h3 : x = 0 → t = 0) (h4 : ¬ x = 0 → 1 ≤ t) (h5 : 3 ≤ x → 0 ≤ z (20 + (z 1).toNat)) (h6 : x = 1 → (z 2 = 1 → z 1 ≤ 8) ∧ (z 2 = 0 → 1 ≤ z 1)) (h7 : x = 2 → (z 2 = 1 ∧ z 1 = 9) ∨ (z 2 = 0 ∧ z 1 = 0)) : ZD (mDoes z x t) := by
  refine ⟨by rw [mDoes_3]; exact h1, by rw [mDoes_4]; exact h2, by rw [mDoes_3, mDoes_4]; exact h3, by rw [mDoes_3, mDoes_4]; exact h4, ?_, ?_, ?_⟩
  · rw [mDoes_3, mDoes_n (i := 1) (by decide) (by decide), mDoes_n (by omega) (by omega)]
    exact h5
  · rw [mDoes_3, mDoes_n (i := 1) (by decide) (by decide), mDoes_n (i := 2) (by omega) (by omega)]
    exact h6
  · rw [mDoes_3, mDoes_n (i := 1) (by decide) (by decide), mDoes_n (i := 2) (by omega) (by omega)]
    exact h7
theorem ZI_goOn {z : Nat → Int} (h : ZC z) : ZC (mGoOn z) ∧ ZD (mGoOn z) := by
  have h1 := h.1
  have h2 := h.2.1
  unfold mGoOn
  split
  · exact ⟨ZC_d h, ZD_d (by omega) (by omega) (by omega) (by omega) (by omega) (by omega) (by omega)⟩
  · split
    · exact ⟨ZC_d h, ZD_d (by omega) (by omega) (by omega) (by omega) (by omega) (by omega) (by omega)⟩
    · exact ⟨ZC_d h, ZD_d (by omega) (by omega) (by omega) (by omega) (by omega) (by omega) (by omega)⟩
theorem mGoOn_n {z : Nat → Int} {i : Nat} (h3 : ¬ i = 3) (h4 : ¬ i = 4) : mGoOn z i = z i := by
  unfold mGoOn
  (repeat' split) <;> exact mDoes_n h3 h4
theorem ZI_look {z : Nat → Int} (h : ZC z) : ZC (mLook z) ∧ ZD (mLook z) := by
  have hs := mSong_b h.1.1 h.1.2
  have ho := ZC_o h (mSong z).toNat (by omega)
  have h1 := h.1
  unfold mLook
  split
  · split
    · refine ⟨ZC_d ho, ZD_d (by omega) (by omega) (by omega) (by omega) (fun _ => ?_) (by omega) (by omega)⟩
      rw [mOut_n (i := 1) (by omega), mOut_n (by omega)]
      assumption
    · exact ZI_goOn (ZC_n ho (by omega))
  · exact ZI_goOn (ZC_n ho (by omega))
theorem mSide_b {z : Nat → Int} (h : ZC z) (hr : 0 ≤ z (20 + (z 1).toNat)) : 2 * z (20 + (z 1).toNat) + mSong z % 2 = ((mSide z : Nat) : Int) ∧ mSide z < 32 ∧ ((mSide z : Nat) : Int) < 2 * z 16 := by
  have h1 := h.1
  have h5 := h.2.2.2.2.1 (z 1).toNat (by omega)
  have h4 := h.2.2.2.1
  have hs := mSong_b h.1.1 h.1.2
  have e : 2 * z (20 + (z 1).toNat) + mSong z % 2 = ((mSide z : Nat) : Int) := by unfold mSide; omega
  omega
theorem ZC_wm {z : Nat → Int} {j : Nat} {v : Int} (h : ZC z) (hj : (70 ≤ j ∧ j < 90) ∨ 122 ≤ j) (hv : 0 ≤ v ∧ v ≤ 99) : ZC (updI z j v) := by
  obtain ⟨g1, g2, g3, g4, g5, g6, g7, g8, g9, g10, g11, g12, g13, g14⟩ := h
  have e : ∀ i, ¬ i = j → updI z j v i = z i := fun i hi => updI_n hi
  refine ⟨by rw [e 1 (by omega)]; exact g1, by rw [e 2 (by omega)]; exact g2, by rw [e 15 (by omega)]; exact g3, by rw [e 16 (by omega)]; exact g4, fun p hp => by rw [e (20 + p) (by omega), e 16 (by omega)]; exact g5 p hp, fun p q hpq hq he => ?_, fun s hs => by rw [e _ (by omega)]; exact g7 s hs, fun s hs => by rw [e _ (by omega)]; exact g8 s hs, fun t ht he => ?_, fun t ht he => ?_, fun s hs => ?_, fun s hs => by rw [e _ (by omega)]; exact g12 s hs, fun r hr => ?_, fun s hs => ?_⟩
  · rw [e (20 + p) (by omega), e (20 + q) (by omega)] at he
    rw [e (20 + p) (by omega)]
    exact g6 p q hpq hq he
  · rw [e _ (by omega)] at he ⊢
    exact g9 t ht he
  · rw [e _ (by omega)] at he ⊢
    exact g10 t ht he
  · unfold updI
    split
    · exact hv
    · exact g11 s hs
  · rw [e 16 (by omega)] at hr
    have : (r : Int) < 32 := by omega
    rw [e _ (by omega)]
    exact g13 r hr
  · unfold updI
    split
    · exact hv
    · exact g14 s hs
theorem mWear_b {z : Nat → Int} (h : ZC z) (hr : 0 ≤ z (20 + (z 1).toNat)) : 1 ≤ mWear z ∧ mWear z ≤ 99 := by
  obtain ⟨e1, e2, -⟩ := mSide_b h hr
  have := h.2.2.2.2.2.2.2.2.2.2.2.2.2 (mSide z) e2
  unfold mWear
  split <;> omega
theorem ZI_play {z : Nat → Int} (h : ZC z) (hr : 0 ≤ z (20 + (z 1).toNat)) : ZC (mPlay z) ∧ ZD (mPlay z) := by
  obtain ⟨e1, e2, e3⟩ := mSide_b h hr
  have hs := mSong_b h.1.1 h.1.2
  have h1 := h.1
  have hw := mWear_b h hr
  have ht := h.2.2.2.2.2.2.2.2.2.2.2.1 (mSide z) e2
  have ht1 := h.2.2.2.2.2.2.2.2.2.2.2.2.1 (mSide z) e3
  have hm := h.2.2.2.2.2.2.2.2.2.2.1 (mSong z).toNat (by omega)
  have hc := ZC_n (j := 5) (v := z 5 + 1) (ZC_wm (j := 122 + mSide z) (v := mWear z) (ZC_wm (j := 70 + (mSong z).toNat) (v := (z (70 + (mSong z).toNat) + 1) % 100) h (by omega) (by omega)) (by omega) (by omega)) (by omega)
  refine ⟨ZC_d hc, ZD_d (by omega) (by split <;> omega) (by omega) (by split <;> omega) (fun _ => ?_) (by omega) (by omega)⟩
  rw [updI_n (j := 5) (q := 1) (by decide), updI_n (j := 122 + mSide z) (q := 1) (by omega), updI_n (j := 70 + (mSong z).toNat) (q := 1) (by omega), updI_n (j := 5) (by omega), updI_n (j := 122 + mSide z) (by omega), updI_n (j := 70 + (mSong z).toNat) (by omega)]
  exact hr
theorem ZI_tick {z : Nat → Int} (h : ZC z) (hd : ZD z) : ZC (mTick z) ∧ ZD (mTick z) := by
  have h1 := h.1
  have h2 := h.2.1
  obtain ⟨d1, d2, d3, d4, d5, d6, d7⟩ := hd
  unfold mTick
  split
  · split
    · refine ⟨ZC_n h (by omega), ?_⟩
      unfold ZD
      rw [updI_n (q := 3) (by decide), updI_n (q := 4) (by decide), updI_n (q := 1) (by decide), updI_n (q := 2) (by decide), updI_n (by omega)]
      exact ⟨d1, d2, d3, d4, d5, d6, d7⟩
    · exact ZI_look (ZC_n h (by omega))
  · split
    · refine ⟨ZC_n (ZC_n h (by omega)) (by omega), ?_⟩
      unfold ZD
      rw [updI_e, updI_n (j := 4) (q := 3) (by decide), updI_n (j := 4) (q := 1) (by decide), updI_n (j := 4) (q := 2) (by decide), updI_n (j := 4) (by omega), updI_n (j := 0) (q := 3) (by decide), updI_n (j := 0) (q := 1) (by decide), updI_n (j := 0) (q := 2) (by decide), updI_n (j := 0) (by omega)]
      exact ⟨d1, by omega, by omega, by omega, d5, d6, d7⟩
    · have hc := ZC_n (j := 4) (v := z 4 - 1) (ZC_n (j := 0) (v := z 0 + 1) h (by omega)) (by omega)
      split
      · refine ZI_look (ZC_p hc ?_ ?_) <;> split <;> omega
      · split
        · exact ZI_look (ZC_t hc (by omega))
        · split
          · refine ZI_play hc ?_
            rw [updI_n (j := 4) (q := 1) (by decide), updI_n (j := 0) (q := 1) (by decide), updI_n (j := 4) (by omega), updI_n (j := 0) (by omega)]
            exact d5 (by omega)
          · split
            · refine ⟨ZC_d hc, ZD_d (by omega) (by omega) (by omega) (by omega) (fun _ => ?_) (by omega) (by omega)⟩
              rw [updI_n (j := 4) (q := 1) (by decide), updI_n (j := 0) (q := 1) (by decide), updI_n (j := 4) (by omega), updI_n (j := 0) (by omega)]
              exact d5 (by omega)
            · exact ZI_goOn hc
set_option maxRecDepth 100000 in
set_option maxHeartbeats 4000000 in
theorem c_tick {P : AW} {a : Nat} (hP : P.length = a) (fr : List Value) (z : Nat → Int) (R : AW) (hR : ∀ i, inR (z i)) (hzc : ZC z) (hzd : ZD z) (hzb : ZB z) : CTv I_X6_tick 0 0 [.ref (a + 0)] (P ++ mz a fr z R) (fun w' => w' = P ++ mz a fr (mTick z) R) := by
  have hpn := hzc.2.2.2.2.2.2.1
  have h1 := hzc.1
  have h2 := hzc.2.1
  obtain ⟨d1, d2, d3, d4, d5, d6, d7⟩ := id hzd
  obtain ⟨b1, b2, b3⟩ := id hzb
  refine CT_of 0 rfl (Nat.le_of_ble_eq_true rfl) ?_
  show EX I_X6_tick 0 0 none _ 0 [some (.ref (a + 0))] [] _ 0 0
  refine x_aload_n dX6_tick_0 rfl ?_
  refine x_getfield 0 dX6_tick_1 fg_X6_7 hP rfl rfl ?_
  refine x_iconst dX6_tick_4 ?_
  refine x_dup2 dX6_tick_5 ?_
  refine x_iaload 1 (0) dX6_tick_6 hP rfl ?_
  refine x_iconst dX6_tick_7 ?_
  refine x_iadd dX6_tick_8 ?_
  refine x_iastore 1 (0) dX6_tick_9 hP rfl ?_
  refine x_aload_n dX6_tick_10 rfl ?_
  refine x_getfield 0 dX6_tick_11 fg_X6_7 hP rfl rfl ?_
  refine x_iconst dX6_tick_14 ?_
  refine x_iaload 1 (3) dX6_tick_15 hP rfl ?_
  refine x_top (updI_n (by omega)) ?_
  refine x_if_ne 31 dX6_tick_16 (fun h16 => ?_) (fun h16 => ?_) (ha := hR _)
  · refine x_aload_n dX6_tick_31 rfl ?_
    refine x_getfield 0 dX6_tick_32 fg_X6_7 hP rfl rfl ?_
    refine x_iconst dX6_tick_35 ?_
    refine x_dup2 dX6_tick_36 ?_
    refine x_iaload 1 (4) dX6_tick_37 hP rfl ?_
    refine x_top (updI_n (by omega)) ?_
    refine x_iconst dX6_tick_38 ?_
    refine x_isub dX6_tick_39 ?_
    refine x_iastore 1 (4) dX6_tick_40 hP rfl ?_
    refine x_aload_n dX6_tick_41 rfl ?_
    refine x_getfield 0 dX6_tick_42 fg_X6_7 hP rfl rfl ?_
    refine x_iconst dX6_tick_45 ?_
    refine x_iaload 1 (4) dX6_tick_46 hP rfl ?_
    refine x_top (updI_e _ _ _) ?_
    refine x_if_le 51 dX6_tick_47 (fun h47 => ?_) (fun h47 => ?_)
    · refine x_aload_n dX6_tick_51 rfl ?_
      refine x_getfield 0 dX6_tick_52 fg_X6_7 hP rfl rfl ?_
      refine x_iconst dX6_tick_55 ?_
      refine x_iaload 1 (3) dX6_tick_56 hP rfl ?_
      refine x_top ((updI_n (by omega)).trans (updI_n (by omega))) ?_
      rcases (show z 3 = 1 ∨ z 3 = 2 ∨ z 3 = 3 ∨ z 3 = 4 ∨ (z 3 < 1 ∨ 4 < z 3) by omega) with h57 | h57 | h57 | h57 | h57
      · refine x_tsIn 0 88 dX6_tick_57 (by omega) ?_ (ha := hR _)
        refine x_aload_n dX6_tick_88 rfl ?_
        refine x_getfield 0 dX6_tick_89 fg_X6_7 hP rfl rfl ?_
        refine x_iconst dX6_tick_92 ?_
        refine x_dup2 dX6_tick_93 ?_
        refine x_iaload 1 (1) dX6_tick_94 hP rfl ?_
        refine x_top ((updI_n (by omega)).trans (updI_n (by omega))) ?_
        refine x_aload_n dX6_tick_95 rfl ?_
        refine x_getfield 0 dX6_tick_96 fg_X6_7 hP rfl rfl ?_
        refine x_iconst dX6_tick_99 ?_
        refine x_iaload 1 (2) dX6_tick_100 hP rfl ?_
        refine x_top ((updI_n (by omega)).trans (updI_n (by omega))) ?_
        refine x_iconst dX6_tick_101 ?_
        refine x_icmp_ne 109 dX6_tick_102 (fun h102 => ?_) (fun h102 => ?_) (ha := hR _)
        · refine x_iconst dX6_tick_109 ?_
          refine x_iadd dX6_tick_110 ?_
          refine x_iastore 1 (1) dX6_tick_111 hP rfl ?_
          refine x_aload_n dX6_tick_112 rfl ?_
          refine x_callvV dX6_tick_113 mk_X6_look ml_X6_95 (c_look hP fr _ R (inR_upd (inR_upd (inR_upd hR (by omega)) (by omega)) (by omega)) (by rw [updI_e]; omega) (by rw [updI_e]; omega) (P01_n (P01_n (P01_n hpn (by decide)) (by decide)) (by decide)) (by rw [updI_n, updI_n, updI_n] <;> omega)) ((wg_app hP 0).trans rfl) rfl (fun w113 h113 => ?_)
          subst h113
          refine x_goto 160 dX6_tick_116 ?_
          exact x_vret dX6_tick_160 (by unfold mTick; (repeat' split) <;> first | rfl | (exfalso; omega))
        · refine x_iconst dX6_tick_105 ?_
          refine x_goto 110 dX6_tick_106 ?_
          refine x_iadd dX6_tick_110 ?_
          refine x_iastore 1 (1) dX6_tick_111 hP rfl ?_
          refine x_aload_n dX6_tick_112 rfl ?_
          refine x_callvV dX6_tick_113 mk_X6_look ml_X6_95 (c_look hP fr _ R (inR_upd (inR_upd (inR_upd hR (by omega)) (by omega)) (by omega)) (by rw [updI_e]; omega) (by rw [updI_e]; omega) (P01_n (P01_n (P01_n hpn (by decide)) (by decide)) (by decide)) (by rw [updI_n, updI_n, updI_n] <;> omega)) ((wg_app hP 0).trans rfl) rfl (fun w113 h113 => ?_)
          subst h113
          refine x_goto 160 dX6_tick_116 ?_
          exact x_vret dX6_tick_160 (by unfold mTick; (repeat' split) <;> first | rfl | (exfalso; omega))
      · refine x_tsIn 1 119 dX6_tick_57 (by omega) ?_ (ha := hR _)
        refine x_aload_n dX6_tick_119 rfl ?_
        refine x_getfield 0 dX6_tick_120 fg_X6_7 hP rfl rfl ?_
        refine x_iconst dX6_tick_123 ?_
        refine x_iconst dX6_tick_124 ?_
        refine x_aload_n dX6_tick_125 rfl ?_
        refine x_getfield 0 dX6_tick_126 fg_X6_7 hP rfl rfl ?_
        refine x_iconst dX6_tick_129 ?_
        refine x_iaload 1 (2) dX6_tick_130 hP rfl ?_
        refine x_top ((updI_n (by omega)).trans (updI_n (by omega))) ?_
        refine x_isub dX6_tick_131 ?_
        refine x_iastore 1 (2) dX6_tick_132 hP rfl ?_
        refine x_aload_n dX6_tick_133 rfl ?_
        refine x_callvV dX6_tick_134 mk_X6_look ml_X6_95 (c_look hP fr _ R (inR_upd (inR_upd (inR_upd hR (by omega)) (by omega)) (by omega)) (by rw [updI_n, updI_n, updI_n] <;> omega) (by rw [updI_n, updI_n, updI_n] <;> omega) (P01_n (P01_n (P01_n hpn (by decide)) (by decide)) (by decide)) (by rw [updI_n, updI_n, updI_n] <;> omega)) ((wg_app hP 0).trans rfl) rfl (fun w134 h134 => ?_)
        subst h134
        refine x_goto 160 dX6_tick_137 ?_
        exact x_vret dX6_tick_160 (by unfold mTick; (repeat' split) <;> first | rfl | (exfalso; omega))
      · refine x_tsIn 2 140 dX6_tick_57 (by omega) ?_ (ha := hR _)
        refine x_aload_n dX6_tick_140 rfl ?_
        have hpr : (0 ≤ updI (updI z 0 (z 0 + 1)) 4 (z 4 - 1) (20 + (updI (updI z 0 (z 0 + 1)) 4 (z 4 - 1) 1).toNat)) ∧ (updI (updI z 0 (z 0 + 1)) 4 (z 4 - 1) (20 + (updI (updI z 0 (z 0 + 1)) 4 (z 4 - 1) 1).toNat) ≤ 15) ∧ (∀ s, s < 20 → 0 ≤ updI (updI z 0 (z 0 + 1)) 4 (z 4 - 1) (70 + s) ∧ updI (updI z 0 (z 0 + 1)) 4 (z 4 - 1) (70 + s) ≤ 99) ∧ (∀ s, s < 32 → 0 ≤ updI (updI z 0 (z 0 + 1)) 4 (z 4 - 1) (122 + s) ∧ updI (updI z 0 (z 0 + 1)) 4 (z 4 - 1) (122 + s) ≤ 99) := by
          have hc := ZC_n (j := 4) (v := z 4 - 1) (ZC_n (j := 0) (v := z 0 + 1) hzc (by omega)) (by omega)
          have g5 := hc.2.2.2.2.1 (updI (updI z 0 (z 0 + 1)) 4 (z 4 - 1) 1).toNat (by have := hc.1; omega)
          have g4 := hc.2.2.2.1
          have g0 : 0 ≤ updI (updI z 0 (z 0 + 1)) 4 (z 4 - 1) (20 + (updI (updI z 0 (z 0 + 1)) 4 (z 4 - 1) 1).toNat) := by
            rw [updI_n (j := 4) (q := 1) (by decide), updI_n (j := 0) (q := 1) (by decide), updI_n (j := 4) (by omega), updI_n (j := 0) (by omega)]
            exact d5 (by omega)
          exact ⟨g0, by omega, hc.2.2.2.2.2.2.2.2.2.2.1, hc.2.2.2.2.2.2.2.2.2.2.2.2.2⟩
        refine x_callvV dX6_tick_141 mk_X6_play ml_X6_98 (c_play hP fr _ R (inR_upd (inR_upd hR (by omega)) (by omega)) (by rw [updI_n, updI_n] <;> omega) (by rw [updI_n, updI_n] <;> omega) hpr.1 hpr.2.1 hpr.2.2.1 hpr.2.2.2) ((wg_app hP 0).trans rfl) rfl (fun w141 h141 => ?_)
        subst h141
        refine x_goto 160 dX6_tick_144 ?_
        exact x_vret dX6_tick_160 (by unfold mTick; (repeat' split) <;> first | rfl | (exfalso; omega))
      · refine x_tsIn 3 147 dX6_tick_57 (by omega) ?_ (ha := hR _)
        refine x_aload_n dX6_tick_147 rfl ?_
        refine x_iconst dX6_tick_148 ?_
        refine x_iconst dX6_tick_149 ?_
        refine x_callvV dX6_tick_150 mk_X6_does ml_X6_85 (c_does hP fr _ R 5 4) ((wg_app hP 0).trans rfl) rfl (fun w150 h150 => ?_)
        subst h150
        refine x_goto 160 dX6_tick_153 ?_
        exact x_vret dX6_tick_160 (by unfold mTick; (repeat' split) <;> first | rfl | (exfalso; omega))
      · refine x_tsOut 156 dX6_tick_57 h57 ?_ (ha := hR _)
        refine x_aload_n dX6_tick_156 rfl ?_
        refine x_callvV dX6_tick_157 mk_X6_goOn ml_X6_92 (c_goOn hP fr _ R (inR_upd (inR_upd hR (by omega)) (by omega)) (mPins_R (P01_n (P01_n hpn (by decide)) (by decide)))) ((wg_app hP 0).trans rfl) rfl (fun w157 h157 => ?_)
        subst h157
        exact x_vret dX6_tick_160 (by unfold mTick; (repeat' split) <;> first | rfl | (exfalso; omega))
    · exact x_vret dX6_tick_50 (by unfold mTick; (repeat' split) <;> first | rfl | (exfalso; omega))
  · refine x_aload_n dX6_tick_19 rfl ?_
    refine x_calliV dX6_tick_20 mk_X6_pinsIn ml_X6_82 (c_pinsIn hP fr _ R) ((wg_app hP 0).trans rfl) rfl (fun x20 w20 h20 => ?_)
    obtain ⟨rfl, rfl⟩ := h20
    refine x_if_le 30 dX6_tick_23 (fun h23 => ?_) (fun h23 => ?_) (ha := mPins_R (P01_n hpn (by decide)))
    · exact x_vret dX6_tick_30 (by unfold mTick; (repeat' split) <;> first | rfl | (exfalso; omega))
    · refine x_aload_n dX6_tick_26 rfl ?_
      refine x_callvV dX6_tick_27 mk_X6_look ml_X6_95 (c_look hP fr _ R (inR_upd hR (by omega)) (by rw [updI_n] <;> omega) (by rw [updI_n] <;> omega) (P01_n hpn (by decide)) (by rw [updI_n] <;> omega)) ((wg_app hP 0).trans rfl) rfl (fun w27 h27 => ?_)
      subst h27
      exact x_vret dX6_tick_30 (by unfold mTick; (repeat' split) <;> first | rfl | (exfalso; omega))
end
section
/-! ===== the reference's calls over z: the answer r.., the state s.. ===== -/
def mPlaceOf (z : Nat → Int) (r : Int) : Nat → Int
  | 0 => -4
  | n + 1 => if z (20 + n) = r then (n : Int) else mPlaceOf z r n
def mEmpty (z : Nat → Int) : Nat → Int
  | 0 => 0
  | n + 1 => mEmpty z n + (if 0 ≤ z (20 + n) then 0 else 1)
def oRec (a b : Int) : Prop := 1 ≤ a ∧ a ≤ 60 ∧ 1 ≤ b ∧ b ≤ 60
def rRec (z : Nat → Int) (x y : Int) : Int := if 1 ≤ x ∧ x ≤ 60 ∧ 1 ≤ y ∧ y ≤ 60 then (if z 16 = 16 then -3 else z 16) else -1
def sRec (z : Nat → Int) (x y : Int) : Nat → Int := if (1 ≤ x ∧ x ≤ 60 ∧ 1 ≤ y ∧ y ≤ 60) ∧ ¬ z 16 = 16 then updI (updI (updI z (90 + (2 * z 16).toNat) x) (90 + (2 * z 16).toNat + 1) y) 16 (z 16 + 1) else z
def rChg (z : Nat → Int) (p r : Int) : Int := if 0 ≤ p ∧ p ≤ 9 ∧ (r = -1 ∨ (0 ≤ r ∧ r ≤ z 16 - 1)) then (if (z 1 = p ∧ 3 ≤ z 3) ∨ (0 ≤ r ∧ 0 ≤ mPlaceOf z r 10 ∧ ¬ mPlaceOf z r 10 = p) then -2 else z (20 + p.toNat)) else -1
def sChg (z : Nat → Int) (p r : Int) : Nat → Int := if (0 ≤ p ∧ p ≤ 9 ∧ (r = -1 ∨ (0 ≤ r ∧ r ≤ z 16 - 1))) ∧ ¬ ((z 1 = p ∧ 3 ≤ z 3) ∨ (0 ≤ r ∧ 0 ≤ mPlaceOf z r 10 ∧ ¬ mPlaceOf z r 10 = p)) then updI z (20 + p.toNat) (if 0 ≤ r then r else -4) else z
def rTold (z : Nat → Int) (r h : Int) : Int := if 0 ≤ r ∧ r ≤ z 16 - 1 then (if h = 0 then z (90 + (2 * r).toNat) else if h = 1 then z (90 + (2 * r).toNat + 1) else if h = 2 then z (122 + (2 * r).toNat) else if h = 3 then z (122 + (2 * r).toNat + 1) else if h = 4 then mPlaceOf z r 10 else -1) else -1
def rSong (z : Nat → Int) (s h : Int) : Int := if 0 ≤ s ∧ s ≤ 19 then (if h = 0 then z (30 + s.toNat) else if h = 1 then z (50 + s.toNat) else if h = 2 then z (70 + s.toNat) else if h = 3 then z (20 + (s / 2).toNat) else -1) else -1
def rStk (z : Nat → Int) (s h : Int) : Int := if 0 ≤ s ∧ s ≤ 19 ∧ 0 ≤ h ∧ h ≤ 2 then z (50 + s.toNat) else -1
def sStk (z : Nat → Int) (s h : Int) : Nat → Int := if 0 ≤ s ∧ s ≤ 19 ∧ 0 ≤ h ∧ h ≤ 2 then updI (updI z (50 + s.toNat) h) (30 + s.toNat) (if h = 1 then 1 else if h = 2 then 0 else z (30 + s.toNat)) else z
def oPri (p q m : Int) : Prop := 1 ≤ p ∧ p ≤ 99 ∧ p ≤ q ∧ q ≤ 999 ∧ 1 ≤ m ∧ m ≤ 20
def rPri (p q m : Int) : Int := if 1 ≤ p ∧ p ≤ 99 ∧ p ≤ q ∧ q ≤ 999 ∧ 1 ≤ m ∧ m ≤ 20 then 1 else -1
def sPri (z : Nat → Int) (p q m : Int) : Nat → Int := if 1 ≤ p ∧ p ≤ 99 ∧ p ≤ q ∧ q ≤ 999 ∧ 1 ≤ m ∧ m ≤ 20 then updI (updI (updI (updI z 11 p) 12 q) 13 m) 9 0 else z
def mOwes (z : Nat → Int) : Int := z 13 * (z 9 / z 12) + z 9 % z 12 / z 11
def mPaid (z : Nat → Int) (v : Int) : Nat → Int := updI (updI z 9 (z 9 + v)) 10 (z 10 + v)
def mDue (z : Nat → Int) (v : Int) : Int := if mOwes (mPaid z v) ≤ mOwes z then 0 else mOwes (mPaid z v) - mOwes z
def rCoin (z : Nat → Int) (v : Int) : Int := if 1 ≤ v ∧ v ≤ 99 then z 7 + mDue z v else -1
def sCoin (z : Nat → Int) (v : Int) : Nat → Int := if 1 ≤ v ∧ v ≤ 99 then updI (mPaid z v) 7 (z 7 + mDue z v) else z
def rSet (z : Nat → Int) (h v : Int) : Int := if h = 0 ∧ 0 ≤ v ∧ v ≤ 1 then z 14 else if h = 1 ∧ 1 ≤ v ∧ v ≤ 99 then z 15 else -1
def sSet (z : Nat → Int) (h v : Int) : Nat → Int := if h = 0 ∧ 0 ≤ v ∧ v ≤ 1 then updI z 14 v else if h = 1 ∧ 1 ≤ v ∧ v ≤ 99 then updI z 15 v else z
def rKey (z : Nat → Int) (s : Int) : Int := if 0 ≤ s ∧ s ≤ 19 then (if z 7 = 0 then -2 else if z (30 + s.toNat) = 0 ∧ z (50 + s.toNat) = 0 then z 7 - 1 else if z 14 = 1 then -2 else z 7 - 1) else -1
def sKey (z : Nat → Int) (s : Int) : Nat → Int := if 0 ≤ s ∧ s ≤ 19 then (if z 7 = 0 then z else if z (30 + s.toNat) = 0 ∧ z (50 + s.toNat) = 0 then updI (updI (updI z (30 + s.toNat) 1) 8 (z 8 + 0)) 7 (z 7 - 1) else if z 14 = 1 then z else updI (updI (updI z (30 + s.toNat) (z (30 + s.toNat))) 8 (z 8 + 1)) 7 (z 7 - 1)) else z
def mTicks (z : Nat → Int) : Nat → (Nat → Int)
  | 0 => z
  | n + 1 => mTick (mTicks z n)
def rTks (z : Nat → Int) (n : Int) : Int := if 1 ≤ n ∧ n ≤ 2000 then (if z 0 + n ≤ 1000000 then mTicks z n.toNat 0 else -3) else -1
def sTks (z : Nat → Int) (n : Int) : Nat → Int := if (1 ≤ n ∧ n ≤ 2000) ∧ z 0 + n ≤ 1000000 then mTicks z n.toNat else z
def rCar (z : Nat → Int) (h : Int) : Int := if 0 ≤ h ∧ h ≤ 3 then z (1 + h.toNat) else -1
def rCnt (z : Nat → Int) (h : Int) : Int := if h = 0 then z 16 else if h = 1 then mPins z 20 else if h = 2 then z 7 else if h = 3 then z 8 else if h = 4 then z 10 else if h = 5 then z 5 else if h = 6 then z 6 else if h = 7 then z 0 else if h = 8 then mEmpty z 10 else -1
set_option maxRecDepth 100000 in
set_option maxHeartbeats 4000000 in
theorem c_record {P : AW} {a : Nat} (hP : P.length = a) (fr : List Value) (z : Nat → Int) (R : AW) (hR : ∀ i, inR (z i)) (u v : Int) (hiu : inR u) (hiv : inR v) (hm : 0 ≤ z 16 ∧ z 16 ≤ 16) : CTi I_X6_record 0 0 [.ref (a + 0), .int (iI u), .int (iI v)] (P ++ mz a fr z R) (fun x w' => x = rRec z u v ∧ w' = P ++ mz a fr (sRec z u v) R) := by
  refine CT_of 0 rfl (Nat.le_of_ble_eq_true rfl) ?_
  show EX I_X6_record 0 0 none _ 0 [some (.ref (a + 0)), some (.int (iI u)), some (.int (iI v))] [] _ 0 0
  refine x_iload_n dX6_record_0 rfl ?_
  refine x_i2l dX6_record_1 ?_
  refine x_lconst dX6_record_2 ?_
  refine x_ldc2 dX6_record_3 kl_X6_51 ?_
  refine x_calliS dX6_record_6 mk_X6_in ml_X6_43 (c_in _ u 1 60 hiu (by decide) (by decide)) rfl (fun x6 w6 h6 => ?_)
  obtain ⟨hb6, rfl⟩ := h6
  by_cases c6 : 1 ≤ u ∧ u ≤ 60
  · rw [if_pos c6] at hb6
    subst hb6
    refine x_if_eq 24 dX6_record_9 (fun h9 => absurd h9 (by decide)) (fun h9 => ?_)
    refine x_iload_n dX6_record_12 rfl ?_
    refine x_i2l dX6_record_13 ?_
    refine x_lconst dX6_record_14 ?_
    refine x_ldc2 dX6_record_15 kl_X6_51 ?_
    refine x_calliS dX6_record_18 mk_X6_in ml_X6_43 (c_in _ v 1 60 hiv (by decide) (by decide)) rfl (fun x18 w18 h18 => ?_)
    obtain ⟨hb18, rfl⟩ := h18
    by_cases c18 : 1 ≤ v ∧ v ≤ 60
    · rw [if_pos c18] at hb18
      subst hb18
      refine x_if_ne 26 dX6_record_21 (fun h21 => ?_) (fun h21 => absurd h21 (by decide))
      refine x_aload_n dX6_record_26 rfl ?_
      refine x_getfield 0 dX6_record_27 fg_X6_7 hP rfl rfl ?_
      refine x_bipush dX6_record_30 ?_
      refine x_iaload 1 (16) dX6_record_32 hP rfl ?_
      refine x_bipush dX6_record_33 ?_
      refine x_icmp_ne 41 dX6_record_35 (fun h35 => ?_) (fun h35 => ?_) (ha := hR _)
      · refine x_aload_n dX6_record_41 rfl ?_
        refine x_getfield 0 dX6_record_42 fg_X6_7 hP rfl rfl ?_
        refine x_bipush dX6_record_45 ?_
        refine x_iconst dX6_record_47 ?_
        refine x_aload_n dX6_record_48 rfl ?_
        refine x_getfield 0 dX6_record_49 fg_X6_7 hP rfl rfl ?_
        refine x_bipush dX6_record_52 ?_
        refine x_iaload 1 (16) dX6_record_54 hP rfl ?_
        refine x_imul dX6_record_55 ?_
        refine x_iadd dX6_record_56 ?_
        refine x_iload_n dX6_record_57 rfl ?_
        refine x_iastore 1 (90 + (2 * z 16).toNat) dX6_record_58 hP rfl ?_
        refine x_aload_n dX6_record_59 rfl ?_
        refine x_getfield 0 dX6_record_60 fg_X6_7 hP rfl rfl ?_
        refine x_bipush dX6_record_63 ?_
        refine x_iconst dX6_record_65 ?_
        refine x_aload_n dX6_record_66 rfl ?_
        refine x_getfield 0 dX6_record_67 fg_X6_7 hP rfl rfl ?_
        refine x_bipush dX6_record_70 ?_
        refine x_iaload 1 (16) dX6_record_72 hP rfl ?_
        refine x_top (updI_n (by omega)) ?_
        refine x_imul dX6_record_73 ?_
        refine x_iadd dX6_record_74 ?_
        refine x_iconst dX6_record_75 ?_
        refine x_iadd dX6_record_76 ?_
        refine x_iload_n dX6_record_77 rfl ?_
        refine x_iastore 1 (90 + (2 * z 16).toNat + 1) dX6_record_78 hP rfl ?_
        refine x_aload_n dX6_record_79 rfl ?_
        refine x_getfield 0 dX6_record_80 fg_X6_7 hP rfl rfl ?_
        refine x_bipush dX6_record_83 ?_
        refine x_dup2 dX6_record_85 ?_
        refine x_iaload 1 (16) dX6_record_86 hP rfl ?_
        refine x_top ((updI_n (by omega)).trans (updI_n (by omega))) ?_
        refine x_iconst dX6_record_87 ?_
        refine x_iadd dX6_record_88 ?_
        refine x_iastore 1 (16) dX6_record_89 hP rfl ?_
        refine x_aload_n dX6_record_90 rfl ?_
        refine x_getfield 0 dX6_record_91 fg_X6_7 hP rfl rfl ?_
        refine x_bipush dX6_record_94 ?_
        refine x_iaload 1 (16) dX6_record_96 hP rfl ?_
        refine x_top (updI_e _ _ _) ?_
        refine x_iconst dX6_record_97 ?_
        refine x_isub dX6_record_98 ?_
        exact x_iret dX6_record_99 (⟨by unfold rRec; (repeat' split) <;> first | rfl | omega | (exfalso; omega), by unfold sRec; (repeat' split) <;> first | rfl | (exfalso; omega)⟩)
      · refine x_bipush dX6_record_38 ?_
        exact x_iret dX6_record_40 (⟨by unfold rRec; (repeat' split) <;> first | rfl | omega | (exfalso; omega), by unfold sRec; (repeat' split) <;> first | rfl | (exfalso; omega)⟩)
    · rw [if_neg c18] at hb18
      subst hb18
      refine x_if_ne 26 dX6_record_21 (fun h21 => absurd h21 (by decide)) (fun h21 => ?_)
      refine x_iconst dX6_record_24 ?_
      exact x_iret dX6_record_25 (⟨by unfold rRec; (repeat' split) <;> first | rfl | omega | (exfalso; omega), by unfold sRec; (repeat' split) <;> first | rfl | (exfalso; omega)⟩)
  · rw [if_neg c6] at hb6
    subst hb6
    refine x_if_eq 24 dX6_record_9 (fun h9 => ?_) (fun h9 => absurd h9 (by decide))
    refine x_iconst dX6_record_24 ?_
    exact x_iret dX6_record_25 (⟨by unfold rRec; (repeat' split) <;> first | rfl | omega | (exfalso; omega), by unfold sRec; (repeat' split) <;> first | rfl | (exfalso; omega)⟩)
set_option maxRecDepth 100000 in
set_option maxHeartbeats 4000000 in
theorem l_placeOf {P : AW} {a : Nat} (hP : P.length = a) (fr : List Value) (z : Nat → Int) (R : AW) (hR : ∀ i, inR (z i)) (r : Int) (hir : inR r) {Z : Zt} (hx : EX I_X6_placeOf 0 0 none Z 36 [some (.ref (a + 0)), some (.int (iI r)), some (.int (iI (mPlaceOf z r 10))), some (.int (iI ((10 : Nat) : Int)))] [] (P ++ mz a fr z R) 0 0) : ∀ (n s : Nat), s + n = 10 → EX I_X6_placeOf 0 0 none Z 5 [some (.ref (a + 0)), some (.int (iI r)), some (.int (iI (mPlaceOf z r s))), some (.int (iI ((s : Nat) : Int)))] [] (P ++ mz a fr z R) 0 0 := by
  intro n
  induction n with
  | zero =>
    intro s hs
    have hs' : s = 10 := by omega
    subst hs'
    refine x_iload_n dX6_placeOf_5 rfl ?_
    refine x_bipush dX6_placeOf_6 ?_
    refine x_icmp_ge 36 dX6_placeOf_8 (fun h8 => ?_) (fun h8 => by exfalso; omega)
    exact hx
  | succ n ih =>
    intro s hs
    refine x_iload_n dX6_placeOf_5 rfl ?_
    refine x_bipush dX6_placeOf_6 ?_
    refine x_icmp_ge 36 dX6_placeOf_8 (fun h8 => by exfalso; omega) (fun h8 => ?_)
    refine x_aload_n dX6_placeOf_11 rfl ?_
    refine x_getfield 0 dX6_placeOf_12 fg_X6_7 hP rfl rfl ?_
    refine x_bipush dX6_placeOf_15 ?_
    refine x_iload_n dX6_placeOf_17 rfl ?_
    refine x_iadd dX6_placeOf_18 ?_
    refine x_iaload 1 (20 + s) dX6_placeOf_19 hP rfl ?_
    refine x_iload_n dX6_placeOf_20 rfl ?_
    refine x_icmp_ne 28 dX6_placeOf_21 (fun h21 => ?_) (fun h21 => ?_) (ha := hR _)
    · refine x_iload_n dX6_placeOf_28 rfl ?_
      refine x_ist2 dX6_placeOf_29 ?_
      refine x_inc3 dX6_placeOf_30 ?_
      refine x_goto 5 dX6_placeOf_33 ?_
      have hq : mPlaceOf z r (s + 1) = mPlaceOf z r s := if_neg h21
      have := ih (s + 1) (by omega)
      rw [hq] at this
      exact this
    · refine x_iload_n dX6_placeOf_24 rfl ?_
      refine x_goto 29 dX6_placeOf_25 ?_
      refine x_ist2 dX6_placeOf_29 ?_
      refine x_inc3 dX6_placeOf_30 ?_
      refine x_goto 5 dX6_placeOf_33 ?_
      have hq : mPlaceOf z r (s + 1) = (s : Int) := if_pos h21
      have := ih (s + 1) (by omega)
      rw [hq] at this
      exact this
set_option maxRecDepth 100000 in
set_option maxHeartbeats 4000000 in
theorem c_placeOf {P : AW} {a : Nat} (hP : P.length = a) (fr : List Value) (z : Nat → Int) (R : AW) (hR : ∀ i, inR (z i)) (r : Int) (hir : inR r) : CTi I_X6_placeOf 0 0 [.ref (a + 0), .int (iI r)] (P ++ mz a fr z R) (fun x w' => x = mPlaceOf z r 10 ∧ w' = P ++ mz a fr z R) := by
  refine CT_of 2 rfl (Nat.le_of_ble_eq_true rfl) ?_
  show EX I_X6_placeOf 0 0 none _ 0 [some (.ref (a + 0)), some (.int (iI r)), none, none] [] _ 0 0
  refine x_bipush dX6_placeOf_0 ?_
  refine x_ist2 dX6_placeOf_2 ?_
  refine x_iconst dX6_placeOf_3 ?_
  refine x_ist3 dX6_placeOf_4 ?_
  refine l_placeOf hP fr z R hR r hir ?_ 10 0 rfl
  refine x_iload_n dX6_placeOf_36 rfl ?_
  exact x_iret dX6_placeOf_37 (⟨rfl, rfl⟩)
theorem mPlaceOf_b (z : Nat → Int) (r : Int) : ∀ n, mPlaceOf z r n = -4 ∨ (0 ≤ mPlaceOf z r n ∧ mPlaceOf z r n < n)
  | 0 => Or.inl rfl
  | n + 1 => by
    have h := mPlaceOf_b z r n
    unfold mPlaceOf
    split <;> omega
theorem mEmpty_b (z : Nat → Int) : ∀ n : Nat, 0 ≤ mEmpty z n ∧ mEmpty z n ≤ n
  | 0 => by simp [mEmpty]
  | n + 1 => by
    have h := mEmpty_b z n
    unfold mEmpty
    split <;> omega
set_option maxRecDepth 100000 in
set_option maxHeartbeats 4000000 in
theorem c_change {P : AW} {a : Nat} (hP : P.length = a) (fr : List Value) (z : Nat → Int) (R : AW) (hR : ∀ i, inR (z i)) (p r : Int) (hip : inR p) (hir : inR r) (hm : 0 ≤ z 16 ∧ z 16 ≤ 16) : CTi I_X6_change 0 0 [.ref (a + 0), .int (iI p), .int (iI r)] (P ++ mz a fr z R) (fun x w' => x = rChg z p r ∧ w' = P ++ mz a fr (sChg z p r) R) := by
  have hpo := mPlaceOf_b z r 10
  refine CT_of 2 rfl (Nat.le_of_ble_eq_true rfl) ?_
  show EX I_X6_change 0 0 none _ 0 [some (.ref (a + 0)), some (.int (iI p)), some (.int (iI r)), none, none] [] _ 0 0
  refine x_iload_n dX6_change_0 rfl ?_
  refine x_calliS dX6_change_1 mk_X6_isPlace ml_X6_53 (c_isPlace _ p hip) rfl (fun x1 w1 h1 => ?_)
  obtain ⟨hb1, rfl⟩ := h1
  by_cases c1 : 0 ≤ p ∧ p ≤ 9
  · rw [if_pos c1] at hb1
    subst hb1
    refine x_if_eq 20 dX6_change_4 (fun h4 => absurd h4 (by decide)) (fun h4 => ?_)
    refine x_iload_n dX6_change_7 rfl ?_
    refine x_iconst dX6_change_8 ?_
    refine x_icmp_eq 22 dX6_change_9 (fun h9 => ?_) (fun h9 => ?_)
    · refine x_iload_n dX6_change_22 rfl ?_
      refine x_if_ge 31 dX6_change_23 (fun h23 => ?_) (fun h23 => ?_)
      · refine x_aload_n dX6_change_31 rfl ?_
        refine x_iload_n dX6_change_32 rfl ?_
        refine x_calliV dX6_change_33 mk_X6_placeOf ml_X6_60 (c_placeOf hP fr z R hR r hir) ((wg_app hP 0).trans rfl) rfl (fun x33 w33 h33 => ?_)
        obtain ⟨rfl, rfl⟩ := h33
        refine x_ist3 dX6_change_36 ?_
        refine x_aload_n dX6_change_37 rfl ?_
        refine x_iload_n dX6_change_38 rfl ?_
        refine x_calliV dX6_change_39 mk_X6_isOut ml_X6_64 (c_isOut hP fr z R hR p hip) ((wg_app hP 0).trans rfl) rfl (fun x39 w39 h39 => ?_)
        obtain ⟨hb39, rfl⟩ := h39
        by_cases c39 : z 1 = p ∧ 3 ≤ z 3
        · rw [if_pos c39] at hb39
          subst hb39
          refine x_if_ne 54 dX6_change_42 (fun h42 => ?_) (fun h42 => absurd h42 (by decide))
          refine x_bipush dX6_change_54 ?_
          exact x_iret dX6_change_56 (⟨by unfold rChg; (repeat' split) <;> first | rfl | omega | (exfalso; omega), by unfold sChg; (repeat' split) <;> first | rfl | (exfalso; omega)⟩)
        · rw [if_neg c39] at hb39
          subst hb39
          refine x_if_ne 54 dX6_change_42 (fun h42 => absurd h42 (by decide)) (fun h42 => ?_)
          refine x_iload_n dX6_change_45 rfl ?_
          refine x_if_lt 57 dX6_change_46 (fun h46 => ?_) (fun h46 => ?_)
          · refine x_aload_n dX6_change_57 rfl ?_
            refine x_getfield 0 dX6_change_58 fg_X6_7 hP rfl rfl ?_
            refine x_bipush dX6_change_61 ?_
            refine x_iload_n dX6_change_63 rfl ?_
            refine x_iadd dX6_change_64 ?_
            refine x_iaload 1 (20 + p.toNat) dX6_change_65 hP rfl ?_
            refine x_ist4 dX6_change_66 ?_
            refine x_aload_n dX6_change_68 rfl ?_
            refine x_getfield 0 dX6_change_69 fg_X6_7 hP rfl rfl ?_
            refine x_bipush dX6_change_72 ?_
            refine x_iload_n dX6_change_74 rfl ?_
            refine x_iadd dX6_change_75 ?_
            refine x_iload_n dX6_change_76 rfl ?_
            refine x_if_ge 85 dX6_change_77 (fun h77 => ?_) (fun h77 => ?_)
            · refine x_iload_n dX6_change_85 rfl ?_
              refine x_iastore 1 (20 + p.toNat) dX6_change_86 hP rfl ?_
              refine x_iload dX6_change_87 rfl ?_
              exact x_iret dX6_change_89 (⟨by unfold rChg; (repeat' split) <;> first | rfl | omega | (exfalso; omega), by unfold sChg; (repeat' split) <;> first | rfl | (exfalso; omega)⟩)
            · refine x_bipush dX6_change_80 ?_
              refine x_goto 86 dX6_change_82 ?_
              refine x_iastore 1 (20 + p.toNat) dX6_change_86 hP rfl ?_
              refine x_iload dX6_change_87 rfl ?_
              exact x_iret dX6_change_89 (⟨by unfold rChg; (repeat' split) <;> first | rfl | omega | (exfalso; omega), by unfold sChg; (repeat' split) <;> first | rfl | (exfalso; omega)⟩)
          · refine x_iload_n dX6_change_49 rfl ?_
            refine x_iload_n dX6_change_50 rfl ?_
            refine x_icmp_eq 57 dX6_change_51 (fun h51 => ?_) (fun h51 => ?_)
            · refine x_aload_n dX6_change_57 rfl ?_
              refine x_getfield 0 dX6_change_58 fg_X6_7 hP rfl rfl ?_
              refine x_bipush dX6_change_61 ?_
              refine x_iload_n dX6_change_63 rfl ?_
              refine x_iadd dX6_change_64 ?_
              refine x_iaload 1 (20 + p.toNat) dX6_change_65 hP rfl ?_
              refine x_ist4 dX6_change_66 ?_
              refine x_aload_n dX6_change_68 rfl ?_
              refine x_getfield 0 dX6_change_69 fg_X6_7 hP rfl rfl ?_
              refine x_bipush dX6_change_72 ?_
              refine x_iload_n dX6_change_74 rfl ?_
              refine x_iadd dX6_change_75 ?_
              refine x_iload_n dX6_change_76 rfl ?_
              refine x_if_ge 85 dX6_change_77 (fun h77 => ?_) (fun h77 => ?_)
              · refine x_iload_n dX6_change_85 rfl ?_
                refine x_iastore 1 (20 + p.toNat) dX6_change_86 hP rfl ?_
                refine x_iload dX6_change_87 rfl ?_
                exact x_iret dX6_change_89 (⟨by unfold rChg; (repeat' split) <;> first | rfl | omega | (exfalso; omega), by unfold sChg; (repeat' split) <;> first | rfl | (exfalso; omega)⟩)
              · refine x_bipush dX6_change_80 ?_
                refine x_goto 86 dX6_change_82 ?_
                refine x_iastore 1 (20 + p.toNat) dX6_change_86 hP rfl ?_
                refine x_iload dX6_change_87 rfl ?_
                exact x_iret dX6_change_89 (⟨by unfold rChg; (repeat' split) <;> first | rfl | omega | (exfalso; omega), by unfold sChg; (repeat' split) <;> first | rfl | (exfalso; omega)⟩)
            · refine x_bipush dX6_change_54 ?_
              exact x_iret dX6_change_56 (⟨by unfold rChg; (repeat' split) <;> first | rfl | omega | (exfalso; omega), by unfold sChg; (repeat' split) <;> first | rfl | (exfalso; omega)⟩)
      · refine x_bipush dX6_change_26 ?_
        refine x_goto 36 dX6_change_28 ?_
        refine x_ist3 dX6_change_36 ?_
        refine x_aload_n dX6_change_37 rfl ?_
        refine x_iload_n dX6_change_38 rfl ?_
        refine x_calliV dX6_change_39 mk_X6_isOut ml_X6_64 (c_isOut hP fr z R hR p hip) ((wg_app hP 0).trans rfl) rfl (fun x39 w39 h39 => ?_)
        obtain ⟨hb39, rfl⟩ := h39
        by_cases c39 : z 1 = p ∧ 3 ≤ z 3
        · rw [if_pos c39] at hb39
          subst hb39
          refine x_if_ne 54 dX6_change_42 (fun h42 => ?_) (fun h42 => absurd h42 (by decide))
          refine x_bipush dX6_change_54 ?_
          exact x_iret dX6_change_56 (⟨by unfold rChg; (repeat' split) <;> first | rfl | omega | (exfalso; omega), by unfold sChg; (repeat' split) <;> first | rfl | (exfalso; omega)⟩)
        · rw [if_neg c39] at hb39
          subst hb39
          refine x_if_ne 54 dX6_change_42 (fun h42 => absurd h42 (by decide)) (fun h42 => ?_)
          refine x_iload_n dX6_change_45 rfl ?_
          refine x_if_lt 57 dX6_change_46 (fun h46 => ?_) (fun h46 => absurd h46 (by decide))
          refine x_aload_n dX6_change_57 rfl ?_
          refine x_getfield 0 dX6_change_58 fg_X6_7 hP rfl rfl ?_
          refine x_bipush dX6_change_61 ?_
          refine x_iload_n dX6_change_63 rfl ?_
          refine x_iadd dX6_change_64 ?_
          refine x_iaload 1 (20 + p.toNat) dX6_change_65 hP rfl ?_
          refine x_ist4 dX6_change_66 ?_
          refine x_aload_n dX6_change_68 rfl ?_
          refine x_getfield 0 dX6_change_69 fg_X6_7 hP rfl rfl ?_
          refine x_bipush dX6_change_72 ?_
          refine x_iload_n dX6_change_74 rfl ?_
          refine x_iadd dX6_change_75 ?_
          refine x_iload_n dX6_change_76 rfl ?_
          refine x_if_ge 85 dX6_change_77 (fun h77 => ?_) (fun h77 => ?_)
          · refine x_iload_n dX6_change_85 rfl ?_
            refine x_iastore 1 (20 + p.toNat) dX6_change_86 hP rfl ?_
            refine x_iload dX6_change_87 rfl ?_
            exact x_iret dX6_change_89 (⟨by unfold rChg; (repeat' split) <;> first | rfl | omega | (exfalso; omega), by unfold sChg; (repeat' split) <;> first | rfl | (exfalso; omega)⟩)
          · refine x_bipush dX6_change_80 ?_
            refine x_goto 86 dX6_change_82 ?_
            refine x_iastore 1 (20 + p.toNat) dX6_change_86 hP rfl ?_
            refine x_iload dX6_change_87 rfl ?_
            exact x_iret dX6_change_89 (⟨by unfold rChg; (repeat' split) <;> first | rfl | omega | (exfalso; omega), by unfold sChg; (repeat' split) <;> first | rfl | (exfalso; omega)⟩)
    · refine x_aload_n dX6_change_12 rfl ?_
      refine x_iload_n dX6_change_13 rfl ?_
      refine x_calliV dX6_change_14 mk_X6_isRecord ml_X6_57 (c_isRecord hP fr z R r hir hm) ((wg_app hP 0).trans rfl) rfl (fun x14 w14 h14 => ?_)
      obtain ⟨hb14, rfl⟩ := h14
      by_cases c14 : 0 ≤ r ∧ r ≤ z 16 - 1
      · rw [if_pos c14] at hb14
        subst hb14
        refine x_if_ne 22 dX6_change_17 (fun h17 => ?_) (fun h17 => absurd h17 (by decide))
        refine x_iload_n dX6_change_22 rfl ?_
        refine x_if_ge 31 dX6_change_23 (fun h23 => ?_) (fun h23 => ?_)
        · refine x_aload_n dX6_change_31 rfl ?_
          refine x_iload_n dX6_change_32 rfl ?_
          refine x_calliV dX6_change_33 mk_X6_placeOf ml_X6_60 (c_placeOf hP fr z R hR r hir) ((wg_app hP 0).trans rfl) rfl (fun x33 w33 h33 => ?_)
          obtain ⟨rfl, rfl⟩ := h33
          refine x_ist3 dX6_change_36 ?_
          refine x_aload_n dX6_change_37 rfl ?_
          refine x_iload_n dX6_change_38 rfl ?_
          refine x_calliV dX6_change_39 mk_X6_isOut ml_X6_64 (c_isOut hP fr z R hR p hip) ((wg_app hP 0).trans rfl) rfl (fun x39 w39 h39 => ?_)
          obtain ⟨hb39, rfl⟩ := h39
          by_cases c39 : z 1 = p ∧ 3 ≤ z 3
          · rw [if_pos c39] at hb39
            subst hb39
            refine x_if_ne 54 dX6_change_42 (fun h42 => ?_) (fun h42 => absurd h42 (by decide))
            refine x_bipush dX6_change_54 ?_
            exact x_iret dX6_change_56 (⟨by unfold rChg; (repeat' split) <;> first | rfl | omega | (exfalso; omega), by unfold sChg; (repeat' split) <;> first | rfl | (exfalso; omega)⟩)
          · rw [if_neg c39] at hb39
            subst hb39
            refine x_if_ne 54 dX6_change_42 (fun h42 => absurd h42 (by decide)) (fun h42 => ?_)
            refine x_iload_n dX6_change_45 rfl ?_
            refine x_if_lt 57 dX6_change_46 (fun h46 => ?_) (fun h46 => ?_)
            · refine x_aload_n dX6_change_57 rfl ?_
              refine x_getfield 0 dX6_change_58 fg_X6_7 hP rfl rfl ?_
              refine x_bipush dX6_change_61 ?_
              refine x_iload_n dX6_change_63 rfl ?_
              refine x_iadd dX6_change_64 ?_
              refine x_iaload 1 (20 + p.toNat) dX6_change_65 hP rfl ?_
              refine x_ist4 dX6_change_66 ?_
              refine x_aload_n dX6_change_68 rfl ?_
              refine x_getfield 0 dX6_change_69 fg_X6_7 hP rfl rfl ?_
              refine x_bipush dX6_change_72 ?_
              refine x_iload_n dX6_change_74 rfl ?_
              refine x_iadd dX6_change_75 ?_
              refine x_iload_n dX6_change_76 rfl ?_
              refine x_if_ge 85 dX6_change_77 (fun h77 => ?_) (fun h77 => ?_)
              · refine x_iload_n dX6_change_85 rfl ?_
                refine x_iastore 1 (20 + p.toNat) dX6_change_86 hP rfl ?_
                refine x_iload dX6_change_87 rfl ?_
                exact x_iret dX6_change_89 (⟨by unfold rChg; (repeat' split) <;> first | rfl | omega | (exfalso; omega), by unfold sChg; (repeat' split) <;> first | rfl | (exfalso; omega)⟩)
              · refine x_bipush dX6_change_80 ?_
                refine x_goto 86 dX6_change_82 ?_
                refine x_iastore 1 (20 + p.toNat) dX6_change_86 hP rfl ?_
                refine x_iload dX6_change_87 rfl ?_
                exact x_iret dX6_change_89 (⟨by unfold rChg; (repeat' split) <;> first | rfl | omega | (exfalso; omega), by unfold sChg; (repeat' split) <;> first | rfl | (exfalso; omega)⟩)
            · refine x_iload_n dX6_change_49 rfl ?_
              refine x_iload_n dX6_change_50 rfl ?_
              refine x_icmp_eq 57 dX6_change_51 (fun h51 => ?_) (fun h51 => ?_)
              · refine x_aload_n dX6_change_57 rfl ?_
                refine x_getfield 0 dX6_change_58 fg_X6_7 hP rfl rfl ?_
                refine x_bipush dX6_change_61 ?_
                refine x_iload_n dX6_change_63 rfl ?_
                refine x_iadd dX6_change_64 ?_
                refine x_iaload 1 (20 + p.toNat) dX6_change_65 hP rfl ?_
                refine x_ist4 dX6_change_66 ?_
                refine x_aload_n dX6_change_68 rfl ?_
                refine x_getfield 0 dX6_change_69 fg_X6_7 hP rfl rfl ?_
                refine x_bipush dX6_change_72 ?_
                refine x_iload_n dX6_change_74 rfl ?_
                refine x_iadd dX6_change_75 ?_
                refine x_iload_n dX6_change_76 rfl ?_
                refine x_if_ge 85 dX6_change_77 (fun h77 => ?_) (fun h77 => ?_)
                · refine x_iload_n dX6_change_85 rfl ?_
                  refine x_iastore 1 (20 + p.toNat) dX6_change_86 hP rfl ?_
                  refine x_iload dX6_change_87 rfl ?_
                  exact x_iret dX6_change_89 (⟨by unfold rChg; (repeat' split) <;> first | rfl | omega | (exfalso; omega), by unfold sChg; (repeat' split) <;> first | rfl | (exfalso; omega)⟩)
                · refine x_bipush dX6_change_80 ?_
                  refine x_goto 86 dX6_change_82 ?_
                  refine x_iastore 1 (20 + p.toNat) dX6_change_86 hP rfl ?_
                  refine x_iload dX6_change_87 rfl ?_
                  exact x_iret dX6_change_89 (⟨by unfold rChg; (repeat' split) <;> first | rfl | omega | (exfalso; omega), by unfold sChg; (repeat' split) <;> first | rfl | (exfalso; omega)⟩)
              · refine x_bipush dX6_change_54 ?_
                exact x_iret dX6_change_56 (⟨by unfold rChg; (repeat' split) <;> first | rfl | omega | (exfalso; omega), by unfold sChg; (repeat' split) <;> first | rfl | (exfalso; omega)⟩)
        · refine x_bipush dX6_change_26 ?_
          refine x_goto 36 dX6_change_28 ?_
          refine x_ist3 dX6_change_36 ?_
          refine x_aload_n dX6_change_37 rfl ?_
          refine x_iload_n dX6_change_38 rfl ?_
          refine x_calliV dX6_change_39 mk_X6_isOut ml_X6_64 (c_isOut hP fr z R hR p hip) ((wg_app hP 0).trans rfl) rfl (fun x39 w39 h39 => ?_)
          obtain ⟨hb39, rfl⟩ := h39
          by_cases c39 : z 1 = p ∧ 3 ≤ z 3
          · rw [if_pos c39] at hb39
            subst hb39
            refine x_if_ne 54 dX6_change_42 (fun h42 => ?_) (fun h42 => absurd h42 (by decide))
            refine x_bipush dX6_change_54 ?_
            exact x_iret dX6_change_56 (⟨by unfold rChg; (repeat' split) <;> first | rfl | omega | (exfalso; omega), by unfold sChg; (repeat' split) <;> first | rfl | (exfalso; omega)⟩)
          · rw [if_neg c39] at hb39
            subst hb39
            refine x_if_ne 54 dX6_change_42 (fun h42 => absurd h42 (by decide)) (fun h42 => ?_)
            refine x_iload_n dX6_change_45 rfl ?_
            refine x_if_lt 57 dX6_change_46 (fun h46 => ?_) (fun h46 => absurd h46 (by decide))
            refine x_aload_n dX6_change_57 rfl ?_
            refine x_getfield 0 dX6_change_58 fg_X6_7 hP rfl rfl ?_
            refine x_bipush dX6_change_61 ?_
            refine x_iload_n dX6_change_63 rfl ?_
            refine x_iadd dX6_change_64 ?_
            refine x_iaload 1 (20 + p.toNat) dX6_change_65 hP rfl ?_
            refine x_ist4 dX6_change_66 ?_
            refine x_aload_n dX6_change_68 rfl ?_
            refine x_getfield 0 dX6_change_69 fg_X6_7 hP rfl rfl ?_
            refine x_bipush dX6_change_72 ?_
            refine x_iload_n dX6_change_74 rfl ?_
            refine x_iadd dX6_change_75 ?_
            refine x_iload_n dX6_change_76 rfl ?_
            refine x_if_ge 85 dX6_change_77 (fun h77 => ?_) (fun h77 => ?_)
            · refine x_iload_n dX6_change_85 rfl ?_
              refine x_iastore 1 (20 + p.toNat) dX6_change_86 hP rfl ?_
              refine x_iload dX6_change_87 rfl ?_
              exact x_iret dX6_change_89 (⟨by unfold rChg; (repeat' split) <;> first | rfl | omega | (exfalso; omega), by unfold sChg; (repeat' split) <;> first | rfl | (exfalso; omega)⟩)
            · refine x_bipush dX6_change_80 ?_
              refine x_goto 86 dX6_change_82 ?_
              refine x_iastore 1 (20 + p.toNat) dX6_change_86 hP rfl ?_
              refine x_iload dX6_change_87 rfl ?_
              exact x_iret dX6_change_89 (⟨by unfold rChg; (repeat' split) <;> first | rfl | omega | (exfalso; omega), by unfold sChg; (repeat' split) <;> first | rfl | (exfalso; omega)⟩)
      · rw [if_neg c14] at hb14
        subst hb14
        refine x_if_ne 22 dX6_change_17 (fun h17 => absurd h17 (by decide)) (fun h17 => ?_)
        refine x_iconst dX6_change_20 ?_
        exact x_iret dX6_change_21 (⟨by unfold rChg; (repeat' split) <;> first | rfl | omega | (exfalso; omega), by unfold sChg; (repeat' split) <;> first | rfl | (exfalso; omega)⟩)
  · rw [if_neg c1] at hb1
    subst hb1
    refine x_if_eq 20 dX6_change_4 (fun h4 => ?_) (fun h4 => absurd h4 (by decide))
    refine x_iconst dX6_change_20 ?_
    exact x_iret dX6_change_21 (⟨by unfold rChg; (repeat' split) <;> first | rfl | omega | (exfalso; omega), by unfold sChg; (repeat' split) <;> first | rfl | (exfalso; omega)⟩)
set_option maxRecDepth 100000 in
set_option maxHeartbeats 4000000 in
theorem c_told {P : AW} {a : Nat} (hP : P.length = a) (fr : List Value) (z : Nat → Int) (R : AW) (hR : ∀ i, inR (z i)) (r h : Int) (hir : inR r) (hih : inR h) (hm : 0 ≤ z 16 ∧ z 16 ≤ 16) : CTi I_X6_told 0 0 [.ref (a + 0), .int (iI r), .int (iI h)] (P ++ mz a fr z R) (fun x w' => x = rTold z r h ∧ w' = P ++ mz a fr (z) R) := by
  refine CT_of 0 rfl (Nat.le_of_ble_eq_true rfl) ?_
  show EX I_X6_told 0 0 none _ 0 [some (.ref (a + 0)), some (.int (iI r)), some (.int (iI h))] [] _ 0 0
  refine x_aload_n dX6_told_0 rfl ?_
  refine x_iload_n dX6_told_1 rfl ?_
  refine x_calliV dX6_told_2 mk_X6_isRecord ml_X6_57 (c_isRecord hP fr z R r hir hm) ((wg_app hP 0).trans rfl) rfl (fun x2 w2 h2 => ?_)
  obtain ⟨hb2, rfl⟩ := h2
  by_cases c2 : 0 ≤ r ∧ r ≤ z 16 - 1
  · rw [if_pos c2] at hb2
    subst hb2
    refine x_if_ne 10 dX6_told_5 (fun h5 => ?_) (fun h5 => absurd h5 (by decide))
    refine x_iload_n dX6_told_10 rfl ?_
    rcases (show h = 0 ∨ h = 1 ∨ h = 2 ∨ h = 3 ∨ h = 4 ∨ (h < 0 ∨ 4 < h) by omega) with h11 | h11 | h11 | h11 | h11 | h11
    · refine x_tsIn 0 44 dX6_told_11 (by omega) ?_
      refine x_aload_n dX6_told_44 rfl ?_
      refine x_getfield 0 dX6_told_45 fg_X6_7 hP rfl rfl ?_
      refine x_bipush dX6_told_48 ?_
      refine x_iconst dX6_told_50 ?_
      refine x_iload_n dX6_told_51 rfl ?_
      refine x_imul dX6_told_52 ?_
      refine x_iadd dX6_told_53 ?_
      refine x_iload_n dX6_told_54 rfl ?_
      refine x_iadd dX6_told_55 ?_
      refine x_iaload 1 (90 + (2 * r).toNat) dX6_told_56 hP rfl ?_
      exact x_iret dX6_told_57 (⟨by unfold rTold; (repeat' split) <;> first | rfl | omega | (exfalso; omega), rfl⟩)
    · refine x_tsIn 1 44 dX6_told_11 (by omega) ?_
      refine x_aload_n dX6_told_44 rfl ?_
      refine x_getfield 0 dX6_told_45 fg_X6_7 hP rfl rfl ?_
      refine x_bipush dX6_told_48 ?_
      refine x_iconst dX6_told_50 ?_
      refine x_iload_n dX6_told_51 rfl ?_
      refine x_imul dX6_told_52 ?_
      refine x_iadd dX6_told_53 ?_
      refine x_iload_n dX6_told_54 rfl ?_
      refine x_iadd dX6_told_55 ?_
      refine x_iaload 1 (90 + (2 * r).toNat + 1) dX6_told_56 hP rfl ?_
      exact x_iret dX6_told_57 (⟨by unfold rTold; (repeat' split) <;> first | rfl | omega | (exfalso; omega), rfl⟩)
    · refine x_tsIn 2 58 dX6_told_11 (by omega) ?_
      refine x_aload_n dX6_told_58 rfl ?_
      refine x_getfield 0 dX6_told_59 fg_X6_7 hP rfl rfl ?_
      refine x_bipush dX6_told_62 ?_
      refine x_iconst dX6_told_64 ?_
      refine x_iload_n dX6_told_65 rfl ?_
      refine x_imul dX6_told_66 ?_
      refine x_iadd dX6_told_67 ?_
      refine x_iload_n dX6_told_68 rfl ?_
      refine x_iadd dX6_told_69 ?_
      refine x_iconst dX6_told_70 ?_
      refine x_isub dX6_told_71 ?_
      refine x_iaload 1 (122 + (2 * r).toNat) dX6_told_72 hP rfl ?_
      exact x_iret dX6_told_73 (⟨by unfold rTold; (repeat' split) <;> first | rfl | omega | (exfalso; omega), rfl⟩)
    · refine x_tsIn 3 58 dX6_told_11 (by omega) ?_
      refine x_aload_n dX6_told_58 rfl ?_
      refine x_getfield 0 dX6_told_59 fg_X6_7 hP rfl rfl ?_
      refine x_bipush dX6_told_62 ?_
      refine x_iconst dX6_told_64 ?_
      refine x_iload_n dX6_told_65 rfl ?_
      refine x_imul dX6_told_66 ?_
      refine x_iadd dX6_told_67 ?_
      refine x_iload_n dX6_told_68 rfl ?_
      refine x_iadd dX6_told_69 ?_
      refine x_iconst dX6_told_70 ?_
      refine x_isub dX6_told_71 ?_
      refine x_iaload 1 (122 + (2 * r).toNat + 1) dX6_told_72 hP rfl ?_
      exact x_iret dX6_told_73 (⟨by unfold rTold; (repeat' split) <;> first | rfl | omega | (exfalso; omega), rfl⟩)
    · refine x_tsIn 4 74 dX6_told_11 (by omega) ?_
      refine x_aload_n dX6_told_74 rfl ?_
      refine x_iload_n dX6_told_75 rfl ?_
      refine x_calliV dX6_told_76 mk_X6_placeOf ml_X6_60 (c_placeOf hP fr z R hR r hir) ((wg_app hP 0).trans rfl) rfl (fun x76 w76 h76 => ?_)
      obtain ⟨rfl, rfl⟩ := h76
      exact x_iret dX6_told_79 (⟨by unfold rTold; (repeat' split) <;> first | rfl | omega | (exfalso; omega), rfl⟩)
    · refine x_tsOut 80 dX6_told_11 h11 ?_
      refine x_iconst dX6_told_80 ?_
      exact x_iret dX6_told_81 (⟨by unfold rTold; (repeat' split) <;> first | rfl | omega | (exfalso; omega), rfl⟩)
  · rw [if_neg c2] at hb2
    subst hb2
    refine x_if_ne 10 dX6_told_5 (fun h5 => absurd h5 (by decide)) (fun h5 => ?_)
    refine x_iconst dX6_told_8 ?_
    exact x_iret dX6_told_9 (⟨by unfold rTold; (repeat' split) <;> first | rfl | omega | (exfalso; omega), rfl⟩)
set_option maxRecDepth 100000 in
set_option maxHeartbeats 4000000 in
theorem c_song {P : AW} {a : Nat} (hP : P.length = a) (fr : List Value) (z : Nat → Int) (R : AW) (hR : ∀ i, inR (z i)) (s h : Int) (his : inR s) (hih : inR h)  : CTi I_X6_song 0 0 [.ref (a + 0), .int (iI s), .int (iI h)] (P ++ mz a fr z R) (fun x w' => x = rSong z s h ∧ w' = P ++ mz a fr (z) R) := by
  refine CT_of 0 rfl (Nat.le_of_ble_eq_true rfl) ?_
  show EX I_X6_song 0 0 none _ 0 [some (.ref (a + 0)), some (.int (iI s)), some (.int (iI h))] [] _ 0 0
  refine x_iload_n dX6_song_0 rfl ?_
  refine x_calliS dX6_song_1 mk_X6_isSong ml_X6_67 (c_isSong _ s his) rfl (fun x1 w1 h1 => ?_)
  obtain ⟨hb1, rfl⟩ := h1
  by_cases c1 : 0 ≤ s ∧ s ≤ 19
  · rw [if_pos c1] at hb1
    subst hb1
    refine x_if_ne 9 dX6_song_4 (fun h4 => ?_) (fun h4 => absurd h4 (by decide))
    refine x_iload_n dX6_song_9 rfl ?_
    rcases (show h = 0 ∨ h = 1 ∨ h = 2 ∨ h = 3 ∨ (h < 0 ∨ 3 < h) by omega) with h10 | h10 | h10 | h10 | h10
    · refine x_tsIn 0 40 dX6_song_10 (by omega) ?_
      refine x_aload_n dX6_song_40 rfl ?_
      refine x_getfield 0 dX6_song_41 fg_X6_7 hP rfl rfl ?_
      refine x_bipush dX6_song_44 ?_
      refine x_iload_n dX6_song_46 rfl ?_
      refine x_iadd dX6_song_47 ?_
      refine x_iaload 1 (30 + s.toNat) dX6_song_48 hP rfl ?_
      exact x_iret dX6_song_49 (⟨by unfold rSong; (repeat' split) <;> first | rfl | omega | (exfalso; omega), rfl⟩)
    · refine x_tsIn 1 50 dX6_song_10 (by omega) ?_
      refine x_aload_n dX6_song_50 rfl ?_
      refine x_getfield 0 dX6_song_51 fg_X6_7 hP rfl rfl ?_
      refine x_bipush dX6_song_54 ?_
      refine x_iload_n dX6_song_56 rfl ?_
      refine x_iadd dX6_song_57 ?_
      refine x_iaload 1 (50 + s.toNat) dX6_song_58 hP rfl ?_
      exact x_iret dX6_song_59 (⟨by unfold rSong; (repeat' split) <;> first | rfl | omega | (exfalso; omega), rfl⟩)
    · refine x_tsIn 2 60 dX6_song_10 (by omega) ?_
      refine x_aload_n dX6_song_60 rfl ?_
      refine x_getfield 0 dX6_song_61 fg_X6_7 hP rfl rfl ?_
      refine x_bipush dX6_song_64 ?_
      refine x_iload_n dX6_song_66 rfl ?_
      refine x_iadd dX6_song_67 ?_
      refine x_iaload 1 (70 + s.toNat) dX6_song_68 hP rfl ?_
      exact x_iret dX6_song_69 (⟨by unfold rSong; (repeat' split) <;> first | rfl | omega | (exfalso; omega), rfl⟩)
    · refine x_tsIn 3 70 dX6_song_10 (by omega) ?_
      refine x_aload_n dX6_song_70 rfl ?_
      refine x_getfield 0 dX6_song_71 fg_X6_7 hP rfl rfl ?_
      refine x_bipush dX6_song_74 ?_
      refine x_iload_n dX6_song_76 rfl ?_
      refine x_iconst dX6_song_77 ?_
      refine x_idiv dX6_song_78 ?_
      refine x_iadd dX6_song_79 ?_
      refine x_iaload 1 (20 + (s / 2).toNat) dX6_song_80 hP rfl ?_
      exact x_iret dX6_song_81 (⟨by unfold rSong; (repeat' split) <;> first | rfl | omega | (exfalso; omega), rfl⟩)
    · refine x_tsOut 82 dX6_song_10 h10 ?_
      refine x_iconst dX6_song_82 ?_
      exact x_iret dX6_song_83 (⟨by unfold rSong; (repeat' split) <;> first | rfl | omega | (exfalso; omega), rfl⟩)
  · rw [if_neg c1] at hb1
    subst hb1
    refine x_if_ne 9 dX6_song_4 (fun h4 => absurd h4 (by decide)) (fun h4 => ?_)
    refine x_iconst dX6_song_7 ?_
    exact x_iret dX6_song_8 (⟨by unfold rSong; (repeat' split) <;> first | rfl | omega | (exfalso; omega), rfl⟩)
set_option maxRecDepth 100000 in
set_option maxHeartbeats 4000000 in
theorem c_stick {P : AW} {a : Nat} (hP : P.length = a) (fr : List Value) (z : Nat → Int) (R : AW) (hR : ∀ i, inR (z i)) (s h : Int) (his : inR s) (hih : inR h)  : CTi I_X6_stick 0 0 [.ref (a + 0), .int (iI s), .int (iI h)] (P ++ mz a fr z R) (fun x w' => x = rStk z s h ∧ w' = P ++ mz a fr (sStk z s h) R) := by
  refine CT_of 1 rfl (Nat.le_of_ble_eq_true rfl) ?_
  show EX I_X6_stick 0 0 none _ 0 [some (.ref (a + 0)), some (.int (iI s)), some (.int (iI h)), none] [] _ 0 0
  refine x_iload_n dX6_stick_0 rfl ?_
  refine x_calliS dX6_stick_1 mk_X6_isSong ml_X6_67 (c_isSong _ s his) rfl (fun x1 w1 h1 => ?_)
  obtain ⟨hb1, rfl⟩ := h1
  by_cases c1 : 0 ≤ s ∧ s ≤ 19
  · rw [if_pos c1] at hb1
    subst hb1
    refine x_if_eq 19 dX6_stick_4 (fun h4 => absurd h4 (by decide)) (fun h4 => ?_)
    refine x_iload_n dX6_stick_7 rfl ?_
    refine x_i2l dX6_stick_8 ?_
    refine x_lconst dX6_stick_9 ?_
    refine x_ldc2 dX6_stick_10 kl_X6_70 ?_
    refine x_calliS dX6_stick_13 mk_X6_in ml_X6_43 (c_in _ h 0 2 hih (by decide) (by decide)) rfl (fun x13 w13 h13 => ?_)
    obtain ⟨hb13, rfl⟩ := h13
    by_cases c13 : 0 ≤ h ∧ h ≤ 2
    · rw [if_pos c13] at hb13
      subst hb13
      refine x_if_ne 21 dX6_stick_16 (fun h16 => ?_) (fun h16 => absurd h16 (by decide))
      refine x_aload_n dX6_stick_21 rfl ?_
      refine x_getfield 0 dX6_stick_22 fg_X6_7 hP rfl rfl ?_
      refine x_bipush dX6_stick_25 ?_
      refine x_iload_n dX6_stick_27 rfl ?_
      refine x_iadd dX6_stick_28 ?_
      refine x_iaload 1 (50 + s.toNat) dX6_stick_29 hP rfl ?_
      refine x_ist3 dX6_stick_30 ?_
      refine x_aload_n dX6_stick_31 rfl ?_
      refine x_getfield 0 dX6_stick_32 fg_X6_7 hP rfl rfl ?_
      refine x_bipush dX6_stick_35 ?_
      refine x_iload_n dX6_stick_37 rfl ?_
      refine x_iadd dX6_stick_38 ?_
      refine x_iload_n dX6_stick_39 rfl ?_
      refine x_iastore 1 (50 + s.toNat) dX6_stick_40 hP rfl ?_
      refine x_aload_n dX6_stick_41 rfl ?_
      refine x_getfield 0 dX6_stick_42 fg_X6_7 hP rfl rfl ?_
      refine x_bipush dX6_stick_45 ?_
      refine x_iload_n dX6_stick_47 rfl ?_
      refine x_iadd dX6_stick_48 ?_
      refine x_iload_n dX6_stick_49 rfl ?_
      refine x_iconst dX6_stick_50 ?_
      refine x_icmp_ne 58 dX6_stick_51 (fun h51 => ?_) (fun h51 => ?_)
      · refine x_iload_n dX6_stick_58 rfl ?_
        refine x_iconst dX6_stick_59 ?_
        refine x_icmp_ne 67 dX6_stick_60 (fun h60 => ?_) (fun h60 => ?_)
        · refine x_aload_n dX6_stick_67 rfl ?_
          refine x_getfield 0 dX6_stick_68 fg_X6_7 hP rfl rfl ?_
          refine x_bipush dX6_stick_71 ?_
          refine x_iload_n dX6_stick_73 rfl ?_
          refine x_iadd dX6_stick_74 ?_
          refine x_iaload 1 (30 + s.toNat) dX6_stick_75 hP rfl ?_
          refine x_top (updI_n (by omega)) ?_
          refine x_iastore 1 (30 + s.toNat) dX6_stick_76 hP rfl ?_
          refine x_iload_n dX6_stick_77 rfl ?_
          exact x_iret dX6_stick_78 (⟨by unfold rStk; (repeat' split) <;> first | rfl | omega | (exfalso; omega), by unfold sStk; (repeat' split) <;> first | rfl | (exfalso; omega)⟩)
        · refine x_iconst dX6_stick_63 ?_
          refine x_goto 76 dX6_stick_64 ?_
          refine x_iastore 1 (30 + s.toNat) dX6_stick_76 hP rfl ?_
          refine x_iload_n dX6_stick_77 rfl ?_
          exact x_iret dX6_stick_78 (⟨by unfold rStk; (repeat' split) <;> first | rfl | omega | (exfalso; omega), by unfold sStk; (repeat' split) <;> first | rfl | (exfalso; omega)⟩)
      · refine x_iconst dX6_stick_54 ?_
        refine x_goto 76 dX6_stick_55 ?_
        refine x_iastore 1 (30 + s.toNat) dX6_stick_76 hP rfl ?_
        refine x_iload_n dX6_stick_77 rfl ?_
        exact x_iret dX6_stick_78 (⟨by unfold rStk; (repeat' split) <;> first | rfl | omega | (exfalso; omega), by unfold sStk; (repeat' split) <;> first | rfl | (exfalso; omega)⟩)
    · rw [if_neg c13] at hb13
      subst hb13
      refine x_if_ne 21 dX6_stick_16 (fun h16 => absurd h16 (by decide)) (fun h16 => ?_)
      refine x_iconst dX6_stick_19 ?_
      exact x_iret dX6_stick_20 (⟨by unfold rStk; (repeat' split) <;> first | rfl | omega | (exfalso; omega), by unfold sStk; (repeat' split) <;> first | rfl | (exfalso; omega)⟩)
  · rw [if_neg c1] at hb1
    subst hb1
    refine x_if_eq 19 dX6_stick_4 (fun h4 => ?_) (fun h4 => absurd h4 (by decide))
    refine x_iconst dX6_stick_19 ?_
    exact x_iret dX6_stick_20 (⟨by unfold rStk; (repeat' split) <;> first | rfl | omega | (exfalso; omega), by unfold sStk; (repeat' split) <;> first | rfl | (exfalso; omega)⟩)
set_option maxRecDepth 100000 in
set_option maxHeartbeats 4000000 in
theorem c_prices {P : AW} {a : Nat} (hP : P.length = a) (fr : List Value) (z : Nat → Int) (R : AW) (hR : ∀ i, inR (z i)) (p q m : Int) (hip : inR p) (hiq : inR q) (him : inR m)  : CTi I_X6_prices 0 0 [.ref (a + 0), .int (iI p), .int (iI q), .int (iI m)] (P ++ mz a fr z R) (fun x w' => x = rPri p q m ∧ w' = P ++ mz a fr (sPri z p q m) R) := by
  refine CT_of 0 rfl (Nat.le_of_ble_eq_true rfl) ?_
  show EX I_X6_prices 0 0 none _ 0 [some (.ref (a + 0)), some (.int (iI p)), some (.int (iI q)), some (.int (iI m))] [] _ 0 0
  refine x_iload_n dX6_prices_0 rfl ?_
  refine x_i2l dX6_prices_1 ?_
  refine x_lconst dX6_prices_2 ?_
  refine x_ldc2 dX6_prices_3 kl_X6_72 ?_
  refine x_calliS dX6_prices_6 mk_X6_in ml_X6_43 (c_in _ p 1 99 hip (by decide) (by decide)) rfl (fun x6 w6 h6 => ?_)
  obtain ⟨hb6, rfl⟩ := h6
  by_cases c6 : 1 ≤ p ∧ p ≤ 99
  · rw [if_pos c6] at hb6
    subst hb6
    refine x_if_eq 37 dX6_prices_9 (fun h9 => absurd h9 (by decide)) (fun h9 => ?_)
    refine x_iload_n dX6_prices_12 rfl ?_
    refine x_i2l dX6_prices_13 ?_
    refine x_iload_n dX6_prices_14 rfl ?_
    refine x_i2l dX6_prices_15 ?_
    refine x_ldc2 dX6_prices_16 kl_X6_74 ?_
    refine x_calliS dX6_prices_19 mk_X6_in ml_X6_43 (c_in _ q p 999 hiq hip (by decide)) rfl (fun x19 w19 h19 => ?_)
    obtain ⟨hb19, rfl⟩ := h19
    by_cases c19 : p ≤ q ∧ q ≤ 999
    · rw [if_pos c19] at hb19
      subst hb19
      refine x_if_eq 37 dX6_prices_22 (fun h22 => absurd h22 (by decide)) (fun h22 => ?_)
      refine x_iload_n dX6_prices_25 rfl ?_
      refine x_i2l dX6_prices_26 ?_
      refine x_lconst dX6_prices_27 ?_
      refine x_ldc2 dX6_prices_28 kl_X6_76 ?_
      refine x_calliS dX6_prices_31 mk_X6_in ml_X6_43 (c_in _ m 1 20 him (by decide) (by decide)) rfl (fun x31 w31 h31 => ?_)
      obtain ⟨hb31, rfl⟩ := h31
      by_cases c31 : 1 ≤ m ∧ m ≤ 20
      · rw [if_pos c31] at hb31
        subst hb31
        refine x_if_ne 39 dX6_prices_34 (fun h34 => ?_) (fun h34 => absurd h34 (by decide))
        refine x_aload_n dX6_prices_39 rfl ?_
        refine x_getfield 0 dX6_prices_40 fg_X6_7 hP rfl rfl ?_
        refine x_bipush dX6_prices_43 ?_
        refine x_iload_n dX6_prices_45 rfl ?_
        refine x_iastore 1 (11) dX6_prices_46 hP rfl ?_
        refine x_aload_n dX6_prices_47 rfl ?_
        refine x_getfield 0 dX6_prices_48 fg_X6_7 hP rfl rfl ?_
        refine x_bipush dX6_prices_51 ?_
        refine x_iload_n dX6_prices_53 rfl ?_
        refine x_iastore 1 (12) dX6_prices_54 hP rfl ?_
        refine x_aload_n dX6_prices_55 rfl ?_
        refine x_getfield 0 dX6_prices_56 fg_X6_7 hP rfl rfl ?_
        refine x_bipush dX6_prices_59 ?_
        refine x_iload_n dX6_prices_61 rfl ?_
        refine x_iastore 1 (13) dX6_prices_62 hP rfl ?_
        refine x_aload_n dX6_prices_63 rfl ?_
        refine x_getfield 0 dX6_prices_64 fg_X6_7 hP rfl rfl ?_
        refine x_bipush dX6_prices_67 ?_
        refine x_iconst dX6_prices_69 ?_
        refine x_iastore 1 (9) dX6_prices_70 hP rfl ?_
        refine x_iconst dX6_prices_71 ?_
        exact x_iret dX6_prices_72 (⟨by unfold rPri; (repeat' split) <;> first | rfl | omega | (exfalso; omega), by unfold sPri; (repeat' split) <;> first | rfl | (exfalso; omega)⟩)
      · rw [if_neg c31] at hb31
        subst hb31
        refine x_if_ne 39 dX6_prices_34 (fun h34 => absurd h34 (by decide)) (fun h34 => ?_)
        refine x_iconst dX6_prices_37 ?_
        exact x_iret dX6_prices_38 (⟨by unfold rPri; (repeat' split) <;> first | rfl | omega | (exfalso; omega), by unfold sPri; (repeat' split) <;> first | rfl | (exfalso; omega)⟩)
    · rw [if_neg c19] at hb19
      subst hb19
      refine x_if_eq 37 dX6_prices_22 (fun h22 => ?_) (fun h22 => absurd h22 (by decide))
      refine x_iconst dX6_prices_37 ?_
      exact x_iret dX6_prices_38 (⟨by unfold rPri; (repeat' split) <;> first | rfl | omega | (exfalso; omega), by unfold sPri; (repeat' split) <;> first | rfl | (exfalso; omega)⟩)
  · rw [if_neg c6] at hb6
    subst hb6
    refine x_if_eq 37 dX6_prices_9 (fun h9 => ?_) (fun h9 => absurd h9 (by decide))
    refine x_iconst dX6_prices_37 ?_
    exact x_iret dX6_prices_38 (⟨by unfold rPri; (repeat' split) <;> first | rfl | omega | (exfalso; omega), by unfold sPri; (repeat' split) <;> first | rfl | (exfalso; omega)⟩)
set_option maxRecDepth 100000 in
set_option maxHeartbeats 4000000 in
theorem c_owes {P : AW} {a : Nat} (hP : P.length = a) (fr : List Value) (z : Nat → Int) (R : AW) (hR : ∀ i, inR (z i)) (o9 : 0 ≤ z 9 ∧ z 9 ≤ 90000000) (o11 : 1 ≤ z 11 ∧ z 11 ≤ 99) (o12 : 1 ≤ z 12 ∧ z 12 ≤ 999) (o13 : 1 ≤ z 13 ∧ z 13 ≤ 20) : CTi I_X6_owes 0 0 [.ref (a + 0)] (P ++ mz a fr z R) (fun x w' => x = mOwes z ∧ w' = P ++ mz a fr z R) := by
  have q1 : 0 ≤ z 9 % z 12 := Int.emod_nonneg _ (by omega)
  have q2 : z 9 % z 12 < z 12 := Int.emod_lt_of_pos _ (by omega)
  refine CT_of 0 rfl (Nat.le_of_ble_eq_true rfl) ?_
  show EX I_X6_owes 0 0 none _ 0 [some (.ref (a + 0))] [] _ 0 0
  refine x_aload_n dX6_owes_0 rfl ?_
  refine x_getfield 0 dX6_owes_1 fg_X6_7 hP rfl rfl ?_
  refine x_bipush dX6_owes_4 ?_
  refine x_iaload 1 (13) dX6_owes_6 hP rfl ?_
  refine x_aload_n dX6_owes_7 rfl ?_
  refine x_getfield 0 dX6_owes_8 fg_X6_7 hP rfl rfl ?_
  refine x_bipush dX6_owes_11 ?_
  refine x_iaload 1 (9) dX6_owes_13 hP rfl ?_
  refine x_aload_n dX6_owes_14 rfl ?_
  refine x_getfield 0 dX6_owes_15 fg_X6_7 hP rfl rfl ?_
  refine x_bipush dX6_owes_18 ?_
  refine x_iaload 1 (12) dX6_owes_20 hP rfl ?_
  refine x_idiv dX6_owes_21 ?_
  refine x_imul dX6_owes_22 ?_
  refine x_aload_n dX6_owes_23 rfl ?_
  refine x_getfield 0 dX6_owes_24 fg_X6_7 hP rfl rfl ?_
  refine x_bipush dX6_owes_27 ?_
  refine x_iaload 1 (9) dX6_owes_29 hP rfl ?_
  refine x_aload_n dX6_owes_30 rfl ?_
  refine x_getfield 0 dX6_owes_31 fg_X6_7 hP rfl rfl ?_
  refine x_bipush dX6_owes_34 ?_
  refine x_iaload 1 (12) dX6_owes_36 hP rfl ?_
  refine x_irem dX6_owes_37 ?_
  refine x_aload_n dX6_owes_38 rfl ?_
  refine x_getfield 0 dX6_owes_39 fg_X6_7 hP rfl rfl ?_
  refine x_bipush dX6_owes_42 ?_
  refine x_iaload 1 (11) dX6_owes_44 hP rfl ?_
  refine x_idiv dX6_owes_45 ?_
  refine x_iadd dX6_owes_46 ?_
  exact x_iret dX6_owes_47 (⟨rfl, rfl⟩)
theorem mOwes_b {z : Nat → Int} (h9 : 0 ≤ z 9 ∧ z 9 ≤ 90000000) (h11 : 1 ≤ z 11 ∧ z 11 ≤ 99) (h12 : 1 ≤ z 12 ∧ z 12 ≤ 999) (h13 : 1 ≤ z 13 ∧ z 13 ≤ 20) : 0 ≤ mOwes z ∧ mOwes z ≤ 1900000000 := by
  have q1 : 0 ≤ z 9 % z 12 := Int.emod_nonneg _ (by omega)
  have q2 : z 9 % z 12 < z 12 := Int.emod_lt_of_pos _ (by omega)
  have q3 : 0 ≤ z 9 / z 12 := Int.ediv_nonneg h9.1 (by omega)
  have q4 : z 9 / z 12 ≤ z 9 := Int.ediv_le_self _ h9.1
  have q5 : 0 ≤ z 9 % z 12 / z 11 := Int.ediv_nonneg q1 (by omega)
  have q6 : z 9 % z 12 / z 11 ≤ z 9 % z 12 := Int.ediv_le_self _ q1
  have q7 : z 13 * (z 9 / z 12) ≤ 20 * (z 9 / z 12) := Int.mul_le_mul_of_nonneg_right h13.2 q3
  have q8 : 0 ≤ z 13 * (z 9 / z 12) := Int.mul_nonneg (by omega) q3
  unfold mOwes
  omega
theorem mPaid_n {z : Nat → Int} {v : Int} {i : Nat} (h9 : ¬ i = 9) (h10 : ¬ i = 10) : mPaid z v i = z i := (updI_n h10).trans (updI_n h9)
theorem mPaid_9 (z : Nat → Int) (v : Int) : mPaid z v 9 = z 9 + v := (updI_n (by decide)).trans (updI_e _ _ _)
set_option maxRecDepth 100000 in
set_option maxHeartbeats 4000000 in
theorem c_coin {P : AW} {a : Nat} (hP : P.length = a) (fr : List Value) (z : Nat → Int) (R : AW) (hR : ∀ i, inR (z i)) (v : Int) (hiv : inR v) (o9 : 0 ≤ z 9 ∧ z 9 ≤ 80000000) (o11 : 1 ≤ z 11 ∧ z 11 ≤ 99) (o12 : 1 ≤ z 12 ∧ z 12 ≤ 999) (o13 : 1 ≤ z 13 ∧ z 13 ≤ 20) (o7 : 0 ≤ z 7 ∧ z 7 ≤ 200000000) (o10 : 0 ≤ z 10 ∧ z 10 ≤ 2000000000) (hdu : mDue z v ≤ 1900000000) : CTi I_X6_coin 0 0 [.ref (a + 0), .int (iI v)] (P ++ mz a fr z R) (fun x w' => x = rCoin z v ∧ w' = P ++ mz a fr (sCoin z v) R) := by
  refine CT_of 1 rfl (Nat.le_of_ble_eq_true rfl) ?_
  show EX I_X6_coin 0 0 none _ 0 [some (.ref (a + 0)), some (.int (iI v)), none] [] _ 0 0
  refine x_iload_n dX6_coin_0 rfl ?_
  refine x_i2l dX6_coin_1 ?_
  refine x_lconst dX6_coin_2 ?_
  refine x_ldc2 dX6_coin_3 kl_X6_72 ?_
  refine x_calliS dX6_coin_6 mk_X6_in ml_X6_43 (c_in _ v 1 99 hiv (by decide) (by decide)) rfl (fun x6 w6 h6 => ?_)
  obtain ⟨hb6, rfl⟩ := h6
  by_cases c6 : 1 ≤ v ∧ v ≤ 99
  · rw [if_pos c6] at hb6
    subst hb6
    refine x_if_ne 14 dX6_coin_9 (fun h9 => ?_) (fun h9 => absurd h9 (by decide))
    refine x_aload_n dX6_coin_14 rfl ?_
    refine x_calliV dX6_coin_15 mk_X6_owes ml_X6_78 (c_owes hP fr z R hR ⟨by omega, by omega⟩ o11 o12 o13) ((wg_app hP 0).trans rfl) rfl (fun x15 w15 h15 => ?_)
    obtain ⟨rfl, rfl⟩ := h15
    refine x_ist2 dX6_coin_18 ?_
    refine x_aload_n dX6_coin_19 rfl ?_
    refine x_getfield 0 dX6_coin_20 fg_X6_7 hP rfl rfl ?_
    refine x_bipush dX6_coin_23 ?_
    refine x_dup2 dX6_coin_25 ?_
    refine x_iaload 1 (9) dX6_coin_26 hP rfl ?_
    refine x_iload_n dX6_coin_27 rfl ?_
    refine x_iadd dX6_coin_28 ?_
    refine x_iastore 1 (9) dX6_coin_29 hP rfl ?_
    refine x_aload_n dX6_coin_30 rfl ?_
    refine x_getfield 0 dX6_coin_31 fg_X6_7 hP rfl rfl ?_
    refine x_bipush dX6_coin_34 ?_
    refine x_dup2 dX6_coin_36 ?_
    refine x_iaload 1 (10) dX6_coin_37 hP rfl ?_
    refine x_top (updI_n (by omega)) ?_
    refine x_iload_n dX6_coin_38 rfl ?_
    refine x_iadd dX6_coin_39 ?_
    refine x_iastore 1 (10) dX6_coin_40 hP rfl ?_
    refine x_aload_n dX6_coin_41 rfl ?_
    refine x_getfield 0 dX6_coin_42 fg_X6_7 hP rfl rfl ?_
    refine x_bipush dX6_coin_45 ?_
    refine x_dup2 dX6_coin_47 ?_
    refine x_iaload 1 (7) dX6_coin_48 hP rfl ?_
    refine x_top ((updI_n (by omega)).trans (updI_n (by omega))) ?_
    have hp9 : 0 ≤ mPaid z v 9 ∧ mPaid z v 9 ≤ 90000000 := by rw [mPaid_9]; omega
    have hp11 : 1 ≤ mPaid z v 11 ∧ mPaid z v 11 ≤ 99 := by rw [mPaid_n (by decide) (by decide)]; exact o11
    have hp12 : 1 ≤ mPaid z v 12 ∧ mPaid z v 12 ≤ 999 := by rw [mPaid_n (by decide) (by decide)]; exact o12
    have hp13 : 1 ≤ mPaid z v 13 ∧ mPaid z v 13 ≤ 20 := by rw [mPaid_n (by decide) (by decide)]; exact o13
    have ho1 := mOwes_b hp9 hp11 hp12 hp13
    have ho0 := mOwes_b ⟨o9.1, by omega⟩ o11 o12 o13
    refine x_aload_n dX6_coin_49 rfl ?_
    refine x_calliV dX6_coin_50 mk_X6_owes ml_X6_78 (c_owes hP fr (mPaid z v) R (inR_upd (inR_upd hR (by omega)) (by omega)) hp9 hp11 hp12 hp13) ((wg_app hP 0).trans rfl) rfl (fun x50 w50 h50 => ?_)
    obtain ⟨rfl, rfl⟩ := h50
    refine x_iload_n dX6_coin_53 rfl ?_
    refine x_icmp_le 66 dX6_coin_54 (fun h54 => ?_) (fun h54 => ?_)
    · refine x_iconst dX6_coin_66 ?_
      refine x_iadd dX6_coin_67 ?_
      refine x_iastore 1 (7) dX6_coin_68 hP rfl ?_
      refine x_aload_n dX6_coin_69 rfl ?_
      refine x_getfield 0 dX6_coin_70 fg_X6_7 hP rfl rfl ?_
      refine x_bipush dX6_coin_73 ?_
      refine x_iaload 1 (7) dX6_coin_75 hP rfl ?_
      refine x_top (updI_e _ _ _) ?_
      exact x_iret dX6_coin_76 (⟨by unfold rCoin mDue; (repeat' split) <;> first | rfl | omega | (exfalso; omega), by unfold sCoin mDue; (repeat' split) <;> first | rfl | (exfalso; omega)⟩)
    · refine x_aload_n dX6_coin_57 rfl ?_
      refine x_calliV dX6_coin_58 mk_X6_owes ml_X6_78 (c_owes hP fr (mPaid z v) R (inR_upd (inR_upd hR (by omega)) (by omega)) hp9 hp11 hp12 hp13) ((wg_app hP 0).trans rfl) rfl (fun x58 w58 h58 => ?_)
      obtain ⟨rfl, rfl⟩ := h58
      refine x_iload_n dX6_coin_61 rfl ?_
      refine x_isub dX6_coin_62 ?_
      refine x_goto 67 dX6_coin_63 ?_
      refine x_iadd dX6_coin_67 ?_
      refine x_iastore 1 (7) dX6_coin_68 hP rfl ?_
      refine x_aload_n dX6_coin_69 rfl ?_
      refine x_getfield 0 dX6_coin_70 fg_X6_7 hP rfl rfl ?_
      refine x_bipush dX6_coin_73 ?_
      refine x_iaload 1 (7) dX6_coin_75 hP rfl ?_
      refine x_top (updI_e _ _ _) ?_
      exact x_iret dX6_coin_76 (⟨by unfold rCoin mDue; (repeat' split) <;> first | rfl | omega | (exfalso; omega), by unfold sCoin mDue; (repeat' split) <;> first | rfl | (exfalso; omega)⟩)
  · rw [if_neg c6] at hb6
    subst hb6
    refine x_if_ne 14 dX6_coin_9 (fun h9 => absurd h9 (by decide)) (fun h9 => ?_)
    refine x_iconst dX6_coin_12 ?_
    exact x_iret dX6_coin_13 (⟨by unfold rCoin mDue; (repeat' split) <;> first | rfl | omega | (exfalso; omega), by unfold sCoin mDue; (repeat' split) <;> first | rfl | (exfalso; omega)⟩)
set_option maxRecDepth 100000 in
set_option maxHeartbeats 4000000 in
theorem c_set {P : AW} {a : Nat} (hP : P.length = a) (fr : List Value) (z : Nat → Int) (R : AW) (hR : ∀ i, inR (z i)) (h v : Int) (hih : inR h) (hiv : inR v)  : CTi I_X6_set 0 0 [.ref (a + 0), .int (iI h), .int (iI v)] (P ++ mz a fr z R) (fun x w' => x = rSet z h v ∧ w' = P ++ mz a fr (sSet z h v) R) := by
  refine CT_of 1 rfl (Nat.le_of_ble_eq_true rfl) ?_
  show EX I_X6_set 0 0 none _ 0 [some (.ref (a + 0)), some (.int (iI h)), some (.int (iI v)), none] [] _ 0 0
  refine x_iload_n dX6_set_0 rfl ?_
  refine x_if_ne 17 dX6_set_1 (fun h1 => ?_) (fun h1 => ?_)
  · refine x_iload_n dX6_set_17 rfl ?_
    refine x_iconst dX6_set_18 ?_
    refine x_icmp_ne 34 dX6_set_19 (fun h19 => ?_) (fun h19 => ?_)
    · refine x_iconst dX6_set_34 ?_
      exact x_iret dX6_set_35 (⟨by unfold rSet; (repeat' split) <;> first | rfl | omega | (exfalso; omega), by unfold sSet; (repeat' split) <;> first | rfl | (exfalso; omega)⟩)
    · refine x_iload_n dX6_set_22 rfl ?_
      refine x_i2l dX6_set_23 ?_
      refine x_lconst dX6_set_24 ?_
      refine x_ldc2 dX6_set_25 kl_X6_72 ?_
      refine x_calliS dX6_set_28 mk_X6_in ml_X6_43 (c_in _ v 1 99 hiv (by decide) (by decide)) rfl (fun x28 w28 h28 => ?_)
      obtain ⟨hb28, rfl⟩ := h28
      by_cases c28 : 1 ≤ v ∧ v ≤ 99
      · rw [if_pos c28] at hb28
        subst hb28
        refine x_if_ne 36 dX6_set_31 (fun h31 => ?_) (fun h31 => absurd h31 (by decide))
        refine x_aload_n dX6_set_36 rfl ?_
        refine x_getfield 0 dX6_set_37 fg_X6_7 hP rfl rfl ?_
        refine x_bipush dX6_set_40 ?_
        refine x_iload_n dX6_set_42 rfl ?_
        refine x_iadd dX6_set_43 ?_
        refine x_iaload 1 (15) dX6_set_44 hP rfl ?_
        refine x_ist3 dX6_set_45 ?_
        refine x_aload_n dX6_set_46 rfl ?_
        refine x_getfield 0 dX6_set_47 fg_X6_7 hP rfl rfl ?_
        refine x_bipush dX6_set_50 ?_
        refine x_iload_n dX6_set_52 rfl ?_
        refine x_iadd dX6_set_53 ?_
        refine x_iload_n dX6_set_54 rfl ?_
        refine x_iastore 1 (15) dX6_set_55 hP rfl ?_
        refine x_iload_n dX6_set_56 rfl ?_
        exact x_iret dX6_set_57 (⟨by unfold rSet; (repeat' split) <;> first | rfl | omega | (exfalso; omega), by unfold sSet; (repeat' split) <;> first | rfl | (exfalso; omega)⟩)
      · rw [if_neg c28] at hb28
        subst hb28
        refine x_if_ne 36 dX6_set_31 (fun h31 => absurd h31 (by decide)) (fun h31 => ?_)
        refine x_iconst dX6_set_34 ?_
        exact x_iret dX6_set_35 (⟨by unfold rSet; (repeat' split) <;> first | rfl | omega | (exfalso; omega), by unfold sSet; (repeat' split) <;> first | rfl | (exfalso; omega)⟩)
  · refine x_iload_n dX6_set_4 rfl ?_
    refine x_i2l dX6_set_5 ?_
    refine x_lconst dX6_set_6 ?_
    refine x_lconst dX6_set_7 ?_
    refine x_calliS dX6_set_8 mk_X6_in ml_X6_43 (c_in _ v 0 1 hiv (by decide) (by decide)) rfl (fun x8 w8 h8 => ?_)
    obtain ⟨hb8, rfl⟩ := h8
    by_cases c8 : 0 ≤ v ∧ v ≤ 1
    · rw [if_pos c8] at hb8
      subst hb8
      refine x_if_ne 36 dX6_set_11 (fun h11 => ?_) (fun h11 => absurd h11 (by decide))
      refine x_aload_n dX6_set_36 rfl ?_
      refine x_getfield 0 dX6_set_37 fg_X6_7 hP rfl rfl ?_
      refine x_bipush dX6_set_40 ?_
      refine x_iload_n dX6_set_42 rfl ?_
      refine x_iadd dX6_set_43 ?_
      refine x_iaload 1 (14) dX6_set_44 hP rfl ?_
      refine x_ist3 dX6_set_45 ?_
      refine x_aload_n dX6_set_46 rfl ?_
      refine x_getfield 0 dX6_set_47 fg_X6_7 hP rfl rfl ?_
      refine x_bipush dX6_set_50 ?_
      refine x_iload_n dX6_set_52 rfl ?_
      refine x_iadd dX6_set_53 ?_
      refine x_iload_n dX6_set_54 rfl ?_
      refine x_iastore 1 (14) dX6_set_55 hP rfl ?_
      refine x_iload_n dX6_set_56 rfl ?_
      exact x_iret dX6_set_57 (⟨by unfold rSet; (repeat' split) <;> first | rfl | omega | (exfalso; omega), by unfold sSet; (repeat' split) <;> first | rfl | (exfalso; omega)⟩)
    · rw [if_neg c8] at hb8
      subst hb8
      refine x_if_ne 36 dX6_set_11 (fun h11 => absurd h11 (by decide)) (fun h11 => ?_)
      refine x_goto 34 dX6_set_14 ?_
      refine x_iconst dX6_set_34 ?_
      exact x_iret dX6_set_35 (⟨by unfold rSet; (repeat' split) <;> first | rfl | omega | (exfalso; omega), by unfold sSet; (repeat' split) <;> first | rfl | (exfalso; omega)⟩)
set_option maxRecDepth 100000 in
set_option maxHeartbeats 4000000 in
theorem c_key {P : AW} {a : Nat} (hP : P.length = a) (fr : List Value) (z : Nat → Int) (R : AW) (hR : ∀ i, inR (z i)) (s : Int) (his : inR s) (o7 : 0 ≤ z 7) (o8 : 0 ≤ z 8 ∧ z 8 ≤ 2000000000) : CTi I_X6_key 0 0 [.ref (a + 0), .int (iI s)] (P ++ mz a fr z R) (fun x w' => x = rKey z s ∧ w' = P ++ mz a fr (sKey z s) R) := by
  refine CT_of 1 rfl (Nat.le_of_ble_eq_true rfl) ?_
  show EX I_X6_key 0 0 none _ 0 [some (.ref (a + 0)), some (.int (iI s)), none] [] _ 0 0
  refine x_iload_n dX6_key_0 rfl ?_
  refine x_calliS dX6_key_1 mk_X6_isSong ml_X6_67 (c_isSong _ s his) rfl (fun x1 w1 h1 => ?_)
  obtain ⟨hb1, rfl⟩ := h1
  by_cases c1 : 0 ≤ s ∧ s ≤ 19
  · rw [if_pos c1] at hb1
    subst hb1
    refine x_if_ne 9 dX6_key_4 (fun h4 => ?_) (fun h4 => absurd h4 (by decide))
    refine x_aload_n dX6_key_9 rfl ?_
    refine x_getfield 0 dX6_key_10 fg_X6_7 hP rfl rfl ?_
    refine x_bipush dX6_key_13 ?_
    refine x_iaload 1 (7) dX6_key_15 hP rfl ?_
    refine x_if_ne 22 dX6_key_16 (fun h16 => ?_) (fun h16 => ?_) (ha := hR _)
    · refine x_aload_n dX6_key_22 rfl ?_
      refine x_getfield 0 dX6_key_23 fg_X6_7 hP rfl rfl ?_
      refine x_bipush dX6_key_26 ?_
      refine x_iload_n dX6_key_28 rfl ?_
      refine x_iadd dX6_key_29 ?_
      refine x_iaload 1 (30 + s.toNat) dX6_key_30 hP rfl ?_
      refine x_if_ne 50 dX6_key_31 (fun h31 => ?_) (fun h31 => ?_) (ha := hR _)
      · refine x_iconst dX6_key_50 ?_
        refine x_ist2 dX6_key_51 ?_
        refine x_iload_n dX6_key_52 rfl ?_
        refine x_if_ne 70 dX6_key_53 (fun h53 => absurd h53 (by decide)) (fun h53 => ?_)
        refine x_aload_n dX6_key_56 rfl ?_
        refine x_getfield 0 dX6_key_57 fg_X6_7 hP rfl rfl ?_
        refine x_bipush dX6_key_60 ?_
        refine x_iaload 1 (14) dX6_key_62 hP rfl ?_
        refine x_iconst dX6_key_63 ?_
        refine x_icmp_ne 70 dX6_key_64 (fun h64 => ?_) (fun h64 => ?_) (ha := hR _)
        · refine x_aload_n dX6_key_70 rfl ?_
          refine x_getfield 0 dX6_key_71 fg_X6_7 hP rfl rfl ?_
          refine x_bipush dX6_key_74 ?_
          refine x_iload_n dX6_key_76 rfl ?_
          refine x_iadd dX6_key_77 ?_
          refine x_iload_n dX6_key_78 rfl ?_
          refine x_if_eq 86 dX6_key_79 (fun h79 => ?_) (fun h79 => absurd h79 (by decide))
          refine x_aload_n dX6_key_86 rfl ?_
          refine x_getfield 0 dX6_key_87 fg_X6_7 hP rfl rfl ?_
          refine x_bipush dX6_key_90 ?_
          refine x_iload_n dX6_key_92 rfl ?_
          refine x_iadd dX6_key_93 ?_
          refine x_iaload 1 (30 + s.toNat) dX6_key_94 hP rfl ?_
          refine x_iastore 1 (30 + s.toNat) dX6_key_95 hP rfl ?_
          refine x_aload_n dX6_key_96 rfl ?_
          refine x_getfield 0 dX6_key_97 fg_X6_7 hP rfl rfl ?_
          refine x_bipush dX6_key_100 ?_
          refine x_dup2 dX6_key_102 ?_
          refine x_iaload 1 (8) dX6_key_103 hP rfl ?_
          refine x_top (updI_n (by omega)) ?_
          refine x_iload_n dX6_key_104 rfl ?_
          refine x_if_eq 112 dX6_key_105 (fun h105 => ?_) (fun h105 => absurd h105 (by decide))
          refine x_iconst dX6_key_112 ?_
          refine x_iadd dX6_key_113 ?_
          refine x_iastore 1 (8) dX6_key_114 hP rfl ?_
          refine x_aload_n dX6_key_115 rfl ?_
          refine x_getfield 0 dX6_key_116 fg_X6_7 hP rfl rfl ?_
          refine x_bipush dX6_key_119 ?_
          refine x_dup2 dX6_key_121 ?_
          refine x_iaload 1 (7) dX6_key_122 hP rfl ?_
          refine x_top ((updI_n (by omega)).trans (updI_n (by omega))) ?_
          refine x_iconst dX6_key_123 ?_
          refine x_isub dX6_key_124 ?_
          refine x_iastore 1 (7) dX6_key_125 hP rfl ?_
          refine x_aload_n dX6_key_126 rfl ?_
          refine x_getfield 0 dX6_key_127 fg_X6_7 hP rfl rfl ?_
          refine x_bipush dX6_key_130 ?_
          refine x_iaload 1 (7) dX6_key_132 hP rfl ?_
          refine x_top (updI_e _ _ _) ?_
          exact x_iret dX6_key_133 (⟨by unfold rKey; (repeat' split) <;> first | rfl | omega | (exfalso; omega), by unfold sKey; (repeat' split) <;> first | rfl | (exfalso; omega)⟩)
        · refine x_bipush dX6_key_67 ?_
          exact x_iret dX6_key_69 (⟨by unfold rKey; (repeat' split) <;> first | rfl | omega | (exfalso; omega), by unfold sKey; (repeat' split) <;> first | rfl | (exfalso; omega)⟩)
      · refine x_aload_n dX6_key_34 rfl ?_
        refine x_getfield 0 dX6_key_35 fg_X6_7 hP rfl rfl ?_
        refine x_bipush dX6_key_38 ?_
        refine x_iload_n dX6_key_40 rfl ?_
        refine x_iadd dX6_key_41 ?_
        refine x_iaload 1 (50 + s.toNat) dX6_key_42 hP rfl ?_
        refine x_if_ne 50 dX6_key_43 (fun h43 => ?_) (fun h43 => ?_) (ha := hR _)
        · refine x_iconst dX6_key_50 ?_
          refine x_ist2 dX6_key_51 ?_
          refine x_iload_n dX6_key_52 rfl ?_
          refine x_if_ne 70 dX6_key_53 (fun h53 => absurd h53 (by decide)) (fun h53 => ?_)
          refine x_aload_n dX6_key_56 rfl ?_
          refine x_getfield 0 dX6_key_57 fg_X6_7 hP rfl rfl ?_
          refine x_bipush dX6_key_60 ?_
          refine x_iaload 1 (14) dX6_key_62 hP rfl ?_
          refine x_iconst dX6_key_63 ?_
          refine x_icmp_ne 70 dX6_key_64 (fun h64 => ?_) (fun h64 => ?_) (ha := hR _)
          · refine x_aload_n dX6_key_70 rfl ?_
            refine x_getfield 0 dX6_key_71 fg_X6_7 hP rfl rfl ?_
            refine x_bipush dX6_key_74 ?_
            refine x_iload_n dX6_key_76 rfl ?_
            refine x_iadd dX6_key_77 ?_
            refine x_iload_n dX6_key_78 rfl ?_
            refine x_if_eq 86 dX6_key_79 (fun h79 => ?_) (fun h79 => absurd h79 (by decide))
            refine x_aload_n dX6_key_86 rfl ?_
            refine x_getfield 0 dX6_key_87 fg_X6_7 hP rfl rfl ?_
            refine x_bipush dX6_key_90 ?_
            refine x_iload_n dX6_key_92 rfl ?_
            refine x_iadd dX6_key_93 ?_
            refine x_iaload 1 (30 + s.toNat) dX6_key_94 hP rfl ?_
            refine x_iastore 1 (30 + s.toNat) dX6_key_95 hP rfl ?_
            refine x_aload_n dX6_key_96 rfl ?_
            refine x_getfield 0 dX6_key_97 fg_X6_7 hP rfl rfl ?_
            refine x_bipush dX6_key_100 ?_
            refine x_dup2 dX6_key_102 ?_
            refine x_iaload 1 (8) dX6_key_103 hP rfl ?_
            refine x_top (updI_n (by omega)) ?_
            refine x_iload_n dX6_key_104 rfl ?_
            refine x_if_eq 112 dX6_key_105 (fun h105 => ?_) (fun h105 => absurd h105 (by decide))
            refine x_iconst dX6_key_112 ?_
            refine x_iadd dX6_key_113 ?_
            refine x_iastore 1 (8) dX6_key_114 hP rfl ?_
            refine x_aload_n dX6_key_115 rfl ?_
            refine x_getfield 0 dX6_key_116 fg_X6_7 hP rfl rfl ?_
            refine x_bipush dX6_key_119 ?_
            refine x_dup2 dX6_key_121 ?_
            refine x_iaload 1 (7) dX6_key_122 hP rfl ?_
            refine x_top ((updI_n (by omega)).trans (updI_n (by omega))) ?_
            refine x_iconst dX6_key_123 ?_
            refine x_isub dX6_key_124 ?_
            refine x_iastore 1 (7) dX6_key_125 hP rfl ?_
            refine x_aload_n dX6_key_126 rfl ?_
            refine x_getfield 0 dX6_key_127 fg_X6_7 hP rfl rfl ?_
            refine x_bipush dX6_key_130 ?_
            refine x_iaload 1 (7) dX6_key_132 hP rfl ?_
            refine x_top (updI_e _ _ _) ?_
            exact x_iret dX6_key_133 (⟨by unfold rKey; (repeat' split) <;> first | rfl | omega | (exfalso; omega), by unfold sKey; (repeat' split) <;> first | rfl | (exfalso; omega)⟩)
          · refine x_bipush dX6_key_67 ?_
            exact x_iret dX6_key_69 (⟨by unfold rKey; (repeat' split) <;> first | rfl | omega | (exfalso; omega), by unfold sKey; (repeat' split) <;> first | rfl | (exfalso; omega)⟩)
        · refine x_iconst dX6_key_46 ?_
          refine x_goto 51 dX6_key_47 ?_
          refine x_ist2 dX6_key_51 ?_
          refine x_iload_n dX6_key_52 rfl ?_
          refine x_if_ne 70 dX6_key_53 (fun h53 => ?_) (fun h53 => absurd h53 (by decide))
          refine x_aload_n dX6_key_70 rfl ?_
          refine x_getfield 0 dX6_key_71 fg_X6_7 hP rfl rfl ?_
          refine x_bipush dX6_key_74 ?_
          refine x_iload_n dX6_key_76 rfl ?_
          refine x_iadd dX6_key_77 ?_
          refine x_iload_n dX6_key_78 rfl ?_
          refine x_if_eq 86 dX6_key_79 (fun h79 => absurd h79 (by decide)) (fun h79 => ?_)
          refine x_iconst dX6_key_82 ?_
          refine x_goto 95 dX6_key_83 ?_
          refine x_iastore 1 (30 + s.toNat) dX6_key_95 hP rfl ?_
          refine x_aload_n dX6_key_96 rfl ?_
          refine x_getfield 0 dX6_key_97 fg_X6_7 hP rfl rfl ?_
          refine x_bipush dX6_key_100 ?_
          refine x_dup2 dX6_key_102 ?_
          refine x_iaload 1 (8) dX6_key_103 hP rfl ?_
          refine x_top (updI_n (by omega)) ?_
          refine x_iload_n dX6_key_104 rfl ?_
          refine x_if_eq 112 dX6_key_105 (fun h105 => absurd h105 (by decide)) (fun h105 => ?_)
          refine x_iconst dX6_key_108 ?_
          refine x_goto 113 dX6_key_109 ?_
          refine x_iadd dX6_key_113 ?_
          refine x_iastore 1 (8) dX6_key_114 hP rfl ?_
          refine x_aload_n dX6_key_115 rfl ?_
          refine x_getfield 0 dX6_key_116 fg_X6_7 hP rfl rfl ?_
          refine x_bipush dX6_key_119 ?_
          refine x_dup2 dX6_key_121 ?_
          refine x_iaload 1 (7) dX6_key_122 hP rfl ?_
          refine x_top ((updI_n (by omega)).trans (updI_n (by omega))) ?_
          refine x_iconst dX6_key_123 ?_
          refine x_isub dX6_key_124 ?_
          refine x_iastore 1 (7) dX6_key_125 hP rfl ?_
          refine x_aload_n dX6_key_126 rfl ?_
          refine x_getfield 0 dX6_key_127 fg_X6_7 hP rfl rfl ?_
          refine x_bipush dX6_key_130 ?_
          refine x_iaload 1 (7) dX6_key_132 hP rfl ?_
          refine x_top (updI_e _ _ _) ?_
          exact x_iret dX6_key_133 (⟨by unfold rKey; (repeat' split) <;> first | rfl | omega | (exfalso; omega), by unfold sKey; (repeat' split) <;> first | rfl | (exfalso; omega)⟩)
    · refine x_bipush dX6_key_19 ?_
      exact x_iret dX6_key_21 (⟨by unfold rKey; (repeat' split) <;> first | rfl | omega | (exfalso; omega), by unfold sKey; (repeat' split) <;> first | rfl | (exfalso; omega)⟩)
  · rw [if_neg c1] at hb1
    subst hb1
    refine x_if_ne 9 dX6_key_4 (fun h4 => absurd h4 (by decide)) (fun h4 => ?_)
    refine x_iconst dX6_key_7 ?_
    exact x_iret dX6_key_8 (⟨by unfold rKey; (repeat' split) <;> first | rfl | omega | (exfalso; omega), by unfold sKey; (repeat' split) <;> first | rfl | (exfalso; omega)⟩)
set_option maxRecDepth 100000 in
set_option maxHeartbeats 4000000 in
theorem c_carriage {P : AW} {a : Nat} (hP : P.length = a) (fr : List Value) (z : Nat → Int) (R : AW) (hR : ∀ i, inR (z i)) (h : Int) (hih : inR h)  : CTi I_X6_carriage 0 0 [.ref (a + 0), .int (iI h)] (P ++ mz a fr z R) (fun x w' => x = rCar z h ∧ w' = P ++ mz a fr (z) R) := by
  refine CT_of 0 rfl (Nat.le_of_ble_eq_true rfl) ?_
  show EX I_X6_carriage 0 0 none _ 0 [some (.ref (a + 0)), some (.int (iI h))] [] _ 0 0
  refine x_iload_n dX6_carriage_0 rfl ?_
  refine x_i2l dX6_carriage_1 ?_
  refine x_lconst dX6_carriage_2 ?_
  refine x_ldc2 dX6_carriage_3 kl_X6_107 ?_
  refine x_calliS dX6_carriage_6 mk_X6_in ml_X6_43 (c_in _ h 0 3 hih (by decide) (by decide)) rfl (fun x6 w6 h6 => ?_)
  obtain ⟨hb6, rfl⟩ := h6
  by_cases c6 : 0 ≤ h ∧ h ≤ 3
  · rw [if_pos c6] at hb6
    subst hb6
    refine x_if_eq 23 dX6_carriage_9 (fun h9 => absurd h9 (by decide)) (fun h9 => ?_)
    refine x_aload_n dX6_carriage_12 rfl ?_
    refine x_getfield 0 dX6_carriage_13 fg_X6_7 hP rfl rfl ?_
    refine x_iconst dX6_carriage_16 ?_
    refine x_iload_n dX6_carriage_17 rfl ?_
    refine x_iadd dX6_carriage_18 ?_
    refine x_iaload 1 (1 + h.toNat) dX6_carriage_19 hP rfl ?_
    refine x_goto 24 dX6_carriage_20 ?_
    exact x_iret dX6_carriage_24 (⟨by unfold rCar; (repeat' split) <;> first | rfl | omega | (exfalso; omega), rfl⟩)
  · rw [if_neg c6] at hb6
    subst hb6
    refine x_if_eq 23 dX6_carriage_9 (fun h9 => ?_) (fun h9 => absurd h9 (by decide))
    refine x_iconst dX6_carriage_23 ?_
    exact x_iret dX6_carriage_24 (⟨by unfold rCar; (repeat' split) <;> first | rfl | omega | (exfalso; omega), rfl⟩)
end
section
/-! ===== all that holds of z, and that a tick keeps it ===== -/
theorem inR_d {z : Nat → Int} {x t : Int} (h : ∀ i, inR (z i)) (hx : inR x) (ht : inR t) : ∀ i, inR (mDoes z x t i) := inR_upd (inR_upd h hx) ht
theorem inR_g {z : Nat → Int} (h : ∀ i, inR (z i)) : ∀ i, inR (mGoOn z i) := by
  unfold mGoOn
  (repeat' split) <;> exact inR_d h (by decide) (by decide)
theorem inR_o {z : Nat → Int} (h : ∀ i, inR (z i)) (s : Nat) : ∀ i, inR (mOut z s i) := by
  unfold mOut
  refine inR_upd h ?_
  split
  · decide
  · exact h _
theorem inR_l {z : Nat → Int} (h : ∀ i, inR (z i)) (h6 : 0 ≤ z 6 ∧ z 6 ≤ 2000000000) : ∀ i, inR (mLook z i) := by
  unfold mLook
  split
  · split
    · exact inR_d (inR_o h _) (by decide) (by decide)
    · exact inR_g (inR_upd (inR_o h _) (by omega))
  · exact inR_g (inR_upd (inR_o h _) (by omega))
theorem inR_p {z : Nat → Int} (h : ∀ i, inR (z i)) (hc : ZC z) (hr : 0 ≤ z (20 + (z 1).toNat)) (h5 : 0 ≤ z 5 ∧ z 5 ≤ 2000000000) : ∀ i, inR (mPlay z i) := by
  obtain ⟨e1, e2, e3⟩ := mSide_b hc hr
  have hw := mWear_b hc hr
  have hs := mSong_b hc.1.1 hc.1.2
  have ht := hc.2.2.2.2.2.2.2.2.2.2.2.1 (mSide z) e2
  have hm := hc.2.2.2.2.2.2.2.2.2.2.1 (mSong z).toNat (by omega)
  unfold mPlay
  refine inR_d (inR_upd (inR_upd (inR_upd h (by omega)) (by omega)) (by omega)) (by decide) ?_
  split <;> omega
def ZA (z : Nat → Int) : Prop := (∀ i, inR (z i)) ∧ ZC z ∧ ZD z ∧ (0 ≤ z 5 ∧ z 5 ≤ z 0 ∧ 0 ≤ z 6 ∧ z 6 ≤ z 0)
theorem look_05 {z : Nat → Int} (hc : ZC z) : mLook z 0 = z 0 ∧ mLook z 5 = z 5 ∧ (mLook z 6 = z 6 ∨ mLook z 6 = z 6 + 1) := by
  have hs := mSong_b hc.1.1 hc.1.2
  unfold mLook
  split
  · split
    · rw [mDoes_n (by decide) (by decide), mDoes_n (by decide) (by decide), mDoes_n (by decide) (by decide), mOut_n (by omega), mOut_n (by omega), mOut_n (by omega)]
      exact ⟨rfl, rfl, Or.inl rfl⟩
    · rw [mGoOn_n (by decide) (by decide), mGoOn_n (by decide) (by decide), mGoOn_n (by decide) (by decide), updI_n (by decide), updI_n (by decide), updI_e, mOut_n (by omega), mOut_n (by omega)]
      exact ⟨rfl, rfl, Or.inr rfl⟩
  · rw [mGoOn_n (by decide) (by decide), mGoOn_n (by decide) (by decide), mGoOn_n (by decide) (by decide), updI_n (by decide), updI_n (by decide), updI_e, mOut_n (by omega), mOut_n (by omega)]
    exact ⟨rfl, rfl, Or.inl (by omega)⟩
theorem play_05 {z : Nat → Int} (hc : ZC z) : mPlay z 0 = z 0 ∧ mPlay z 5 = z 5 + 1 ∧ mPlay z 6 = z 6 := by
  have hs := mSong_b hc.1.1 hc.1.2
  unfold mPlay
  rw [mDoes_n (by decide) (by decide), mDoes_n (by decide) (by decide), mDoes_n (by decide) (by decide), updI_n (by decide), updI_n (by omega), updI_n (by omega), updI_e, updI_n (by decide), updI_n (by omega), updI_n (by omega)]
  exact ⟨rfl, rfl, rfl⟩
/-- the counts behind a tick -/
theorem tick_05 {z : Nat → Int} (hc : ZC z) (hd : ZD z) : mTick z 0 = z 0 + 1 ∧ (mTick z 5 = z 5 ∨ mTick z 5 = z 5 + 1) ∧ (mTick z 6 = z 6 ∨ mTick z 6 = z 6 + 1) := by
  have h1 := hc.1
  have h2 := hc.2.1
  obtain ⟨d1, d2, d3, d4, d5, d6, d7⟩ := hd
  have c0 := ZC_n (j := 0) (v := z 0 + 1) hc (by omega)
  have c4 := ZC_n (j := 4) (v := z 4 - 1) c0 (by omega)
  have e0 : updI z 0 (z 0 + 1) 0 = z 0 + 1 := updI_e _ _ _
  have e5 : updI z 0 (z 0 + 1) 5 = z 5 := updI_n (by decide)
  have e6 : updI z 0 (z 0 + 1) 6 = z 6 := updI_n (by decide)
  have f0 : updI (updI z 0 (z 0 + 1)) 4 (z 4 - 1) 0 = z 0 + 1 := (updI_n (by decide)).trans e0
  have f5 : updI (updI z 0 (z 0 + 1)) 4 (z 4 - 1) 5 = z 5 := (updI_n (by decide)).trans e5
  have f6 : updI (updI z 0 (z 0 + 1)) 4 (z 4 - 1) 6 = z 6 := (updI_n (by decide)).trans e6
  unfold mTick
  split
  · split
    · exact ⟨e0, Or.inl e5, Or.inl e6⟩
    · have := look_05 c0
      rw [e0, e5, e6] at this
      exact ⟨this.1, Or.inl this.2.1, this.2.2⟩
  · split
    · exact ⟨f0, Or.inl f5, Or.inl f6⟩
    · split
      · have := look_05 (ZC_p (v := z 1 + (if z 2 = 1 then 1 else -1)) c4 (by split <;> omega) (by split <;> omega))
        rw [updI_n (j := 1) (by decide), updI_n (j := 1) (by decide), updI_n (j := 1) (by decide), f0, f5, f6] at this
        exact ⟨this.1, Or.inl this.2.1, this.2.2⟩
      · split
        · have := look_05 (ZC_t (v := 1 - z 2) c4 (by omega))
          rw [updI_n (j := 2) (by decide), updI_n (j := 2) (by decide), updI_n (j := 2) (by decide), f0, f5, f6] at this
          exact ⟨this.1, Or.inl this.2.1, this.2.2⟩
        · split
          · have := play_05 c4
            rw [f0, f5, f6] at this
            exact ⟨this.1, Or.inr this.2.1, Or.inl this.2.2⟩
          · split
            · rw [mDoes_n (by decide) (by decide), mDoes_n (by decide) (by decide), mDoes_n (by decide) (by decide)]
              exact ⟨f0, Or.inl f5, Or.inl f6⟩
            · rw [mGoOn_n (by decide) (by decide), mGoOn_n (by decide) (by decide), mGoOn_n (by decide) (by decide)]
              exact ⟨f0, Or.inl f5, Or.inl f6⟩
theorem inR_t {z : Nat → Int} (h : ∀ i, inR (z i)) (hc : ZC z) (hd : ZD z) (h0 : 0 ≤ z 0 ∧ z 0 ≤ 2000000000) (h5 : 0 ≤ z 5 ∧ z 5 ≤ 2000000000) (h6 : 0 ≤ z 6 ∧ z 6 ≤ 2000000000) : ∀ i, inR (mTick z i) := by
  have h1 := hc.1
  have h2 := hc.2.1
  obtain ⟨d1, d2, d3, d4, d5, d6, d7⟩ := hd
  have r0 := inR_upd (j := 0) (v := z 0 + 1) h (by omega)
  have r4 := inR_upd (j := 4) (v := z 4 - 1) r0 (by omega)
  have c4 := ZC_n (j := 4) (v := z 4 - 1) (ZC_n (j := 0) (v := z 0 + 1) hc (by omega)) (by omega)
  have f5 : updI (updI z 0 (z 0 + 1)) 4 (z 4 - 1) 5 = z 5 := (updI_n (by decide)).trans (updI_n (by decide))
  have f6 : updI (updI z 0 (z 0 + 1)) 4 (z 4 - 1) 6 = z 6 := (updI_n (by decide)).trans (updI_n (by decide))
  unfold mTick
  split
  · split
    · exact r0
    · exact inR_l r0 (by rw [updI_n (by decide)]; exact h6)
  · split
    · exact r4
    · split
      · exact inR_l (inR_upd r4 (by split <;> omega)) (by rw [updI_n (by decide), f6]; exact h6)
      · split
        · exact inR_l (inR_upd r4 (by omega)) (by rw [updI_n (by decide), f6]; exact h6)
        · split
          · refine inR_p r4 c4 ?_ (by rw [f5]; exact h5)
            rw [updI_n (j := 4) (q := 1) (by decide), updI_n (j := 0) (q := 1) (by decide), updI_n (j := 4) (by omega), updI_n (j := 0) (by omega)]
            exact d5 (by omega)
          · split
            · exact inR_d r4 (by decide) (by decide)
            · exact inR_g r4
theorem ZA_tick {z : Nat → Int} (h : ZA z) (hb : z 0 < 2000000000) : ZA (mTick z) := by
  obtain ⟨hR, hc, hd, h5⟩ := h
  have ht := tick_05 hc hd
  have hi := ZI_tick hc hd
  exact ⟨inR_t hR hc hd (by omega) (by omega) (by omega), hi.1, hi.2, by omega⟩
theorem ZA_ticks {z : Nat → Int} (h : ZA z) : ∀ n : Nat, z 0 + n ≤ 2000000000 → ZA (mTicks z n) ∧ mTicks z n 0 = z 0 + n
  | 0, _ => ⟨h, by simp [mTicks]⟩
  | n + 1, hn => by
    have ih := ZA_ticks h n (by omega)
    have := tick_05 ih.1.2.1 ih.1.2.2.1
    exact ⟨ZA_tick ih.1 (by omega), by show mTick (mTicks z n) 0 = _; omega⟩
theorem ZA_B {z : Nat → Int} (h : ZA z) (hb : z 0 < 2000000000) : ZB z := by
  obtain ⟨hR, hc, hd, h5⟩ := h
  exact ⟨by omega, by omega, by omega⟩
set_option maxRecDepth 100000 in
set_option maxHeartbeats 4000000 in
theorem l_ticks {P : AW} {a : Nat} (hP : P.length = a) (fr : List Value) (z : Nat → Int) (R : AW) (hA : ZA z) (n : Int) (hn : 0 ≤ n ∧ n ≤ 2000) (h0 : z 0 + n ≤ 1000000) {Z : Zt} (hx : EX I_X6_ticks 0 0 none Z 47 [some (.ref (a + 0)), some (.int (iI n)), some (.int (iI ((n.toNat : Nat) : Int)))] [] (P ++ mz a fr (mTicks z (n.toNat)) R) 0 0) : ∀ (r k : Nat), k + r = n.toNat → EX I_X6_ticks 0 0 none Z 32 [some (.ref (a + 0)), some (.int (iI n)), some (.int (iI ((k : Nat) : Int)))] [] (P ++ mz a fr (mTicks z (k)) R) 0 0 := by
  intro r
  induction r with
  | zero =>
    intro k hs
    have hs' : k = n.toNat := by omega
    subst hs'
    refine x_iload_n dX6_ticks_32 rfl ?_
    refine x_iload_n dX6_ticks_33 rfl ?_
    refine x_icmp_ge 47 dX6_ticks_34 (fun h34 => ?_) (fun h34 => by exfalso; omega)
    exact hx
  | succ r ih =>
    intro k hs
    have ht := ZA_ticks hA k (by omega)
    refine x_iload_n dX6_ticks_32 rfl ?_
    refine x_iload_n dX6_ticks_33 rfl ?_
    refine x_icmp_ge 47 dX6_ticks_34 (fun h34 => by exfalso; omega) (fun h34 => ?_)
    refine x_aload_n dX6_ticks_37 rfl ?_
    refine x_callvV dX6_ticks_38 mk_X6_tick ml_X6_104 (c_tick hP fr (mTicks z k) R ht.1.1 ht.1.2.1 ht.1.2.2.1 (ZA_B ht.1 (by omega))) ((wg_app hP 0).trans rfl) rfl (fun w38 h38 => ?_)
    subst h38
    refine x_eqw (w' := P ++ mz a fr (mTicks z (k + 1)) R) rfl ?_
    refine x_inc2 dX6_ticks_41 ?_
    refine x_goto 32 dX6_ticks_44 ?_
    exact ih (k + 1) (by omega)
set_option maxRecDepth 100000 in
set_option maxHeartbeats 4000000 in
theorem c_ticks {P : AW} {a : Nat} (hP : P.length = a) (fr : List Value) (z : Nat → Int) (R : AW) (hA : ZA z) (hz0b : z 0 ≤ 1000000) (n : Int) (hin : inR n) : CTi I_X6_ticks 0 0 [.ref (a + 0), .int (iI n)] (P ++ mz a fr z R) (fun x w' => x = rTks z n ∧ w' = P ++ mz a fr (sTks z n) R) := by
  have hR := hA.1
  have hz0 := hA.2.2.2
  have hz9 := hR 0
  refine CT_of 1 rfl (Nat.le_of_ble_eq_true rfl) ?_
  show EX I_X6_ticks 0 0 none _ 0 [some (.ref (a + 0)), some (.int (iI n)), none] [] _ 0 0
  refine x_iload_n dX6_ticks_0 rfl ?_
  refine x_i2l dX6_ticks_1 ?_
  refine x_lconst dX6_ticks_2 ?_
  refine x_ldc2 dX6_ticks_3 kl_X6_101 ?_
  refine x_calliS dX6_ticks_6 mk_X6_in ml_X6_43 (c_in _ n 1 2000 hin (by decide) (by decide)) rfl (fun x6 w6 h6 => ?_)
  obtain ⟨hb6, rfl⟩ := h6
  by_cases c6 : 1 ≤ n ∧ n ≤ 2000
  · rw [if_pos c6] at hb6
    subst hb6
    refine x_if_ne 14 dX6_ticks_9 (fun h9 => ?_) (fun h9 => absurd h9 (by decide))
    refine x_aload_n dX6_ticks_14 rfl ?_
    refine x_getfield 0 dX6_ticks_15 fg_X6_7 hP rfl rfl ?_
    refine x_iconst dX6_ticks_18 ?_
    refine x_iaload 1 (0) dX6_ticks_19 hP rfl ?_
    refine x_iload_n dX6_ticks_20 rfl ?_
    refine x_iadd dX6_ticks_21 ?_
    refine x_ldc dX6_ticks_22 kc_X6_103 ?_
    refine x_icmp_le 30 dX6_ticks_24 (fun h24 => ?_) (fun h24 => ?_) (ha := by omega) (hb := by decide)
    · refine x_iconst dX6_ticks_30 ?_
      refine x_ist2 dX6_ticks_31 ?_
      refine x_eqw (w' := P ++ mz a fr (mTicks z 0) R) rfl (l_ticks hP fr z R hA n (by omega) h24 ?_ n.toNat 0 (by omega))
      refine x_aload_n dX6_ticks_47 rfl ?_
      refine x_getfield 0 dX6_ticks_48 fg_X6_7 hP rfl rfl ?_
      refine x_iconst dX6_ticks_51 ?_
      refine x_iaload 1 (0) dX6_ticks_52 hP rfl ?_
      exact x_iret dX6_ticks_53 (⟨by unfold rTks; (repeat' split) <;> first | rfl | omega | (exfalso; omega), by unfold sTks; (repeat' split) <;> first | rfl | (exfalso; omega)⟩)
    · refine x_bipush dX6_ticks_27 ?_
      exact x_iret dX6_ticks_29 (⟨by unfold rTks; (repeat' split) <;> first | rfl | omega | (exfalso; omega), by unfold sTks; (repeat' split) <;> first | rfl | (exfalso; omega)⟩)
  · rw [if_neg c6] at hb6
    subst hb6
    refine x_if_ne 14 dX6_ticks_9 (fun h9 => absurd h9 (by decide)) (fun h9 => ?_)
    refine x_iconst dX6_ticks_12 ?_
    exact x_iret dX6_ticks_13 (⟨by unfold rTks; (repeat' split) <;> first | rfl | omega | (exfalso; omega), by unfold sTks; (repeat' split) <;> first | rfl | (exfalso; omega)⟩)
set_option maxRecDepth 100000 in
set_option maxHeartbeats 4000000 in
theorem l_count {P : AW} {a : Nat} (hP : P.length = a) (fr : List Value) (z : Nat → Int) (R : AW) (hR : ∀ i, inR (z i)) (h : Int) {Z : Zt} (hx : EX I_X6_count 0 0 none Z 147 [some (.ref (a + 0)), some (.int (iI h)), some (.int (iI (mEmpty z 10))), some (.int (iI ((10 : Nat) : Int)))] [] (P ++ mz a fr z R) 0 0) : ∀ (r s : Nat), s + r = 10 → EX I_X6_count 0 0 none Z 115 [some (.ref (a + 0)), some (.int (iI h)), some (.int (iI (mEmpty z s))), some (.int (iI ((s : Nat) : Int)))] [] (P ++ mz a fr z R) 0 0 := by
  intro r
  induction r with
  | zero =>
    intro s hs
    have hs' : s = 10 := by omega
    subst hs'
    refine x_iload_n dX6_count_115 rfl ?_
    refine x_bipush dX6_count_116 ?_
    refine x_icmp_ge 147 dX6_count_118 (fun h118 => ?_) (fun h118 => by exfalso; omega)
    exact hx
  | succ r ih =>
    intro s hs
    refine x_iload_n dX6_count_115 rfl ?_
    refine x_bipush dX6_count_116 ?_
    refine x_icmp_ge 147 dX6_count_118 (fun h118 => by exfalso; omega) (fun h118 => ?_)
    refine x_iload_n dX6_count_121 rfl ?_
    refine x_aload_n dX6_count_122 rfl ?_
    refine x_getfield 0 dX6_count_123 fg_X6_7 hP rfl rfl ?_
    refine x_bipush dX6_count_126 ?_
    refine x_iload_n dX6_count_128 rfl ?_
    refine x_iadd dX6_count_129 ?_
    refine x_iaload 1 (20 + s) dX6_count_130 hP rfl ?_
    refine x_if_ge 138 dX6_count_131 (fun h131 => ?_) (fun h131 => ?_) (ha := hR _)
    · refine x_iconst dX6_count_138 ?_
      refine x_iadd dX6_count_139 ?_
      refine x_ist2 dX6_count_140 ?_
      refine x_inc3 dX6_count_141 ?_
      refine x_goto 115 dX6_count_144 ?_
      have hq : mEmpty z (s + 1) = mEmpty z s + 0 := by simp only [mEmpty]; rw [if_pos h131]
      have := ih (s + 1) (by omega)
      rw [hq] at this
      exact this
    · refine x_iconst dX6_count_134 ?_
      refine x_goto 139 dX6_count_135 ?_
      refine x_iadd dX6_count_139 ?_
      refine x_ist2 dX6_count_140 ?_
      refine x_inc3 dX6_count_141 ?_
      refine x_goto 115 dX6_count_144 ?_
      have hq : mEmpty z (s + 1) = mEmpty z s + 1 := by simp only [mEmpty]; rw [if_neg h131]
      have := ih (s + 1) (by omega)
      rw [hq] at this
      exact this
set_option maxRecDepth 100000 in
set_option maxHeartbeats 4000000 in
theorem c_count {P : AW} {a : Nat} (hP : P.length = a) (fr : List Value) (z : Nat → Int) (R : AW) (hR : ∀ i, inR (z i)) (h : Int) (hih : inR h) : CTi I_X6_count 0 0 [.ref (a + 0), .int (iI h)] (P ++ mz a fr z R) (fun x w' => x = rCnt z h ∧ w' = P ++ mz a fr z R) := by
  refine CT_of 2 rfl (Nat.le_of_ble_eq_true rfl) ?_
  show EX I_X6_count 0 0 none _ 0 [some (.ref (a + 0)), some (.int (iI h)), none, none] [] _ 0 0
  refine x_iload_n dX6_count_0 rfl ?_
  rcases (show h = 0 ∨ h = 1 ∨ h = 2 ∨ h = 3 ∨ h = 4 ∨ h = 5 ∨ h = 6 ∨ h = 7 ∨ h = 8 ∨ (h < 0 ∨ 8 < h) by omega) with h1 | h1 | h1 | h1 | h1 | h1 | h1 | h1 | h1 | h1
  · refine x_tsIn 0 52 dX6_count_1 (by omega) ?_
    refine x_aload_n dX6_count_52 rfl ?_
    refine x_getfield 0 dX6_count_53 fg_X6_7 hP rfl rfl ?_
    refine x_bipush dX6_count_56 ?_
    refine x_iaload 1 (16) dX6_count_58 hP rfl ?_
    exact x_iret dX6_count_59 (⟨by unfold rCnt; (repeat' split) <;> first | rfl | omega | (exfalso; omega), rfl⟩)
  · refine x_tsIn 1 60 dX6_count_1 (by omega) ?_
    refine x_aload_n dX6_count_60 rfl ?_
    refine x_calliV dX6_count_61 mk_X6_pinsIn ml_X6_82 (c_pinsIn hP fr z R) ((wg_app hP 0).trans rfl) rfl (fun x61 w61 h61 => ?_)
    obtain ⟨rfl, rfl⟩ := h61
    exact x_iret dX6_count_64 (⟨by unfold rCnt; (repeat' split) <;> first | rfl | omega | (exfalso; omega), rfl⟩)
  · refine x_tsIn 2 65 dX6_count_1 (by omega) ?_
    refine x_aload_n dX6_count_65 rfl ?_
    refine x_getfield 0 dX6_count_66 fg_X6_7 hP rfl rfl ?_
    refine x_bipush dX6_count_69 ?_
    refine x_iaload 1 (7) dX6_count_71 hP rfl ?_
    exact x_iret dX6_count_72 (⟨by unfold rCnt; (repeat' split) <;> first | rfl | omega | (exfalso; omega), rfl⟩)
  · refine x_tsIn 3 73 dX6_count_1 (by omega) ?_
    refine x_aload_n dX6_count_73 rfl ?_
    refine x_getfield 0 dX6_count_74 fg_X6_7 hP rfl rfl ?_
    refine x_bipush dX6_count_77 ?_
    refine x_iaload 1 (8) dX6_count_79 hP rfl ?_
    exact x_iret dX6_count_80 (⟨by unfold rCnt; (repeat' split) <;> first | rfl | omega | (exfalso; omega), rfl⟩)
  · refine x_tsIn 4 81 dX6_count_1 (by omega) ?_
    refine x_aload_n dX6_count_81 rfl ?_
    refine x_getfield 0 dX6_count_82 fg_X6_7 hP rfl rfl ?_
    refine x_bipush dX6_count_85 ?_
    refine x_iaload 1 (10) dX6_count_87 hP rfl ?_
    exact x_iret dX6_count_88 (⟨by unfold rCnt; (repeat' split) <;> first | rfl | omega | (exfalso; omega), rfl⟩)
  · refine x_tsIn 5 89 dX6_count_1 (by omega) ?_
    refine x_aload_n dX6_count_89 rfl ?_
    refine x_getfield 0 dX6_count_90 fg_X6_7 hP rfl rfl ?_
    refine x_iconst dX6_count_93 ?_
    refine x_iaload 1 (5) dX6_count_94 hP rfl ?_
    exact x_iret dX6_count_95 (⟨by unfold rCnt; (repeat' split) <;> first | rfl | omega | (exfalso; omega), rfl⟩)
  · refine x_tsIn 6 96 dX6_count_1 (by omega) ?_
    refine x_aload_n dX6_count_96 rfl ?_
    refine x_getfield 0 dX6_count_97 fg_X6_7 hP rfl rfl ?_
    refine x_bipush dX6_count_100 ?_
    refine x_iaload 1 (6) dX6_count_102 hP rfl ?_
    exact x_iret dX6_count_103 (⟨by unfold rCnt; (repeat' split) <;> first | rfl | omega | (exfalso; omega), rfl⟩)
  · refine x_tsIn 7 104 dX6_count_1 (by omega) ?_
    refine x_aload_n dX6_count_104 rfl ?_
    refine x_getfield 0 dX6_count_105 fg_X6_7 hP rfl rfl ?_
    refine x_iconst dX6_count_108 ?_
    refine x_iaload 1 (0) dX6_count_109 hP rfl ?_
    exact x_iret dX6_count_110 (⟨by unfold rCnt; (repeat' split) <;> first | rfl | omega | (exfalso; omega), rfl⟩)
  · refine x_tsIn 8 111 dX6_count_1 (by omega) ?_
    refine x_iconst dX6_count_111 ?_
    refine x_ist2 dX6_count_112 ?_
    refine x_iconst dX6_count_113 ?_
    refine x_ist3 dX6_count_114 ?_
    refine l_count hP fr z R hR h ?_ 10 0 rfl
    refine x_iload_n dX6_count_147 rfl ?_
    exact x_iret dX6_count_148 (⟨by unfold rCnt; (repeat' split) <;> first | rfl | omega | (exfalso; omega), rfl⟩)
  · refine x_tsOut 149 dX6_count_1 h1 ?_
    refine x_iconst dX6_count_149 ?_
    exact x_iret dX6_count_150 (⟨by unfold rCnt; (repeat' split) <;> first | rfl | omega | (exfalso; omega), rfl⟩)
end
section
/-! ===== what would be ===== -/
def cpyI (f g : Nat → Int) (s : Nat) : Nat → Int := fun j => if j < s then f j else g j
theorem cpyI_s (f g : Nat → Int) (s : Nat) : updI (cpyI f g s) s (f s) = cpyI f g (s + 1) := by
  funext j
  simp only [updI, cpyI]
  by_cases h : j = s
  · subst h; simp
  · by_cases h2 : j < s
    · rw [if_neg h, if_pos h2, if_pos (by omega)]
    · rw [if_neg h, if_neg h2, if_neg (by omega)]
theorem cpyI_0 (f g : Nat → Int) : cpyI f g 0 = g := by funext j; simp [cpyI]
def wr (f : Nat → Int) (n : Nat) : List Int → (Nat → Int)
  | [] => f
  | x :: l => wr (updI f n x) (n + 1) l
theorem wr_lt : ∀ (l : List Int) (f : Nat → Int) (n i : Nat), i < n → wr f n l i = f i
  | [], _, _, _, _ => rfl
  | x :: l, f, n, i, h => by
    simp only [wr]
    rw [wr_lt l _ (n + 1) i (by omega), updI_n (by omega)]
theorem wr_get : ∀ (l : List Int) (f : Nat → Int) (n i : Nat) (x : Int), l[i]? = some x → wr f n l (n + i) = x
  | [], _, _, _, _, h => by simp at h
  | y :: l, f, n, 0, x, h => by
    simp only [List.getElem?_cons_zero, Option.some.injEq] at h
    subst h
    show wr (updI f n y) (n + 1) l n = y
    rw [wr_lt l _ (n + 1) n (by omega), updI_e]
  | y :: l, f, n, i + 1, x, h => by
    simp only [List.getElem?_cons_succ] at h
    simp only [wr]
    rw [show n + (i + 1) = n + 1 + i by omega]
    exact wr_get l _ (n + 1) i x h
/-- songs with the tick at which each begins, and how many ticks it took -/
def ft : Nat → (Nat → Int) → Nat → Nat → Nat → List (Int × Int) × Nat
  | 0, _, _, t, _ => ([], t)
  | F + 1, z, n, t, q =>
    if 64 ≤ n ∨ 2000 ≤ q ∨ (z 3 = 0 ∧ mPins z 20 = 0) then ([], t)
    else if mTick z 5 ≤ z 5 then ft F (mTick z) n (t + 1) (q + 1)
    else ((mSong (mTick z), ((t + 1 : Nat) : Int)) :: (ft F (mTick z) (n + 1) (t + 1) 0).1, (ft F (mTick z) (n + 1) (t + 1) 0).2)
def mFt (z : Nat → Int) : List (Int × Int) × Nat := ft 130065 z 0 0 0
theorem ft_x {F : Nat} {z : Nat → Int} {n t q : Nat} (h : 64 ≤ n ∨ 2000 ≤ q ∨ (z 3 = 0 ∧ mPins z 20 = 0)) : ft (F + 1) z n t q = ([], t) := if_pos h
theorem ft_n {F : Nat} {z : Nat → Int} {n t q : Nat} (h : ¬ (64 ≤ n ∨ 2000 ≤ q ∨ (z 3 = 0 ∧ mPins z 20 = 0))) (h2 : mTick z 5 ≤ z 5) : ft (F + 1) z n t q = ft F (mTick z) n (t + 1) (q + 1) := (if_neg h).trans (if_pos h2)
theorem ft_s {F : Nat} {z : Nat → Int} {n t q : Nat} (h : ¬ (64 ≤ n ∨ 2000 ≤ q ∨ (z 3 = 0 ∧ mPins z 20 = 0))) (h2 : ¬ mTick z 5 ≤ z 5) : ft (F + 1) z n t q = ((mSong (mTick z), ((t + 1 : Nat) : Int)) :: (ft F (mTick z) (n + 1) (t + 1) 0).1, (ft F (mTick z) (n + 1) (t + 1) 0).2) := (if_neg h).trans (if_neg h2)
theorem ft_len : ∀ (F : Nat) (z : Nat → Int) (n t q : Nat), n ≤ 64 → n + (ft F z n t q).1.length ≤ 64
  | 0, _, n, _, _, h => by simp [ft]; exact h
  | F + 1, z, n, t, q, h => by
    by_cases c : 64 ≤ n ∨ 2000 ≤ q ∨ (z 3 = 0 ∧ mPins z 20 = 0)
    · rw [ft_x c]; simpa using h
    · by_cases c2 : mTick z 5 ≤ z 5
      · rw [ft_n c c2]; exact ft_len F _ n _ _ h
      · rw [ft_s c c2]
        have := ft_len F (mTick z) (n + 1) (t + 1) 0 (by omega)
        simp only [List.length_cons]
        omega
theorem ft_t : ∀ (F : Nat) (z : Nat → Int) (n t q : Nat), (ft F z n t q).2 ≤ t + F
  | 0, _, n, _, _ => by simp [ft]
  | F + 1, z, n, t, q => by
    by_cases c : 64 ≤ n ∨ 2000 ≤ q ∨ (z 3 = 0 ∧ mPins z 20 = 0)
    · rw [ft_x c]; simp
    · by_cases c2 : mTick z 5 ≤ z 5
      · rw [ft_n c c2]; have := ft_t F (mTick z) n (t + 1) (q + 1); omega
      · rw [ft_s c c2]; have := ft_t F (mTick z) (n + 1) (t + 1) 0; simp only; omega
abbrev mf (a : Nat) (fr : List Value) (z sp : Nat → Int) (n : Nat) (sa ba : Nat → Int) (dn : Int) (R : AW) : AW := .inr (6, .ref (a + 1) :: .ref (a + 2) :: .int (iI (n : Int)) :: .ref (a + 3) :: .ref (a + 4) :: .int (iI dn) :: fr) :: aI 0 154 z :: aI 0 154 sp :: aI 0 64 sa :: aI 0 64 ba :: R
set_option maxRecDepth 100000 in
set_option maxHeartbeats 4000000 in
theorem l_keep2 {P : AW} {a : Nat} (hP : P.length = a) (fr : List Value) (z g : Nat → Int) (R : AW) {Z : Zt} (hx : EX I_X6_keep 0 0 none Z 24 [some (.ref (a + 0)), some (.ref (a + 2)), some (.int (iI ((154 : Nat) : Int)))] [] (P ++ (.inr (6, .ref (a + 1) :: fr) :: aI 0 154 (z) :: aI 0 154 (z) :: R)) 0 0) : ∀ (r s : Nat), s + r = 154 → EX I_X6_keep 0 0 none Z 2 [some (.ref (a + 0)), some (.ref (a + 2)), some (.int (iI ((s : Nat) : Int)))] [] (P ++ (.inr (6, .ref (a + 1) :: fr) :: aI 0 154 (z) :: aI 0 154 (cpyI z g s) :: R)) 0 0 := by
  intro r
  induction r with
  | zero =>
    intro s hs
    have hs' : s = 154 := by omega
    subst hs'
    refine x_iload_n dX6_keep_2 rfl ?_
    refine x_sipush dX6_keep_3 ?_
    refine x_icmp_ge 24 dX6_keep_6 (fun h6 => ?_) (fun h6 => by exfalso; omega)
    refine x_ext 2 hP rfl (g := z) (fun j hj => if_pos hj) ?_
    exact hx
  | succ r ih =>
    intro s hs
    refine x_iload_n dX6_keep_2 rfl ?_
    refine x_sipush dX6_keep_3 ?_
    refine x_icmp_ge 24 dX6_keep_6 (fun h6 => by exfalso; omega) (fun h6 => ?_)
    refine x_aload_n dX6_keep_9 rfl ?_
    refine x_iload_n dX6_keep_10 rfl ?_
    refine x_aload_n dX6_keep_11 rfl ?_
    refine x_getfield 0 dX6_keep_12 fg_X6_7 hP rfl rfl ?_
    refine x_iload_n dX6_keep_15 rfl ?_
    refine x_iaload 1 (s) dX6_keep_16 hP rfl ?_
    refine x_iastore 2 (s) dX6_keep_17 hP rfl ?_
    refine x_eqw (w' := P ++ (.inr (6, .ref (a + 1) :: fr) :: aI 0 154 (z) :: aI 0 154 (cpyI z g (s + 1)) :: R)) (by rw [← cpyI_s]; rfl) ?_
    refine x_inc2 dX6_keep_18 ?_
    refine x_goto 2 dX6_keep_21 ?_
    exact ih (s + 1) (by omega)
set_option maxRecDepth 100000 in
set_option maxHeartbeats 4000000 in
theorem c_keep2 {P : AW} {a : Nat} (hP : P.length = a) (fr : List Value) (z g : Nat → Int) (R : AW) : CTv I_X6_keep 0 0 [.ref (a + 0), .ref (a + 2)] (P ++ (.inr (6, .ref (a + 1) :: fr) :: aI 0 154 (z) :: aI 0 154 (g) :: R)) (fun w' => w' = P ++ (.inr (6, .ref (a + 1) :: fr) :: aI 0 154 (z) :: aI 0 154 (z) :: R)) := by
  refine CT_of 1 rfl (Nat.le_of_ble_eq_true rfl) ?_
  show EX I_X6_keep 0 0 none _ 0 [some (.ref (a + 0)), some (.ref (a + 2)), none] [] _ 0 0
  refine x_iconst dX6_keep_0 ?_
  refine x_ist2 dX6_keep_1 ?_
  refine x_eqw (w' := P ++ (.inr (6, .ref (a + 1) :: fr) :: aI 0 154 (z) :: aI 0 154 (cpyI z g 0) :: R)) (by rw [cpyI_0]) (l_keep2 hP fr z g  R ?_ 154 0 rfl)
  exact x_vret dX6_keep_24 (rfl)
set_option maxRecDepth 100000 in
set_option maxHeartbeats 4000000 in
theorem l_bring2 {P : AW} {a : Nat} (hP : P.length = a) (fr : List Value) (z g : Nat → Int) (R : AW) {Z : Zt} (hx : EX I_X6_bring 0 0 none Z 24 [some (.ref (a + 0)), some (.ref (a + 2)), some (.int (iI ((154 : Nat) : Int)))] [] (P ++ (.inr (6, .ref (a + 1) :: fr) :: aI 0 154 (g) :: aI 0 154 (g) :: R)) 0 0) : ∀ (r s : Nat), s + r = 154 → EX I_X6_bring 0 0 none Z 2 [some (.ref (a + 0)), some (.ref (a + 2)), some (.int (iI ((s : Nat) : Int)))] [] (P ++ (.inr (6, .ref (a + 1) :: fr) :: aI 0 154 (cpyI g z s) :: aI 0 154 (g) :: R)) 0 0 := by
  intro r
  induction r with
  | zero =>
    intro s hs
    have hs' : s = 154 := by omega
    subst hs'
    refine x_iload_n dX6_bring_2 rfl ?_
    refine x_sipush dX6_bring_3 ?_
    refine x_icmp_ge 24 dX6_bring_6 (fun h6 => ?_) (fun h6 => by exfalso; omega)
    refine x_ext 1 hP rfl (g := g) (fun j hj => if_pos hj) ?_
    exact hx
  | succ r ih =>
    intro s hs
    refine x_iload_n dX6_bring_2 rfl ?_
    refine x_sipush dX6_bring_3 ?_
    refine x_icmp_ge 24 dX6_bring_6 (fun h6 => by exfalso; omega) (fun h6 => ?_)
    refine x_aload_n dX6_bring_9 rfl ?_
    refine x_getfield 0 dX6_bring_10 fg_X6_7 hP rfl rfl ?_
    refine x_iload_n dX6_bring_13 rfl ?_
    refine x_aload_n dX6_bring_14 rfl ?_
    refine x_iload_n dX6_bring_15 rfl ?_
    refine x_iaload 2 (s) dX6_bring_16 hP rfl ?_
    refine x_iastore 1 (s) dX6_bring_17 hP rfl ?_
    refine x_eqw (w' := P ++ (.inr (6, .ref (a + 1) :: fr) :: aI 0 154 (cpyI g z (s + 1)) :: aI 0 154 (g) :: R)) (by rw [← cpyI_s]; rfl) ?_
    refine x_inc2 dX6_bring_18 ?_
    refine x_goto 2 dX6_bring_21 ?_
    exact ih (s + 1) (by omega)
set_option maxRecDepth 100000 in
set_option maxHeartbeats 4000000 in
theorem c_bring2 {P : AW} {a : Nat} (hP : P.length = a) (fr : List Value) (z g : Nat → Int) (R : AW) : CTv I_X6_bring 0 0 [.ref (a + 0), .ref (a + 2)] (P ++ (.inr (6, .ref (a + 1) :: fr) :: aI 0 154 (z) :: aI 0 154 (g) :: R)) (fun w' => w' = P ++ (.inr (6, .ref (a + 1) :: fr) :: aI 0 154 (g) :: aI 0 154 (g) :: R)) := by
  refine CT_of 1 rfl (Nat.le_of_ble_eq_true rfl) ?_
  show EX I_X6_bring 0 0 none _ 0 [some (.ref (a + 0)), some (.ref (a + 2)), none] [] _ 0 0
  refine x_iconst dX6_bring_0 ?_
  refine x_ist2 dX6_bring_1 ?_
  refine x_eqw (w' := P ++ (.inr (6, .ref (a + 1) :: fr) :: aI 0 154 (cpyI g z 0) :: aI 0 154 (g) :: R)) (by rw [cpyI_0]) (l_bring2 hP fr z g  R ?_ 154 0 rfl)
  exact x_vret dX6_bring_24 (rfl)
set_option maxRecDepth 100000 in
set_option maxHeartbeats 4000000 in
theorem l_keep8 {P : AW} {a : Nat} (hP : P.length = a) (fr : List Value) (z g : Nat → Int) (c2 c3 c4 c5 c6 c7 : AC) (R : AW) {Z : Zt} (hx : EX I_X6_keep 0 0 none Z 24 [some (.ref (a + 0)), some (.ref (a + 8)), some (.int (iI ((154 : Nat) : Int)))] [] (P ++ (.inr (6, .ref (a + 1) :: fr) :: aI 0 154 (z) :: c2 :: c3 :: c4 :: c5 :: c6 :: c7 :: aI 0 154 (z) :: R)) 0 0) : ∀ (r s : Nat), s + r = 154 → EX I_X6_keep 0 0 none Z 2 [some (.ref (a + 0)), some (.ref (a + 8)), some (.int (iI ((s : Nat) : Int)))] [] (P ++ (.inr (6, .ref (a + 1) :: fr) :: aI 0 154 (z) :: c2 :: c3 :: c4 :: c5 :: c6 :: c7 :: aI 0 154 (cpyI z g s) :: R)) 0 0 := by
  intro r
  induction r with
  | zero =>
    intro s hs
    have hs' : s = 154 := by omega
    subst hs'
    refine x_iload_n dX6_keep_2 rfl ?_
    refine x_sipush dX6_keep_3 ?_
    refine x_icmp_ge 24 dX6_keep_6 (fun h6 => ?_) (fun h6 => by exfalso; omega)
    refine x_ext 8 hP rfl (g := z) (fun j hj => if_pos hj) ?_
    exact hx
  | succ r ih =>
    intro s hs
    refine x_iload_n dX6_keep_2 rfl ?_
    refine x_sipush dX6_keep_3 ?_
    refine x_icmp_ge 24 dX6_keep_6 (fun h6 => by exfalso; omega) (fun h6 => ?_)
    refine x_aload_n dX6_keep_9 rfl ?_
    refine x_iload_n dX6_keep_10 rfl ?_
    refine x_aload_n dX6_keep_11 rfl ?_
    refine x_getfield 0 dX6_keep_12 fg_X6_7 hP rfl rfl ?_
    refine x_iload_n dX6_keep_15 rfl ?_
    refine x_iaload 1 (s) dX6_keep_16 hP rfl ?_
    refine x_iastore 8 (s) dX6_keep_17 hP rfl ?_
    refine x_eqw (w' := P ++ (.inr (6, .ref (a + 1) :: fr) :: aI 0 154 (z) :: c2 :: c3 :: c4 :: c5 :: c6 :: c7 :: aI 0 154 (cpyI z g (s + 1)) :: R)) (by rw [← cpyI_s]; rfl) ?_
    refine x_inc2 dX6_keep_18 ?_
    refine x_goto 2 dX6_keep_21 ?_
    exact ih (s + 1) (by omega)
set_option maxRecDepth 100000 in
set_option maxHeartbeats 4000000 in
theorem c_keep8 {P : AW} {a : Nat} (hP : P.length = a) (fr : List Value) (z g : Nat → Int) (c2 c3 c4 c5 c6 c7 : AC) (R : AW) : CTv I_X6_keep 0 0 [.ref (a + 0), .ref (a + 8)] (P ++ (.inr (6, .ref (a + 1) :: fr) :: aI 0 154 (z) :: c2 :: c3 :: c4 :: c5 :: c6 :: c7 :: aI 0 154 (g) :: R)) (fun w' => w' = P ++ (.inr (6, .ref (a + 1) :: fr) :: aI 0 154 (z) :: c2 :: c3 :: c4 :: c5 :: c6 :: c7 :: aI 0 154 (z) :: R)) := by
  refine CT_of 1 rfl (Nat.le_of_ble_eq_true rfl) ?_
  show EX I_X6_keep 0 0 none _ 0 [some (.ref (a + 0)), some (.ref (a + 8)), none] [] _ 0 0
  refine x_iconst dX6_keep_0 ?_
  refine x_ist2 dX6_keep_1 ?_
  refine x_eqw (w' := P ++ (.inr (6, .ref (a + 1) :: fr) :: aI 0 154 (z) :: c2 :: c3 :: c4 :: c5 :: c6 :: c7 :: aI 0 154 (cpyI z g 0) :: R)) (by rw [cpyI_0]) (l_keep8 hP fr z g c2 c3 c4 c5 c6 c7 R ?_ 154 0 rfl)
  exact x_vret dX6_keep_24 (rfl)
set_option maxRecDepth 100000 in
set_option maxHeartbeats 4000000 in
theorem l_bring8 {P : AW} {a : Nat} (hP : P.length = a) (fr : List Value) (z g : Nat → Int) (c2 c3 c4 c5 c6 c7 : AC) (R : AW) {Z : Zt} (hx : EX I_X6_bring 0 0 none Z 24 [some (.ref (a + 0)), some (.ref (a + 8)), some (.int (iI ((154 : Nat) : Int)))] [] (P ++ (.inr (6, .ref (a + 1) :: fr) :: aI 0 154 (g) :: c2 :: c3 :: c4 :: c5 :: c6 :: c7 :: aI 0 154 (g) :: R)) 0 0) : ∀ (r s : Nat), s + r = 154 → EX I_X6_bring 0 0 none Z 2 [some (.ref (a + 0)), some (.ref (a + 8)), some (.int (iI ((s : Nat) : Int)))] [] (P ++ (.inr (6, .ref (a + 1) :: fr) :: aI 0 154 (cpyI g z s) :: c2 :: c3 :: c4 :: c5 :: c6 :: c7 :: aI 0 154 (g) :: R)) 0 0 := by
  intro r
  induction r with
  | zero =>
    intro s hs
    have hs' : s = 154 := by omega
    subst hs'
    refine x_iload_n dX6_bring_2 rfl ?_
    refine x_sipush dX6_bring_3 ?_
    refine x_icmp_ge 24 dX6_bring_6 (fun h6 => ?_) (fun h6 => by exfalso; omega)
    refine x_ext 1 hP rfl (g := g) (fun j hj => if_pos hj) ?_
    exact hx
  | succ r ih =>
    intro s hs
    refine x_iload_n dX6_bring_2 rfl ?_
    refine x_sipush dX6_bring_3 ?_
    refine x_icmp_ge 24 dX6_bring_6 (fun h6 => by exfalso; omega) (fun h6 => ?_)
    refine x_aload_n dX6_bring_9 rfl ?_
    refine x_getfield 0 dX6_bring_10 fg_X6_7 hP rfl rfl ?_
    refine x_iload_n dX6_bring_13 rfl ?_
    refine x_aload_n dX6_bring_14 rfl ?_
    refine x_iload_n dX6_bring_15 rfl ?_
    refine x_iaload 8 (s) dX6_bring_16 hP rfl ?_
    refine x_iastore 1 (s) dX6_bring_17 hP rfl ?_
    refine x_eqw (w' := P ++ (.inr (6, .ref (a + 1) :: fr) :: aI 0 154 (cpyI g z (s + 1)) :: c2 :: c3 :: c4 :: c5 :: c6 :: c7 :: aI 0 154 (g) :: R)) (by rw [← cpyI_s]; rfl) ?_
    refine x_inc2 dX6_bring_18 ?_
    refine x_goto 2 dX6_bring_21 ?_
    exact ih (s + 1) (by omega)
set_option maxRecDepth 100000 in
set_option maxHeartbeats 4000000 in
theorem c_bring8 {P : AW} {a : Nat} (hP : P.length = a) (fr : List Value) (z g : Nat → Int) (c2 c3 c4 c5 c6 c7 : AC) (R : AW) : CTv I_X6_bring 0 0 [.ref (a + 0), .ref (a + 8)] (P ++ (.inr (6, .ref (a + 1) :: fr) :: aI 0 154 (z) :: c2 :: c3 :: c4 :: c5 :: c6 :: c7 :: aI 0 154 (g) :: R)) (fun w' => w' = P ++ (.inr (6, .ref (a + 1) :: fr) :: aI 0 154 (g) :: c2 :: c3 :: c4 :: c5 :: c6 :: c7 :: aI 0 154 (g) :: R)) := by
  refine CT_of 1 rfl (Nat.le_of_ble_eq_true rfl) ?_
  show EX I_X6_bring 0 0 none _ 0 [some (.ref (a + 0)), some (.ref (a + 8)), none] [] _ 0 0
  refine x_iconst dX6_bring_0 ?_
  refine x_ist2 dX6_bring_1 ?_
  refine x_eqw (w' := P ++ (.inr (6, .ref (a + 1) :: fr) :: aI 0 154 (cpyI g z 0) :: c2 :: c3 :: c4 :: c5 :: c6 :: c7 :: aI 0 154 (g) :: R)) (by rw [cpyI_0]) (l_bring8 hP fr z g c2 c3 c4 c5 c6 c7 R ?_ 154 0 rfl)
  exact x_vret dX6_bring_24 (rfl)
set_option maxRecDepth 100000 in
set_option maxHeartbeats 4000000 in
theorem l_ft {P : AW} {a : Nat} (hP : P.length = a) (fr : List Value) (sp : Nat → Int) (dn : Int) (R : AW) {Z : Zt} : ∀ (F : Nat) (z : Nat → Int) (n t q : Nat) (sa ba : Nat → Int) (l3 : Option Value), ZA z → z 0 + F ≤ 2000000000 → n ≤ 64 → q ≤ 2000 → (64 - n) * 2001 + (2000 - q) < F → t + F ≤ 2000000000 →
    (∀ (z' : Nat → Int) (q' : Int) (l3' : Option Value), EX I_X6_foretell 0 0 none Z 114 [some (.ref (a + 0)), some (.int (iI ((ft F z n t q).2 : Int))), some (.int (iI q')), l3'] [] (P ++ mf a fr z' sp (n + (ft F z n t q).1.length) (wr sa n ((ft F z n t q).1.map Prod.fst)) (wr ba n ((ft F z n t q).1.map Prod.snd)) dn R) 0 0) →
    EX I_X6_foretell 0 0 none Z 17 [some (.ref (a + 0)), some (.int (iI (t : Int))), some (.int (iI (q : Int))), l3] [] (P ++ mf a fr z sp n sa ba dn R) 0 0 := by
  intro F
  induction F with
  | zero => intro z n t q sa ba l3 hA h0 hn hq hF; exact absurd hF (by omega)
  | succ F ih =>
    intro z n t q sa ba l3 hA h0 hn hq hF ht hx
    have hpR := mPins_R hA.2.1.2.2.2.2.2.2.1
    have hA2 := ZA_tick hA (by omega)
    have h05 := tick_05 hA.2.1 hA.2.2.1
    refine x_aload_n dX6_foretell_17 rfl ?_
    refine x_getfield 0 dX6_foretell_18 fg_X6_113 hP rfl rfl ?_
    refine x_bipush dX6_foretell_21 ?_
    refine x_icmp_ge 114 dX6_foretell_23 (fun h23 => ?_) (fun h23 => ?_)
    · have e1 := ft_x (F := F) (z := z) (n := n) (t := t) (q := q) (by omega)
      rw [e1] at hx
      exact hx z _ _
    · refine x_iload_n dX6_foretell_26 rfl ?_
      refine x_sipush dX6_foretell_27 ?_
      refine x_icmp_ge 114 dX6_foretell_30 (fun h30 => ?_) (fun h30 => ?_)
      · have e1 := ft_x (F := F) (z := z) (n := n) (t := t) (q := q) (by omega)
        rw [e1] at hx
        exact hx z _ _
      · refine x_aload_n dX6_foretell_33 rfl ?_
        refine x_getfield 0 dX6_foretell_34 fg_X6_7 hP rfl rfl ?_
        refine x_iconst dX6_foretell_37 ?_
        refine x_iaload 1 (3) dX6_foretell_38 hP rfl ?_
        refine x_if_ne 49 dX6_foretell_39 (fun h39 => ?_) (fun h39 => ?_) (ha := hA.1 _)
        · refine x_aload_n dX6_foretell_49 rfl ?_
          refine x_getfield 0 dX6_foretell_50 fg_X6_7 hP rfl rfl ?_
          refine x_iconst dX6_foretell_53 ?_
          refine x_iaload 1 (5) dX6_foretell_54 hP rfl ?_
          refine x_ist3 dX6_foretell_55 ?_
          refine x_aload_n dX6_foretell_56 rfl ?_
          refine x_callvV dX6_foretell_57 mk_X6_tick ml_X6_104 (c_tick hP _ z _ hA.1 hA.2.1 hA.2.2.1 (ZA_B hA (by omega))) ((wg_app hP 0).trans rfl) rfl (fun w57 h57 => ?_)
          subst h57
          refine x_inc1 dX6_foretell_60 ?_
          refine x_inc2 dX6_foretell_63 ?_
          refine x_aload_n dX6_foretell_66 rfl ?_
          refine x_getfield 0 dX6_foretell_67 fg_X6_7 hP rfl rfl ?_
          refine x_iconst dX6_foretell_70 ?_
          refine x_iaload 1 (5) dX6_foretell_71 hP rfl ?_
          refine x_iload_n dX6_foretell_72 rfl ?_
          refine x_icmp_le 111 dX6_foretell_73 (fun h73 => ?_) (fun h73 => ?_) (ha := hA2.1 _) (hb := hA.1 _)
          · refine x_goto 17 dX6_foretell_111 ?_
            have e1 := ft_n (F := F) (z := z) (n := n) (t := t) (q := q) (by omega) h73
            rw [e1] at hx
            exact ih (mTick z) n (t + 1) (q + 1) sa ba _ hA2 (by omega) (by omega) (by omega) (by omega) (by omega) hx
          · refine x_aload_n dX6_foretell_76 rfl ?_
            refine x_getfield 0 dX6_foretell_77 fg_X6_16 hP rfl rfl ?_
            refine x_aload_n dX6_foretell_80 rfl ?_
            refine x_getfield 0 dX6_foretell_81 fg_X6_113 hP rfl rfl ?_
            refine x_aload_n dX6_foretell_84 rfl ?_
            refine x_calliV dX6_foretell_85 mk_X6_songHere ml_X6_89 (c_songHere hP _ (mTick z) _ hA2.1) ((wg_app hP 0).trans rfl) rfl (fun x85 w85 h85 => ?_)
            obtain ⟨rfl, rfl⟩ := h85
            refine x_iastore 3 (n) dX6_foretell_88 hP rfl ?_
            refine x_aload_n dX6_foretell_89 rfl ?_
            refine x_getfield 0 dX6_foretell_90 fg_X6_19 hP rfl rfl ?_
            refine x_aload_n dX6_foretell_93 rfl ?_
            refine x_getfield 0 dX6_foretell_94 fg_X6_113 hP rfl rfl ?_
            refine x_iload_n dX6_foretell_97 rfl ?_
            refine x_iastore 4 (n) dX6_foretell_98 hP rfl ?_
            refine x_aload_n dX6_foretell_99 rfl ?_
            refine x_dup dX6_foretell_100 ?_
            refine x_getfield 0 dX6_foretell_101 fg_X6_113 hP rfl rfl ?_
            refine x_iconst dX6_foretell_104 ?_
            refine x_iadd dX6_foretell_105 ?_
            refine x_putfield 0 dX6_foretell_106 fl_X6_113 hP rfl (fun _ _ => ⟨rfl, rfl⟩) ?_
            refine x_iconst dX6_foretell_109 ?_
            refine x_ist2 dX6_foretell_110 ?_
            refine x_goto 17 dX6_foretell_111 ?_
            have e1 := ft_s (F := F) (z := z) (n := n) (t := t) (q := q) (by omega) h73
            rw [e1] at hx
            simp only [List.length_cons, List.map_cons, wr] at hx
            rw [show n + ((ft F (mTick z) (n + 1) (t + 1) 0).1.length + 1) = n + 1 + (ft F (mTick z) (n + 1) (t + 1) 0).1.length by omega] at hx
            exact ih (mTick z) (n + 1) (t + 1) 0 _ _ _ hA2 (by omega) (by omega) (by omega) (by omega) (by omega) hx
        · refine x_aload_n dX6_foretell_42 rfl ?_
          refine x_calliV dX6_foretell_43 mk_X6_pinsIn ml_X6_82 (c_pinsIn hP _ z _) ((wg_app hP 0).trans rfl) rfl (fun x43 w43 h43 => ?_)
          obtain ⟨rfl, rfl⟩ := h43
          refine x_if_eq 114 dX6_foretell_46 (fun h46 => ?_) (fun h46 => ?_) (ha := hpR)
          · have e1 := ft_x (F := F) (z := z) (n := n) (t := t) (q := q) (by omega)
            rw [e1] at hx
            exact hx z _ _
          · refine x_aload_n dX6_foretell_49 rfl ?_
            refine x_getfield 0 dX6_foretell_50 fg_X6_7 hP rfl rfl ?_
            refine x_iconst dX6_foretell_53 ?_
            refine x_iaload 1 (5) dX6_foretell_54 hP rfl ?_
            refine x_ist3 dX6_foretell_55 ?_
            refine x_aload_n dX6_foretell_56 rfl ?_
            refine x_callvV dX6_foretell_57 mk_X6_tick ml_X6_104 (c_tick hP _ z _ hA.1 hA.2.1 hA.2.2.1 (ZA_B hA (by omega))) ((wg_app hP 0).trans rfl) rfl (fun w57 h57 => ?_)
            subst h57
            refine x_inc1 dX6_foretell_60 ?_
            refine x_inc2 dX6_foretell_63 ?_
            refine x_aload_n dX6_foretell_66 rfl ?_
            refine x_getfield 0 dX6_foretell_67 fg_X6_7 hP rfl rfl ?_
            refine x_iconst dX6_foretell_70 ?_
            refine x_iaload 1 (5) dX6_foretell_71 hP rfl ?_
            refine x_iload_n dX6_foretell_72 rfl ?_
            refine x_icmp_le 111 dX6_foretell_73 (fun h73 => ?_) (fun h73 => ?_) (ha := hA2.1 _) (hb := hA.1 _)
            · refine x_goto 17 dX6_foretell_111 ?_
              have e1 := ft_n (F := F) (z := z) (n := n) (t := t) (q := q) (by omega) h73
              rw [e1] at hx
              exact ih (mTick z) n (t + 1) (q + 1) sa ba _ hA2 (by omega) (by omega) (by omega) (by omega) (by omega) hx
            · refine x_aload_n dX6_foretell_76 rfl ?_
              refine x_getfield 0 dX6_foretell_77 fg_X6_16 hP rfl rfl ?_
              refine x_aload_n dX6_foretell_80 rfl ?_
              refine x_getfield 0 dX6_foretell_81 fg_X6_113 hP rfl rfl ?_
              refine x_aload_n dX6_foretell_84 rfl ?_
              refine x_calliV dX6_foretell_85 mk_X6_songHere ml_X6_89 (c_songHere hP _ (mTick z) _ hA2.1) ((wg_app hP 0).trans rfl) rfl (fun x85 w85 h85 => ?_)
              obtain ⟨rfl, rfl⟩ := h85
              refine x_iastore 3 (n) dX6_foretell_88 hP rfl ?_
              refine x_aload_n dX6_foretell_89 rfl ?_
              refine x_getfield 0 dX6_foretell_90 fg_X6_19 hP rfl rfl ?_
              refine x_aload_n dX6_foretell_93 rfl ?_
              refine x_getfield 0 dX6_foretell_94 fg_X6_113 hP rfl rfl ?_
              refine x_iload_n dX6_foretell_97 rfl ?_
              refine x_iastore 4 (n) dX6_foretell_98 hP rfl ?_
              refine x_aload_n dX6_foretell_99 rfl ?_
              refine x_dup dX6_foretell_100 ?_
              refine x_getfield 0 dX6_foretell_101 fg_X6_113 hP rfl rfl ?_
              refine x_iconst dX6_foretell_104 ?_
              refine x_iadd dX6_foretell_105 ?_
              refine x_putfield 0 dX6_foretell_106 fl_X6_113 hP rfl (fun _ _ => ⟨rfl, rfl⟩) ?_
              refine x_iconst dX6_foretell_109 ?_
              refine x_ist2 dX6_foretell_110 ?_
              refine x_goto 17 dX6_foretell_111 ?_
              have e1 := ft_s (F := F) (z := z) (n := n) (t := t) (q := q) (by omega) h73
              rw [e1] at hx
              simp only [List.length_cons, List.map_cons, wr] at hx
              rw [show n + ((ft F (mTick z) (n + 1) (t + 1) 0).1.length + 1) = n + 1 + (ft F (mTick z) (n + 1) (t + 1) 0).1.length by omega] at hx
              exact ih (mTick z) (n + 1) (t + 1) 0 _ _ _ hA2 (by omega) (by omega) (by omega) (by omega) (by omega) hx
set_option maxRecDepth 100000 in
set_option maxHeartbeats 4000000 in
theorem c_foretell {P : AW} {a : Nat} (hP : P.length = a) (fr : List Value) (z sp : Nat → Int) (n0 : Nat) (sa ba : Nat → Int) (dn : Int) (R : AW) (hA : ZA z) (hz0 : z 0 ≤ 1000000) : CTv I_X6_foretell 0 0 [.ref (a + 0)] (P ++ mf a fr z sp n0 sa ba dn R) (fun w' => w' = P ++ mf a fr z z (mFt z).1.length (wr sa 0 ((mFt z).1.map Prod.fst)) (wr ba 0 ((mFt z).1.map Prod.snd)) ((mFt z).2 : Int) R) := by
  refine CT_of 3 rfl (Nat.le_of_ble_eq_true rfl) ?_
  show EX I_X6_foretell 0 0 none _ 0 [some (.ref (a + 0)), none, none, none] [] _ 0 0
  refine x_aload_n dX6_foretell_0 rfl ?_
  refine x_aload_n dX6_foretell_1 rfl ?_
  refine x_getfield 0 dX6_foretell_2 fg_X6_13 hP rfl rfl ?_
  refine x_callvV dX6_foretell_5 mk_X6_keep ml_X6_109 (c_keep2 hP _ z sp _) ((wg_app hP 0).trans rfl) rfl (fun w5 h5 => ?_)
  subst h5
  refine x_aload_n dX6_foretell_8 rfl ?_
  refine x_iconst dX6_foretell_9 ?_
  refine x_putfield 0 dX6_foretell_10 fl_X6_113 hP rfl (fun _ _ => ⟨rfl, rfl⟩) ?_
  refine x_iconst dX6_foretell_13 ?_
  refine x_ist1 dX6_foretell_14 ?_
  refine x_iconst dX6_foretell_15 ?_
  refine x_ist2 dX6_foretell_16 ?_
  refine l_ft hP fr z dn R 130065 z 0 0 0 sa ba none hA (by omega) (by omega) (by omega) (by omega) (by omega) (fun z' q' l3' => ?_)
  refine x_aload_n dX6_foretell_114 rfl ?_
  refine x_iload_n dX6_foretell_115 rfl ?_
  refine x_putfield 0 dX6_foretell_116 fl_X6_117 hP rfl (fun _ _ => ⟨rfl, rfl⟩) ?_
  refine x_aload_n dX6_foretell_119 rfl ?_
  refine x_aload_n dX6_foretell_120 rfl ?_
  refine x_getfield 0 dX6_foretell_121 fg_X6_13 hP rfl rfl ?_
  refine x_callvV dX6_foretell_124 mk_X6_bring ml_X6_120 (c_bring2 hP _ z' z _) ((wg_app hP 0).trans rfl) rfl (fun w124 h124 => ?_)
  subst h124
  exact x_vret dX6_foretell_127 (by rw [Nat.zero_add]; rfl)
end
section
/-! ===== next, when, done, better ===== -/
theorem mFt_len (z : Nat → Int) : (mFt z).1.length ≤ 64 := by
  have := ft_len 130065 z 0 0 0 (by omega)
  unfold mFt
  omega
theorem mFt_t (z : Nat → Int) : (mFt z).2 ≤ 130065 := by
  have := ft_t 130065 z 0 0 0
  unfold mFt
  omega
def rNext (z : Nat → Int) (i : Int) : Int := if 0 ≤ i ∧ i ≤ 63 then (if ((mFt z).1.length : Int) ≤ i then -4 else ((mFt z).1.getD i.toNat (0, 0)).1) else -1
theorem wr_fst (l : List (Int × Int)) (f : Nat → Int) (i : Nat) (h : i < l.length) : wr f 0 (l.map Prod.fst) i = (l.getD i (0, 0)).1 := by
  have := wr_get (l.map Prod.fst) f 0 i (l.getD i (0, 0)).1 (by simp [List.getD, h])
  rw [Nat.zero_add] at this
  exact this
theorem wr_snd (l : List (Int × Int)) (f : Nat → Int) (i : Nat) (h : i < l.length) : wr f 0 (l.map Prod.snd) i = (l.getD i (0, 0)).2 := by
  have := wr_get (l.map Prod.snd) f 0 i (l.getD i (0, 0)).2 (by simp [List.getD, h])
  rw [Nat.zero_add] at this
  exact this
def fnd (s : Int) : List (Int × Int) → Int
  | [] => -4
  | q :: l => if q.1 = s then q.2 else fnd s l
def rWhen (z : Nat → Int) (s : Int) : Int := if 0 ≤ s ∧ s ≤ 19 then fnd s (mFt z).1 else -1
theorem drop_getD (l : List (Int × Int)) (i : Nat) (h : i < l.length) : l.drop i = l.getD i (0, 0) :: l.drop (i + 1) := by
  rw [List.drop_eq_getElem_cons h]
  simp [List.getD, h]
def mStk (z : Nat → Int) : Nat → Int
  | 0 => 0
  | n + 1 => if ¬ mStk z n = 0 ∨ z (50 + n) = 1 then 1 else 0
theorem mStk_b (z : Nat → Int) : ∀ n, mStk z n = 0 ∨ mStk z n = 1
  | 0 => Or.inl rfl
  | n + 1 => by unfold mStk; split <;> omega
def rDone (z : Nat → Int) : Int := if mStk z 20 = 0 then ((mFt z).2 : Int) else -2
/-- songs are songs -/
theorem ft_song : ∀ (F : Nat) (z : Nat → Int) (n t q : Nat), ZA z → z 0 + F ≤ 2000000000 → ∀ x ∈ (ft F z n t q).1, inR x.1
  | 0, _, _, _, _, _, _ => by simp [ft]
  | F + 1, z, n, t, q, hA, h0 => by
    have hA2 := ZA_tick hA (by omega)
    have h05 := tick_05 hA.2.1 hA.2.2.1
    by_cases c : 64 ≤ n ∨ 2000 ≤ q ∨ (z 3 = 0 ∧ mPins z 20 = 0)
    · rw [ft_x c]; simp
    · by_cases c2 : mTick z 5 ≤ z 5
      · rw [ft_n c c2]; exact ft_song F _ n _ _ hA2 (by omega)
      · rw [ft_s c c2]
        intro x hx
        rcases List.mem_cons.mp hx with rfl | hx
        · have := mSong_b hA2.2.1.1.1 hA2.2.1.1.2
          exact ⟨by simp only; omega, by simp only; omega⟩
        · exact ft_song F _ _ _ _ hA2 (by omega) x hx
theorem mFt_song {z : Nat → Int} (hA : ZA z) (h0 : z 0 ≤ 1000000) (i : Nat) (hi : i < (mFt z).1.length) : inR ((mFt z).1.getD i (0, 0)).1 := by
  refine ft_song 130065 z 0 0 0 hA (by omega) _ ?_
  show (mFt z).1.getD i (0, 0) ∈ (mFt z).1
  simp [List.getD, hi]
set_option maxRecDepth 100000 in
set_option maxHeartbeats 4000000 in
theorem c_next {P : AW} {a : Nat} (hP : P.length = a) (fr : List Value) (z sp : Nat → Int) (n0 : Nat) (sa ba : Nat → Int) (dn : Int) (R : AW) (hA : ZA z) (hz0 : z 0 ≤ 1000000) (i : Int) (hii : inR i) : CTi I_X6_next 0 0 [.ref (a + 0), .int (iI i)] (P ++ mf a fr z sp n0 sa ba dn R) (fun x w' => x = rNext z i ∧ (if 0 ≤ i ∧ i ≤ 63 then P ++ mf a fr z z (mFt z).1.length (wr sa 0 ((mFt z).1.map Prod.fst)) (wr ba 0 ((mFt z).1.map Prod.snd)) ((mFt z).2 : Int) R else P ++ mf a fr z sp n0 sa ba dn R) = w') := by
  have hlen := mFt_len z
  have hmt := mFt_t z
  refine CT_of 0 rfl (Nat.le_of_ble_eq_true rfl) ?_
  show EX I_X6_next 0 0 none _ 0 [some (.ref (a + 0)), some (.int (iI i))] [] _ 0 0
  refine x_iload_n dX6_next_0 rfl ?_
  refine x_i2l dX6_next_1 ?_
  refine x_lconst dX6_next_2 ?_
  refine x_ldc2 dX6_next_3 kl_X6_123 ?_
  refine x_calliS dX6_next_6 mk_X6_in ml_X6_43 (c_in _ i 0 63 hii (by decide) (by decide)) rfl (fun x6 w6 h6 => ?_)
  obtain ⟨hb6, rfl⟩ := h6
  by_cases c6 : 0 ≤ i ∧ i ≤ 63
  · rw [if_pos c6] at hb6
    subst hb6
    refine x_if_ne 14 dX6_next_9 (fun h9 => ?_) (fun h9 => absurd h9 (by decide))
    refine x_aload_n dX6_next_14 rfl ?_
    refine x_callvV dX6_next_15 mk_X6_foretell ml_X6_125 (c_foretell hP fr z sp n0 sa ba dn R hA hz0) ((wg_app hP 0).trans rfl) rfl (fun w15 h15 => ?_)
    subst h15
    refine x_iload_n dX6_next_18 rfl ?_
    refine x_aload_n dX6_next_19 rfl ?_
    refine x_getfield 0 dX6_next_20 fg_X6_113 hP rfl rfl ?_
    refine x_icmp_ge 35 dX6_next_23 (fun h23 => ?_) (fun h23 => ?_)
    · refine x_bipush dX6_next_35 ?_
      exact x_iret dX6_next_37 (⟨by unfold rNext; rw [if_pos (by omega), if_pos (by omega)], if_pos c6⟩)
    · refine x_aload_n dX6_next_26 rfl ?_
      refine x_getfield 0 dX6_next_27 fg_X6_16 hP rfl rfl ?_
      refine x_iload_n dX6_next_30 rfl ?_
      refine x_iaload 3 (i.toNat) dX6_next_31 hP rfl ?_
      refine x_goto 37 dX6_next_32 ?_
      exact x_iret dX6_next_37 (⟨by unfold rNext; rw [if_pos (by omega), if_neg (by omega)]; exact wr_fst _ _ _ (by omega), if_pos c6⟩)
  · rw [if_neg c6] at hb6
    subst hb6
    refine x_if_ne 14 dX6_next_9 (fun h9 => absurd h9 (by decide)) (fun h9 => ?_)
    refine x_iconst dX6_next_12 ?_
    exact x_iret dX6_next_13 (⟨by unfold rNext; rw [if_neg (by omega)], if_neg c6⟩)
set_option maxRecDepth 100000 in
set_option maxHeartbeats 4000000 in
theorem l_when {P : AW} {a : Nat} (hP : P.length = a) (fr : List Value) (z : Nat → Int) (sa ba : Nat → Int) (R : AW) (hA : ZA z) (hz0 : z 0 ≤ 1000000) (s : Int) (his : inR s) {Q : Int → AW → Prop} : ∀ (r i : Nat), i + r = (mFt z).1.length → Q (fnd s ((mFt z).1.drop i)) (P ++ mf a fr z z (mFt z).1.length (wr sa 0 ((mFt z).1.map Prod.fst)) (wr ba 0 ((mFt z).1.map Prod.snd)) ((mFt z).2 : Int) R) → EX I_X6_when 0 0 none (ZM 0 0 (fun r w' => ∃ x : Int, r = some (.int (iI x)) ∧ Q x w')) 15 [some (.ref (a + 0)), some (.int (iI s)), some (.int (iI ((i : Nat) : Int)))] [] (P ++ mf a fr z z (mFt z).1.length (wr sa 0 ((mFt z).1.map Prod.fst)) (wr ba 0 ((mFt z).1.map Prod.snd)) ((mFt z).2 : Int) R) 0 0 := by
  have hlen := mFt_len z
  intro r
  induction r with
  | zero =>
    intro i hs hq
    have hs' : i = (mFt z).1.length := by omega
    subst hs'
    refine x_iload_n dX6_when_15 rfl ?_
    refine x_aload_n dX6_when_16 rfl ?_
    refine x_getfield 0 dX6_when_17 fg_X6_113 hP rfl rfl ?_
    refine x_icmp_ge 46 dX6_when_20 (fun h20 => ?_) (fun h20 => by exfalso; omega)
    have e1 : fnd s ((mFt z).1.drop (mFt z).1.length) = -4 := by rw [List.drop_length]; rfl
    rw [e1] at hq
    refine x_bipush dX6_when_46 ?_
    exact x_iret dX6_when_48 hq
  | succ r ih =>
    intro i hs hq
    refine x_iload_n dX6_when_15 rfl ?_
    refine x_aload_n dX6_when_16 rfl ?_
    refine x_getfield 0 dX6_when_17 fg_X6_113 hP rfl rfl ?_
    refine x_icmp_ge 46 dX6_when_20 (fun h20 => by exfalso; omega) (fun h20 => ?_)
    refine x_aload_n dX6_when_23 rfl ?_
    refine x_getfield 0 dX6_when_24 fg_X6_16 hP rfl rfl ?_
    refine x_iload_n dX6_when_27 rfl ?_
    refine x_iaload 3 (i) dX6_when_28 hP rfl ?_
    have e1 := wr_fst (mFt z).1 sa i (by omega)
    refine x_top e1 ?_
    have hsg := mFt_song hA hz0 i (by omega)
    refine x_iload_n dX6_when_29 rfl ?_
    refine x_icmp_ne 40 dX6_when_30 (fun h30 => ?_) (fun h30 => ?_) (ha := hsg) (hb := his)
    · refine x_inc2 dX6_when_40 ?_
      refine x_goto 15 dX6_when_43 ?_
      have e2 : fnd s ((mFt z).1.drop i) = fnd s ((mFt z).1.drop (i + 1)) := by rw [drop_getD _ i (by omega)]; exact if_neg h30
      rw [e2] at hq
      exact ih (i + 1) (by omega) hq
    · refine x_aload_n dX6_when_33 rfl ?_
      refine x_getfield 0 dX6_when_34 fg_X6_19 hP rfl rfl ?_
      refine x_iload_n dX6_when_37 rfl ?_
      refine x_iaload 4 (i) dX6_when_38 hP rfl ?_
      exact x_iret dX6_when_39 (by rw [wr_snd (mFt z).1 ba i (by omega), ← show fnd s ((mFt z).1.drop i) = ((mFt z).1.getD i (0, 0)).2 from (by rw [drop_getD _ i (by omega)]; exact if_pos h30)]; exact hq)
set_option maxRecDepth 100000 in
set_option maxHeartbeats 4000000 in
theorem c_when {P : AW} {a : Nat} (hP : P.length = a) (fr : List Value) (z sp : Nat → Int) (n0 : Nat) (sa ba : Nat → Int) (dn : Int) (R : AW) (hA : ZA z) (hz0 : z 0 ≤ 1000000) (s : Int) (his : inR s) : CTi I_X6_when 0 0 [.ref (a + 0), .int (iI s)] (P ++ mf a fr z sp n0 sa ba dn R) (fun x w' => x = rWhen z s ∧ (if 0 ≤ s ∧ s ≤ 19 then P ++ mf a fr z z (mFt z).1.length (wr sa 0 ((mFt z).1.map Prod.fst)) (wr ba 0 ((mFt z).1.map Prod.snd)) ((mFt z).2 : Int) R else P ++ mf a fr z sp n0 sa ba dn R) = w') := by
  have hlen := mFt_len z
  have hmt := mFt_t z
  refine CT_of 1 rfl (Nat.le_of_ble_eq_true rfl) ?_
  show EX I_X6_when 0 0 none _ 0 [some (.ref (a + 0)), some (.int (iI s)), none] [] _ 0 0
  refine x_iload_n dX6_when_0 rfl ?_
  refine x_calliS dX6_when_1 mk_X6_isSong ml_X6_67 (c_isSong _ s his) rfl (fun x1 w1 h1 => ?_)
  obtain ⟨hb1, rfl⟩ := h1
  by_cases c1 : 0 ≤ s ∧ s ≤ 19
  · rw [if_pos c1] at hb1
    subst hb1
    refine x_if_ne 9 dX6_when_4 (fun h4 => ?_) (fun h4 => absurd h4 (by decide))
    refine x_aload_n dX6_when_9 rfl ?_
    refine x_callvV dX6_when_10 mk_X6_foretell ml_X6_125 (c_foretell hP fr z sp n0 sa ba dn R hA hz0) ((wg_app hP 0).trans rfl) rfl (fun w10 h10 => ?_)
    subst h10
    refine x_iconst dX6_when_13 ?_
    refine x_ist2 dX6_when_14 ?_
    exact l_when hP fr z sa ba R hA hz0 s his (mFt z).1.length 0 (by omega) ⟨by unfold rWhen; rw [if_pos c1]; rfl, if_pos c1⟩
  · rw [if_neg c1] at hb1
    subst hb1
    refine x_if_ne 9 dX6_when_4 (fun h4 => absurd h4 (by decide)) (fun h4 => ?_)
    refine x_iconst dX6_when_7 ?_
    exact x_iret dX6_when_8 (⟨by unfold rWhen; rw [if_neg c1], if_neg c1⟩)
set_option maxRecDepth 100000 in
set_option maxHeartbeats 4000000 in
theorem l_stk {P : AW} {a : Nat} (hP : P.length = a) (fr : List Value) (z : Nat → Int) (R : AW) (hR : ∀ i, inR (z i)) {Z : Zt} (hx : EX I_X6_isStuckIn 0 0 none Z 39 [some (.ref (a + 0)), some (.int (iI (mStk z 20))), some (.int (iI ((20 : Nat) : Int)))] [] (P ++ mz a fr z R) 0 0) : ∀ (r s : Nat), s + r = 20 → EX I_X6_isStuckIn 0 0 none Z 4 [some (.ref (a + 0)), some (.int (iI (mStk z s))), some (.int (iI ((s : Nat) : Int)))] [] (P ++ mz a fr z R) 0 0 := by
  intro r
  induction r with
  | zero =>
    intro s hs
    have hs' : s = 20 := by omega
    subst hs'
    refine x_iload_n dX6_isStuckIn_4 rfl ?_
    refine x_bipush dX6_isStuckIn_5 ?_
    refine x_icmp_ge 39 dX6_isStuckIn_7 (fun h7 => ?_) (fun h7 => by exfalso; omega)
    exact hx
  | succ r ih =>
    intro s hs
    have hb := mStk_b z s
    refine x_iload_n dX6_isStuckIn_4 rfl ?_
    refine x_bipush dX6_isStuckIn_5 ?_
    refine x_icmp_ge 39 dX6_isStuckIn_7 (fun h7 => by exfalso; omega) (fun h7 => ?_)
    refine x_iload_n dX6_isStuckIn_10 rfl ?_
    refine x_if_ne 27 dX6_isStuckIn_11 (fun h11 => ?_) (fun h11 => ?_)
    · refine x_iconst dX6_isStuckIn_27 ?_
      refine x_goto 32 dX6_isStuckIn_28 ?_
      refine x_ist1 dX6_isStuckIn_32 ?_
      refine x_inc2 dX6_isStuckIn_33 ?_
      refine x_goto 4 dX6_isStuckIn_36 ?_
      have hq : mStk z (s + 1) = 1 := by simp only [mStk]; (first | exact if_pos (by omega) | exact if_neg (by omega))
      have := ih (s + 1) (by omega)
      rw [hq] at this
      exact this
    · refine x_aload_n dX6_isStuckIn_14 rfl ?_
      refine x_getfield 0 dX6_isStuckIn_15 fg_X6_7 hP rfl rfl ?_
      refine x_bipush dX6_isStuckIn_18 ?_
      refine x_iload_n dX6_isStuckIn_20 rfl ?_
      refine x_iadd dX6_isStuckIn_21 ?_
      refine x_iaload 1 (50 + s) dX6_isStuckIn_22 hP rfl ?_
      refine x_iconst dX6_isStuckIn_23 ?_
      refine x_icmp_ne 31 dX6_isStuckIn_24 (fun h24 => ?_) (fun h24 => ?_) (ha := hR _)
      · refine x_iconst dX6_isStuckIn_31 ?_
        refine x_ist1 dX6_isStuckIn_32 ?_
        refine x_inc2 dX6_isStuckIn_33 ?_
        refine x_goto 4 dX6_isStuckIn_36 ?_
        have hq : mStk z (s + 1) = 0 := by simp only [mStk]; (first | exact if_pos (by omega) | exact if_neg (by omega))
        have := ih (s + 1) (by omega)
        rw [hq] at this
        exact this
      · refine x_iconst dX6_isStuckIn_27 ?_
        refine x_goto 32 dX6_isStuckIn_28 ?_
        refine x_ist1 dX6_isStuckIn_32 ?_
        refine x_inc2 dX6_isStuckIn_33 ?_
        refine x_goto 4 dX6_isStuckIn_36 ?_
        have hq : mStk z (s + 1) = 1 := by simp only [mStk]; (first | exact if_pos (by omega) | exact if_neg (by omega))
        have := ih (s + 1) (by omega)
        rw [hq] at this
        exact this
set_option maxRecDepth 100000 in
set_option maxHeartbeats 4000000 in
theorem c_isStuckIn {P : AW} {a : Nat} (hP : P.length = a) (fr : List Value) (z : Nat → Int) (R : AW) (hR : ∀ i, inR (z i)) : CTi I_X6_isStuckIn 0 0 [.ref (a + 0)] (P ++ mz a fr z R) (fun x w' => x = mStk z 20 ∧ w' = P ++ mz a fr z R) := by
  refine CT_of 2 rfl (Nat.le_of_ble_eq_true rfl) ?_
  show EX I_X6_isStuckIn 0 0 none _ 0 [some (.ref (a + 0)), none, none] [] _ 0 0
  refine x_iconst dX6_isStuckIn_0 ?_
  refine x_ist1 dX6_isStuckIn_1 ?_
  refine x_iconst dX6_isStuckIn_2 ?_
  refine x_ist2 dX6_isStuckIn_3 ?_
  refine l_stk hP fr z R hR ?_ 20 0 rfl
  refine x_iload_n dX6_isStuckIn_39 rfl ?_
  exact x_zret dX6_isStuckIn_40 (mStk_b z 20) ⟨rfl, rfl⟩
set_option maxRecDepth 100000 in
set_option maxHeartbeats 4000000 in
theorem c_done {P : AW} {a : Nat} (hP : P.length = a) (fr : List Value) (z sp : Nat → Int) (n0 : Nat) (sa ba : Nat → Int) (dn : Int) (R : AW) (hA : ZA z) (hz0 : z 0 ≤ 1000000) : CTi I_X6_done 0 0 [.ref (a + 0)] (P ++ mf a fr z sp n0 sa ba dn R) (fun x w' => x = rDone z ∧ (if mStk z 20 = 0 then P ++ mf a fr z z (mFt z).1.length (wr sa 0 ((mFt z).1.map Prod.fst)) (wr ba 0 ((mFt z).1.map Prod.snd)) ((mFt z).2 : Int) R else P ++ mf a fr z sp n0 sa ba dn R) = w') := by
  have hlen := mFt_len z
  have hmt := mFt_t z
  have hsb := mStk_b z 20
  refine CT_of 0 rfl (Nat.le_of_ble_eq_true rfl) ?_
  show EX I_X6_done 0 0 none _ 0 [some (.ref (a + 0))] [] _ 0 0
  refine x_aload_n dX6_done_0 rfl ?_
  refine x_calliV dX6_done_1 mk_X6_isStuckIn ml_X6_128 (c_isStuckIn hP _ z _ hA.1) ((wg_app hP 0).trans rfl) rfl (fun x1 w1 h1 => ?_)
  obtain ⟨rfl, rfl⟩ := h1
  refine x_if_eq 10 dX6_done_4 (fun h4 => ?_) (fun h4 => ?_)
  · refine x_aload_n dX6_done_10 rfl ?_
    refine x_callvV dX6_done_11 mk_X6_foretell ml_X6_125 (c_foretell hP fr z sp n0 sa ba dn R hA hz0) ((wg_app hP 0).trans rfl) rfl (fun w11 h11 => ?_)
    subst h11
    refine x_aload_n dX6_done_14 rfl ?_
    refine x_getfield 0 dX6_done_15 fg_X6_117 hP rfl rfl ?_
    exact x_iret dX6_done_18 (⟨by unfold rDone; rw [if_pos h4], if_pos h4⟩)
  · refine x_bipush dX6_done_7 ?_
    exact x_iret dX6_done_9 (⟨by unfold rDone; rw [if_neg h4], if_neg h4⟩)
end
section
/-! ===== better ===== -/
def swp (z : Nat → Int) (p q : Nat) : Nat → Int := updI (updI z (20 + p) (z (20 + q))) (20 + q) (z (20 + p))
theorem swp_p {z : Nat → Int} {p q : Nat} (h : p < q) : swp z p q (20 + p) = z (20 + q) := (updI_n (by omega)).trans (updI_e _ _ _)
theorem swp_q (z : Nat → Int) (p q : Nat) : swp z p q (20 + q) = z (20 + p) := updI_e _ _ _
theorem swp_n {z : Nat → Int} {p q i : Nat} (h1 : ¬ i = 20 + p) (h2 : ¬ i = 20 + q) : swp z p q i = z i := (updI_n h2).trans (updI_n h1)
theorem swp_back {z : Nat → Int} {p q : Nat} (h : p < q) : updI (updI (swp z p q) (20 + q) (swp z p q (20 + p))) (20 + p) (z (20 + p)) = z := by
  funext i
  by_cases h1 : i = 20 + p
  · subst h1; exact updI_e _ _ _
  · rw [updI_n h1]
    by_cases h2 : i = 20 + q
    · subst h2; rw [updI_e]; exact swp_p h
    · rw [updI_n h2]; exact swp_n h1 h2
theorem ZA_swp {z : Nat → Int} {p q : Nat} (hA : ZA z) (h : p < q) (hq : q < 10) (h1 : ¬ (z 1 = (p : Int) ∧ 3 ≤ z 3)) (h2 : ¬ (z 1 = (q : Int) ∧ 3 ≤ z 3)) : ZA (swp z p q) := by
  obtain ⟨hR, hc, hd, h5⟩ := hA
  obtain ⟨g1, g2, g3, g4, g5, g6, g7, g8, g9, g10, g11, g12, g13, g14⟩ := hc
  obtain ⟨d1, d2, d3, d4, d5, d6, d7⟩ := hd
  have e : ∀ i, ¬ (20 ≤ i ∧ i < 30) → swp z p q i = z i := fun i hi => swp_n (by omega) (by omega)
  -- each place holds what some place held
  have f : ∀ i, i < 10 → ∃ j, j < 10 ∧ swp z p q (20 + i) = z (20 + j) ∧ (i = p → j = q) ∧ (i = q → j = p) ∧ (¬ i = p → ¬ i = q → j = i) := by
    intro i hi
    by_cases c1 : i = p
    · subst c1; exact ⟨q, hq, swp_p h, fun _ => rfl, fun k => absurd k (by omega), fun k => absurd rfl k⟩
    · by_cases c2 : i = q
      · subst c2; exact ⟨p, by omega, swp_q z p i, fun k => absurd k c1, fun _ => rfl, fun _ k => absurd rfl k⟩
      · exact ⟨i, hi, swp_n (by omega) (by omega), fun k => absurd k c1, fun k => absurd k c2, fun _ _ => rfl⟩
  refine ⟨inR_upd (inR_upd hR (hR _)) (hR _), ⟨by rw [e 1 (by omega)]; exact g1, by rw [e 2 (by omega)]; exact g2, by rw [e 15 (by omega)]; exact g3, by rw [e 16 (by omega)]; exact g4, fun i hi => ?_, fun i j hij hj he => ?_, fun s hs => by rw [e _ (by omega)]; exact g7 s hs, fun s hs => by rw [e _ (by omega)]; exact g8 s hs, fun s hs he => ?_, fun s hs he => ?_, fun s hs => by rw [e _ (by omega)]; exact g11 s hs, fun s hs => by rw [e _ (by omega)]; exact g12 s hs, fun r hr => ?_, fun s hs => by rw [e _ (by omega)]; exact g14 s hs⟩, ⟨by rw [e 3 (by omega)]; exact d1, by rw [e 4 (by omega)]; exact d2, by rw [e 3 (by omega), e 4 (by omega)]; exact d3, by rw [e 3 (by omega), e 4 (by omega)]; exact d4, ?_, by rw [e 3 (by omega), e 1 (by omega), e 2 (by omega)]; exact d6, by rw [e 3 (by omega), e 1 (by omega), e 2 (by omega)]; exact d7⟩, by rw [e 5 (by omega), e 0 (by omega), e 6 (by omega)]; exact h5⟩
  · obtain ⟨j, hj, ej, -⟩ := f i hi
    rw [ej, e 16 (by omega)]
    exact g5 j hj
  · obtain ⟨i', hi', ei, a1, a2, a3⟩ := f i (by omega)
    obtain ⟨j', hj', ej, b1, b2, b3⟩ := f j hj
    rw [ei, ej] at he
    rw [ei]
    have hne : ¬ i' = j' := by omega
    rcases Nat.lt_or_gt_of_ne hne with hlt | hlt
    · exact g6 i' j' hlt hj' he
    · rw [he]; exact g6 j' i' hlt hi' he.symm
  · rw [e _ (by omega)] at he ⊢; exact g9 s hs he
  · rw [e _ (by omega)] at he ⊢; exact g10 s hs he
  · rw [e 16 (by omega)] at hr; rw [e _ (by omega)]; exact g13 r hr
  · rw [e 3 (by omega), e 1 (by omega)]
    intro h3
    rw [swp_n (by omega) (by omega)]
    exact d5 h3
def mDn (z : Nat → Int) : Int := ((mFt z).2 : Int)
def btS (z : Nat → Int) (p q : Nat) (s : Int × Int × Int) : Int × Int × Int :=
  if z 1 = (p : Int) ∧ 3 ≤ z 3 then s else if z 1 = (q : Int) ∧ 3 ≤ z 3 then s else if s.1 ≤ mDn (swp z p q) then s else (mDn (swp z p q), (p : Int), (q : Int))
def btF (z : Nat → Int) (p : Nat) : Nat → Nat → Int × Int × Int → Int × Int × Int
  | 0, _, s => s
  | r + 1, q, s => btF z p r (q + 1) (btS z p q s)
def btG (z : Nat → Int) : Nat → Nat → Int × Int × Int → Int × Int × Int
  | 0, _, s => s
  | r + 1, p, s => btG z r (p + 1) (btF z p (9 - p) (p + 1) s)
def btOk (s : Int × Int × Int) : Prop := (0 ≤ s.1 ∧ s.1 ≤ 130065) ∧ (-4 ≤ s.2.1 ∧ s.2.1 ≤ 9) ∧ (-4 ≤ s.2.2 ∧ s.2.2 ≤ 9)
theorem mDn_b (z : Nat → Int) : 0 ≤ mDn z ∧ mDn z ≤ 130065 := by
  have := mFt_t z
  unfold mDn
  omega
theorem btS_ok {z : Nat → Int} {p q : Nat} {s : Int × Int × Int} (h : btOk s) (hp : p < 10) (hq : q < 10) : btOk (btS z p q s) := by
  have := mDn_b (swp z p q)
  unfold btS
  (repeat' split)
  · exact h
  · exact h
  · exact h
  · exact ⟨this, ⟨by simp only; omega, by simp only; omega⟩, ⟨by simp only; omega, by simp only; omega⟩⟩
theorem btF_ok {z : Nat → Int} {p : Nat} (hp : p < 10) : ∀ (r q : Nat) (s : Int × Int × Int), q + r ≤ 10 → btOk s → btOk (btF z p r q s)
  | 0, _, _, _, h => h
  | r + 1, q, s, hq, h => btF_ok hp r (q + 1) _ (by omega) (btS_ok h hp (by omega))
theorem btG_ok {z : Nat → Int} : ∀ (r p : Nat) (s : Int × Int × Int), p + r ≤ 10 → btOk s → btOk (btG z r p s)
  | 0, _, _, _, h => h
  | r + 1, p, s, hp, h => btG_ok r (p + 1) _ (by omega) (btF_ok (by omega) (9 - p) (p + 1) s (by omega) h)
def mBt (z : Nat → Int) : Int × Int × Int := btG z 10 0 (mDn z, -4, -4)
def rBet (z : Nat → Int) (h : Int) : Int := if 0 ≤ h ∧ h ≤ 2 then (if mStk z 20 = 0 then (if 0 ≤ (mBt z).2.1 then (if h = 0 then (mBt z).2.1 else if h = 1 then (mBt z).2.2 else (mBt z).1) else -4) else -2) else -1
set_option maxRecDepth 100000 in
set_option maxHeartbeats 4000000 in
theorem l_btI {P : AW} {a : Nat} (hP : P.length = a) (fr : List Value) (z : Nat → Int) (R : AW) (hA : ZA z) (hz0 : z 0 ≤ 1000000) (h : Int) (p : Nat) (hp : p < 10) {Z : Zt} : ∀ (r q : Nat) (s : Int × Int × Int) (sp : Nat → Int) (n0 : Nat) (sa ba : Nat → Int) (dn : Int) (l7 : Option Value), p < q ∧ q + r = 10 → btOk s →
    (∀ (sp : Nat → Int) (n0 : Nat) (sa ba : Nat → Int) (dn : Int) (l7 : Option Value), EX I_X6_better 0 0 none Z 187 [some (.ref (a + 0)), some (.int (iI h)), some (.int (iI (btF z p r q s).1)), some (.int (iI (btF z p r q s).2.1)), some (.int (iI (btF z p r q s).2.2)), some (.int (iI (p : Int))), some (.int (iI ((10 : Nat) : Int))), l7] [] (P ++ mf a fr z sp n0 sa ba dn R) 0 0) →
    EX I_X6_better 0 0 none Z 56 [some (.ref (a + 0)), some (.int (iI h)), some (.int (iI (s).1)), some (.int (iI (s).2.1)), some (.int (iI (s).2.2)), some (.int (iI (p : Int))), some (.int (iI (q : Int))), l7] [] (P ++ mf a fr z sp n0 sa ba dn R) 0 0 := by
  intro r
  induction r with
  | zero =>
    intro q s sp n0 sa ba dn l7 hq hs hx
    have hs' : q = 10 := by omega
    subst hs'
    refine x_iload dX6_better_56 rfl ?_
    refine x_bipush dX6_better_58 ?_
    refine x_icmp_ge 187 dX6_better_60 (fun h60 => ?_) (fun h60 => by exfalso; omega)
    exact hx sp n0 sa ba dn l7
  | succ r ih =>
    intro q s sp n0 sa ba dn l7 hq hs hx
    have hb0 := hs.1
    have hb1 := mDn_b (swp z p q)
    refine x_iload dX6_better_56 rfl ?_
    refine x_bipush dX6_better_58 ?_
    refine x_icmp_ge 187 dX6_better_60 (fun h60 => by exfalso; omega) (fun h60 => ?_)
    refine x_aload_n dX6_better_63 rfl ?_
    refine x_iload dX6_better_64 rfl ?_
    refine x_calliV dX6_better_66 mk_X6_isOut ml_X6_64 (c_isOut hP _ z _ hA.1 (p : Int) (by omega)) ((wg_app hP 0).trans rfl) rfl (fun x66 w66 h66 => ?_)
    obtain ⟨hb66, rfl⟩ := h66
    by_cases c66 : z 1 = (p : Int) ∧ 3 ≤ z 3
    · rw [if_pos c66] at hb66
      subst hb66
      refine x_if_ne 181 dX6_better_69 (fun h69 => ?_) (fun h69 => absurd h69 (by decide))
      refine x_inc6 dX6_better_181 ?_
      refine x_goto 56 dX6_better_184 ?_
      have e1 : btS z p q s = _ := if_pos c66
      have hk := btS_ok (z := z) hs (p := p) (q := q) (by omega) (by omega)
      rw [e1] at hk
      refine ih (q + 1) _ _ _ _ _ _ _ (by omega) hk (fun sp n0 sa ba dn l7 => ?_)
      have hx := hx sp n0 sa ba dn l7
      simp only [btF] at hx
      rw [e1] at hx
      exact hx
    · rw [if_neg c66] at hb66
      subst hb66
      refine x_if_ne 181 dX6_better_69 (fun h69 => absurd h69 (by decide)) (fun h69 => ?_)
      refine x_aload_n dX6_better_72 rfl ?_
      refine x_iload dX6_better_73 rfl ?_
      refine x_calliV dX6_better_75 mk_X6_isOut ml_X6_64 (c_isOut hP _ z _ hA.1 (q : Int) (by omega)) ((wg_app hP 0).trans rfl) rfl (fun x75 w75 h75 => ?_)
      obtain ⟨hb75, rfl⟩ := h75
      by_cases c75 : z 1 = (q : Int) ∧ 3 ≤ z 3
      · rw [if_pos c75] at hb75
        subst hb75
        refine x_if_ne 181 dX6_better_78 (fun h78 => ?_) (fun h78 => absurd h78 (by decide))
        refine x_inc6 dX6_better_181 ?_
        refine x_goto 56 dX6_better_184 ?_
        have e1 : btS z p q s = _ := (if_neg c66).trans (if_pos c75)
        have hk := btS_ok (z := z) hs (p := p) (q := q) (by omega) (by omega)
        rw [e1] at hk
        refine ih (q + 1) _ _ _ _ _ _ _ (by omega) hk (fun sp n0 sa ba dn l7 => ?_)
        have hx := hx sp n0 sa ba dn l7
        simp only [btF] at hx
        rw [e1] at hx
        exact hx
      · rw [if_neg c75] at hb75
        subst hb75
        refine x_if_ne 181 dX6_better_78 (fun h78 => absurd h78 (by decide)) (fun h78 => ?_)
        refine x_aload_n dX6_better_81 rfl ?_
        refine x_getfield 0 dX6_better_82 fg_X6_7 hP rfl rfl ?_
        refine x_bipush dX6_better_85 ?_
        refine x_iload dX6_better_87 rfl ?_
        refine x_iadd dX6_better_89 ?_
        refine x_iaload 1 (20 + p) dX6_better_90 hP rfl ?_
        refine x_ist7 dX6_better_91 ?_
        refine x_aload_n dX6_better_93 rfl ?_
        refine x_getfield 0 dX6_better_94 fg_X6_7 hP rfl rfl ?_
        refine x_bipush dX6_better_97 ?_
        refine x_iload dX6_better_99 rfl ?_
        refine x_iadd dX6_better_101 ?_
        refine x_aload_n dX6_better_102 rfl ?_
        refine x_getfield 0 dX6_better_103 fg_X6_7 hP rfl rfl ?_
        refine x_bipush dX6_better_106 ?_
        refine x_iload dX6_better_108 rfl ?_
        refine x_iadd dX6_better_110 ?_
        refine x_iaload 1 (20 + q) dX6_better_111 hP rfl ?_
        refine x_iastore 1 (20 + p) dX6_better_112 hP rfl ?_
        refine x_aload_n dX6_better_113 rfl ?_
        refine x_getfield 0 dX6_better_114 fg_X6_7 hP rfl rfl ?_
        refine x_bipush dX6_better_117 ?_
        refine x_iload dX6_better_119 rfl ?_
        refine x_iadd dX6_better_121 ?_
        refine x_iload dX6_better_122 rfl ?_
        refine x_iastore 1 (20 + q) dX6_better_124 hP rfl ?_
        refine x_aload_n dX6_better_125 rfl ?_
        refine x_callvV dX6_better_126 mk_X6_foretell ml_X6_125 (c_foretell hP fr (swp z p q) sp n0 sa ba dn R (ZA_swp hA (by omega) (by omega) c66 c75) (by rw [swp_n (by omega) (by omega)]; exact hz0)) ((wg_app hP 0).trans rfl) rfl (fun w126 h126 => ?_)
        subst h126
        refine x_aload_n dX6_better_129 rfl ?_
        refine x_getfield 0 dX6_better_130 fg_X6_7 hP rfl rfl ?_
        refine x_bipush dX6_better_133 ?_
        refine x_iload dX6_better_135 rfl ?_
        refine x_iadd dX6_better_137 ?_
        refine x_aload_n dX6_better_138 rfl ?_
        refine x_getfield 0 dX6_better_139 fg_X6_7 hP rfl rfl ?_
        refine x_bipush dX6_better_142 ?_
        refine x_iload dX6_better_144 rfl ?_
        refine x_iadd dX6_better_146 ?_
        refine x_iaload 1 (20 + p) dX6_better_147 hP rfl ?_
        refine x_iastore 1 (20 + q) dX6_better_148 hP rfl ?_
        refine x_aload_n dX6_better_149 rfl ?_
        refine x_getfield 0 dX6_better_150 fg_X6_7 hP rfl rfl ?_
        refine x_bipush dX6_better_153 ?_
        refine x_iload dX6_better_155 rfl ?_
        refine x_iadd dX6_better_157 ?_
        refine x_iload dX6_better_158 rfl ?_
        refine x_iastore 1 (20 + p) dX6_better_160 hP rfl ?_
        refine x_eqw (w' := P ++ mf a fr z (swp z p q) (mFt (swp z p q)).1.length (wr sa 0 ((mFt (swp z p q)).1.map Prod.fst)) (wr ba 0 ((mFt (swp z p q)).1.map Prod.snd)) (mDn (swp z p q)) R) (congrArg (fun f => P ++ mf a fr f (swp z p q) (mFt (swp z p q)).1.length (wr sa 0 ((mFt (swp z p q)).1.map Prod.fst)) (wr ba 0 ((mFt (swp z p q)).1.map Prod.snd)) (mDn (swp z p q)) R) (swp_back (by omega))) ?_
        refine x_aload_n dX6_better_161 rfl ?_
        refine x_getfield 0 dX6_better_162 fg_X6_117 hP rfl rfl ?_
        refine x_iload_n dX6_better_165 rfl ?_
        refine x_icmp_ge 181 dX6_better_166 (fun h166 => ?_) (fun h166 => ?_)
        · refine x_inc6 dX6_better_181 ?_
          refine x_goto 56 dX6_better_184 ?_
          have e1 : btS z p q s = _ := ((if_neg c66).trans (if_neg c75)).trans (if_pos h166)
          have hk := btS_ok (z := z) hs (p := p) (q := q) (by omega) (by omega)
          rw [e1] at hk
          refine ih (q + 1) _ _ _ _ _ _ _ (by omega) hk (fun sp n0 sa ba dn l7 => ?_)
          have hx := hx sp n0 sa ba dn l7
          simp only [btF] at hx
          rw [e1] at hx
          exact hx
        · refine x_aload_n dX6_better_169 rfl ?_
          refine x_getfield 0 dX6_better_170 fg_X6_117 hP rfl rfl ?_
          refine x_ist2 dX6_better_173 ?_
          refine x_iload dX6_better_174 rfl ?_
          refine x_ist3 dX6_better_176 ?_
          refine x_iload dX6_better_177 rfl ?_
          refine x_ist4 dX6_better_179 ?_
          refine x_inc6 dX6_better_181 ?_
          refine x_goto 56 dX6_better_184 ?_
          have e1 : btS z p q s = _ := ((if_neg c66).trans (if_neg c75)).trans (if_neg h166)
          have hk := btS_ok (z := z) hs (p := p) (q := q) (by omega) (by omega)
          rw [e1] at hk
          refine ih (q + 1) _ _ _ _ _ _ _ (by omega) hk (fun sp n0 sa ba dn l7 => ?_)
          have hx := hx sp n0 sa ba dn l7
          simp only [btF] at hx
          rw [e1] at hx
          exact hx
set_option maxRecDepth 100000 in
set_option maxHeartbeats 4000000 in
theorem l_btO {P : AW} {a : Nat} (hP : P.length = a) (fr : List Value) (z : Nat → Int) (R : AW) (hA : ZA z) (hz0 : z 0 ≤ 1000000) (h : Int) {Z : Zt} : ∀ (r p : Nat) (s : Int × Int × Int) (sp : Nat → Int) (n0 : Nat) (sa ba : Nat → Int) (dn : Int) (l6 l7 : Option Value), p + r = 10 → btOk s →
    (∀ (sp : Nat → Int) (n0 : Nat) (sa ba : Nat → Int) (dn : Int) (l6 l7 : Option Value), EX I_X6_better 0 0 none Z 193 [some (.ref (a + 0)), some (.int (iI h)), some (.int (iI (btG z r p s).1)), some (.int (iI (btG z r p s).2.1)), some (.int (iI (btG z r p s).2.2)), some (.int (iI ((10 : Nat) : Int))), l6, l7] [] (P ++ mf a fr z sp n0 sa ba dn R) 0 0) →
    EX I_X6_better 0 0 none Z 43 [some (.ref (a + 0)), some (.int (iI h)), some (.int (iI (s).1)), some (.int (iI (s).2.1)), some (.int (iI (s).2.2)), some (.int (iI (p : Int))), l6, l7] [] (P ++ mf a fr z sp n0 sa ba dn R) 0 0 := by
  intro r
  induction r with
  | zero =>
    intro p s sp n0 sa ba dn l6 l7 hq hs hx
    have hs' : p = 10 := by omega
    subst hs'
    refine x_iload dX6_better_43 rfl ?_
    refine x_bipush dX6_better_45 ?_
    refine x_icmp_ge 193 dX6_better_47 (fun h47 => ?_) (fun h47 => by exfalso; omega)
    exact hx sp n0 sa ba dn l6 l7
  | succ r ih =>
    intro p s sp n0 sa ba dn l6 l7 hq hs hx
    refine x_iload dX6_better_43 rfl ?_
    refine x_bipush dX6_better_45 ?_
    refine x_icmp_ge 193 dX6_better_47 (fun h47 => by exfalso; omega) (fun h47 => ?_)
    refine x_iload dX6_better_50 rfl ?_
    refine x_iconst dX6_better_52 ?_
    refine x_iadd dX6_better_53 ?_
    refine x_ist6 dX6_better_54 ?_
    refine l_btI hP fr z R hA hz0 h p (by omega) (9 - p) (p + 1) s sp n0 sa ba dn l7 (by omega) hs (fun sp n0 sa ba dn l7 => ?_)
    refine x_inc5 dX6_better_187 ?_
    refine x_goto 43 dX6_better_190 ?_
    exact ih (p + 1) _ _ _ _ _ _ _ _ (by omega) (btF_ok (by omega) (9 - p) (p + 1) s (by omega) hs) hx
theorem x_eqls {mi : MI} {mc ms : Nat} {SC : Option (Nat × (Nat → Int32))} {Z : Zt} {pc : Nat} {ls ls' : List (Option Value)} {st : List Value} {w : AW} {k n : Nat} (h : ls = ls') (kk : EX mi mc ms SC Z pc ls' st w k n) : EX mi mc ms SC Z pc ls st w k n := h ▸ kk
set_option maxRecDepth 100000 in
set_option maxHeartbeats 4000000 in
theorem c_better {P : AW} {a : Nat} (hP : P.length = a) (fr : List Value) (z sp : Nat → Int) (n0 : Nat) (sa ba : Nat → Int) (dn : Int) (R : AW) (hA : ZA z) (hz0 : z 0 ≤ 1000000) (h : Int) (hih : inR h) : CTi I_X6_better 0 0 [.ref (a + 0), .int (iI h)] (P ++ mf a fr z sp n0 sa ba dn R) (fun x w' => x = rBet z h ∧ ∃ (sp : Nat → Int) (n0 : Nat) (sa ba : Nat → Int) (dn : Int), w' = P ++ mf a fr z sp n0 sa ba dn R) := by
  have hsb := mStk_b z 20
  refine CT_of 6 rfl (Nat.le_of_ble_eq_true rfl) ?_
  show EX I_X6_better 0 0 none _ 0 [some (.ref (a + 0)), some (.int (iI h)), none, none, none, none, none, none] [] _ 0 0
  refine x_iload_n dX6_better_0 rfl ?_
  refine x_i2l dX6_better_1 ?_
  refine x_lconst dX6_better_2 ?_
  refine x_ldc2 dX6_better_3 kl_X6_70 ?_
  refine x_calliS dX6_better_6 mk_X6_in ml_X6_43 (c_in _ h 0 2 hih (by decide) (by decide)) rfl (fun x6 w6 h6 => ?_)
  obtain ⟨hb6, rfl⟩ := h6
  by_cases c6 : 0 ≤ h ∧ h ≤ 2
  · rw [if_pos c6] at hb6
    subst hb6
    refine x_if_ne 14 dX6_better_9 (fun h9 => ?_) (fun h9 => absurd h9 (by decide))
    refine x_aload_n dX6_better_14 rfl ?_
    refine x_calliV dX6_better_15 mk_X6_isStuckIn ml_X6_128 (c_isStuckIn hP _ z _ hA.1) ((wg_app hP 0).trans rfl) rfl (fun x15 w15 h15 => ?_)
    obtain ⟨rfl, rfl⟩ := h15
    refine x_if_eq 24 dX6_better_18 (fun h18 => ?_) (fun h18 => ?_)
    · refine x_aload_n dX6_better_24 rfl ?_
      refine x_callvV dX6_better_25 mk_X6_foretell ml_X6_125 (c_foretell hP fr z sp n0 sa ba dn R hA hz0) ((wg_app hP 0).trans rfl) rfl (fun w25 h25 => ?_)
      subst h25
      refine x_aload_n dX6_better_28 rfl ?_
      refine x_getfield 0 dX6_better_29 fg_X6_117 hP rfl rfl ?_
      refine x_ist2 dX6_better_32 ?_
      refine x_bipush dX6_better_33 ?_
      refine x_ist3 dX6_better_35 ?_
      refine x_bipush dX6_better_36 ?_
      refine x_ist4 dX6_better_38 ?_
      refine x_iconst dX6_better_40 ?_
      refine x_ist5 dX6_better_41 ?_
      have hk : btOk (mDn z, -4, -4) := ⟨mDn_b z, (show (-4 : Int) ≤ -4 ∧ (-4 : Int) ≤ 9 from by decide), (show (-4 : Int) ≤ -4 ∧ (-4 : Int) ≤ 9 from by decide)⟩
      refine l_btO hP fr z R hA hz0 h 10 0 (mDn z, -4, -4) _ _ _ _ _ _ _ (by omega) hk (fun sp n0 sa ba dn l6 l7 => ?_)
      have hk2 := btG_ok (z := z) 10 0 _ (by omega) hk
      refine x_eqls (show _ = [some (.ref (a + 0)), some (.int (iI h)), some (.int (iI (mBt z).1)), some (.int (iI (mBt z).2.1)), some (.int (iI (mBt z).2.2)), some (.int (iI ((10 : Nat) : Int))), l6, l7] from rfl) ?_
      have hk2 : btOk (mBt z) := hk2
      obtain ⟨k1, k2, k3⟩ := id hk2
      refine x_iload_n dX6_better_193 rfl ?_
      refine x_if_ge 202 dX6_better_194 (fun h194 => ?_) (fun h194 => ?_)
      · refine x_iload_n dX6_better_202 rfl ?_
        refine x_if_ne 210 dX6_better_203 (fun h203 => ?_) (fun h203 => ?_)
        · refine x_iload_n dX6_better_210 rfl ?_
          refine x_iconst dX6_better_211 ?_
          refine x_icmp_ne 220 dX6_better_212 (fun h212 => ?_) (fun h212 => ?_)
          · refine x_iload_n dX6_better_220 rfl ?_
            exact x_iret dX6_better_221 (⟨by unfold rBet; (repeat' split) <;> first | rfl | omega | (exfalso; omega), _, _, _, _, _, rfl⟩)
          · refine x_iload dX6_better_215 rfl ?_
            refine x_goto 221 dX6_better_217 ?_
            exact x_iret dX6_better_221 (⟨by unfold rBet; (repeat' split) <;> first | rfl | omega | (exfalso; omega), _, _, _, _, _, rfl⟩)
        · refine x_iload_n dX6_better_206 rfl ?_
          refine x_goto 221 dX6_better_207 ?_
          exact x_iret dX6_better_221 (⟨by unfold rBet; (repeat' split) <;> first | rfl | omega | (exfalso; omega), _, _, _, _, _, rfl⟩)
      · refine x_bipush dX6_better_197 ?_
        refine x_goto 221 dX6_better_199 ?_
        exact x_iret dX6_better_221 (⟨by unfold rBet; (repeat' split) <;> first | rfl | omega | (exfalso; omega), _, _, _, _, _, rfl⟩)
    · refine x_bipush dX6_better_21 ?_
      exact x_iret dX6_better_23 (⟨by unfold rBet; (repeat' split) <;> first | rfl | omega | (exfalso; omega), _, _, _, _, _, rfl⟩)
  · rw [if_neg c6] at hb6
    subst hb6
    refine x_if_ne 14 dX6_better_9 (fun h9 => absurd h9 (by decide)) (fun h9 => ?_)
    refine x_iconst dX6_better_12 ?_
    exact x_iret dX6_better_13 (⟨by unfold rBet; (repeat' split) <;> first | rfl | omega | (exfalso; omega), _, _, _, _, _, rfl⟩)
end
section
/-! ===== the reference's sheets and wire ===== -/
abbrev mw (a : Nat) (z sp : Nat → Int) (n : Nat) (sa ba : Nat → Int) (dn ah be : Int) (tp : Nat → Int) (tl ta ac : Nat) (kd nb : Nat → Int) (ik : Int) (im ln rs it : Nat → Int) (R : AW) : AW :=
  .inr (6, [.ref (a + 1), .ref (a + 2), .int (iI (n : Int)), .ref (a + 3), .ref (a + 4), .int (iI dn), .int (iI ah), .int (iI be), .ref (a + 5), .int (iI (tl : Int)), .int (iI (ta : Int)), .int (iI (ac : Int)), .ref (a + 6), .ref (a + 7), .int (iI ik), .ref (a + 8), .ref (a + 9), .ref (a + 10), .ref (a + 11)]) ::
    aI 0 154 z :: aI 0 154 sp :: aI 0 64 sa :: aI 0 64 ba :: aI 0 80 tp :: aI 0 80 kd :: aI 0 80 nb :: aI 0 154 im :: aI 0 4 ln :: aI 0 4 rs :: aI 0 96 it :: R
def oSh (s l : Int) : Prop := 0 ≤ s ∧ s ≤ 3 ∧ 0 ≤ l ∧ l ≤ 2
def zit (it : Nat → Int) (o k : Nat) : Nat → Int := fun j => if o ≤ j ∧ j < o + k then 0 else it j
theorem zit_s (it : Nat → Int) (o k : Nat) : updI (zit it o k) (o + k) 0 = zit it o (k + 1) := by
  funext j
  simp only [updI, zit]
  by_cases h : j = o + k
  · rw [if_pos h, if_pos (by omega)]
  · rw [if_neg h]
    by_cases h2 : o ≤ j ∧ j < o + k
    · rw [if_pos h2, if_pos (by omega)]
    · rw [if_neg h2, if_neg (by omega)]
theorem zit_0 (it : Nat → Int) (o : Nat) : zit it o 0 = it := by
  funext j
  simp only [zit]
  rw [if_neg (by omega)]
def rSh (s l n : Int) : Int := if 0 ≤ s ∧ s ≤ 3 ∧ 0 ≤ l ∧ l ≤ 2 ∧ n ≤ 24 then (if 0 ≤ n then n else -14) else -1
def kSh (s l n : Int) : Prop := 0 ≤ s ∧ s ≤ 3 ∧ 0 ≤ l ∧ l ≤ 2 ∧ 0 ≤ n ∧ n ≤ 24
def rDrop (ln rs : Nat → Int) (s : Int) : Int := if 0 ≤ s ∧ s ≤ 3 then (if 0 ≤ ln s.toNat then rs s.toNat else -11) else -1
def sDrop (ln : Nat → Int) (s : Int) : Nat → Int := if (0 ≤ s ∧ s ≤ 3) ∧ 0 ≤ ln s.toNat then updI ln s.toNat (-1) else ln
def rLack (ln rs : Nat → Int) (s l f m : Int) : Int := if ln s.toNat = l then (if 0 ≤ f ∧ f ≤ rs s.toNat - m then 0 else -13) else (if 0 ≤ ln s.toNat then -12 else -11)
def sx8 (v : Int) : Int := (iI v).toInt8.toInt
def sx16 (v : Int) : Int := (iI v).toInt16.toInt
theorem sx8_R (v : Int) : -128 ≤ sx8 v ∧ sx8 v ≤ 127 := by
  have h1 := Int8.le_toInt (iI v).toInt8
  have h2 := Int8.toInt_lt (iI v).toInt8
  unfold sx8
  omega
theorem sx16_R (v : Int) : -32768 ≤ sx16 v ∧ sx16 v ≤ 32767 := by
  have h1 := Int16.le_toInt (iI v).toInt16
  have h2 := Int16.toInt_lt (iI v).toInt16
  unfold sx16
  omega
theorem sx8_i (v : Int) : (iI v).toInt8.toInt32 = iI (sx8 v) := by
  apply Int32.toInt_inj.mp
  rw [Int8.toInt_toInt32, iI_t (by have := sx8_R v; omega)]
  rfl
theorem sx16_i (v : Int) : (iI v).toInt16.toInt32 = iI (sx16 v) := by
  apply Int32.toInt_inj.mp
  rw [Int16.toInt_toInt32, iI_t (by have := sx16_R v; omega)]
  rfl
def shlI (x k : Int) : Int := (iI x <<< (iI k &&& 31)).toInt
def orI (x y : Int) : Int := (iI x ||| iI y).toInt
theorem shl_i (x k : Int) : iI x <<< (iI k &&& 31) = iI (shlI x k) := (iI_of _).symm
theorem or_i (x y : Int) : iI x ||| iI y = iI (orI x y) := (iI_of _).symm
theorem shlI_R (x k : Int) : inR (shlI x k) := iI_R _
theorem orI_R (x y : Int) : inR (orI x y) := iI_R _
theorem sx8_s (v : Int) : iI (shlI v 24) >>> (iI 24 &&& 31) = iI (sx8 v) := by
  rw [← shl_i, ← sx8_i]
  have e24 : iI 24 &&& 31 = 24 := by decide
  rw [e24]
  apply Int32.toBitVec.inj
  generalize (iI v) = x
  rw [Int32.toBitVec_shiftRight, Int32.toBitVec_shiftLeft]
  have e1 : ((24 : Int32).toBitVec.smod 32) = 24#32 := by decide
  rw [e1]
  apply BitVec.eq_of_getLsbD_eq
  intro i hi
  simp only [BitVec.sshiftRight_eq', BitVec.getLsbD_sshiftRight, BitVec.shiftLeft_eq', BitVec.getLsbD_shiftLeft, BitVec.msb_shiftLeft, Int32.toBitVec_toInt8, Int8.toBitVec_toInt32, BitVec.getLsbD_signExtend, BitVec.getLsbD_setWidth, BitVec.msb_setWidth]
  have t24 : (24#32).toNat = 24 := by decide
  simp only [t24]
  by_cases h8 : i < 8
  · have a1 : 24 + i < 32 := by omega
    have a2 : ¬ (24 + i < 24) := by omega
    have a3 : ¬ (32 ≤ i) := by omega
    have a4 : 24 + i - 24 = i := by omega
    simp [h8, a1, a2, a3, a4, hi]
  · have a1 : ¬ (24 + i < 32) := by omega
    have a3 : ¬ (32 ≤ i) := by omega
    simp [h8, a1, a3, hi, BitVec.msb_eq_getLsbD_last, BitVec.getMsbD, BitVec.getLsbD_signExtend, BitVec.getElem_signExtend]
theorem sx16_s (v : Int) : iI (shlI v 16) >>> (iI 16 &&& 31) = iI (sx16 v) := by
  rw [← shl_i, ← sx16_i]
  have e24 : iI 16 &&& 31 = 16 := by decide
  rw [e24]
  apply Int32.toBitVec.inj
  generalize (iI v) = x
  rw [Int32.toBitVec_shiftRight, Int32.toBitVec_shiftLeft]
  have e1 : ((16 : Int32).toBitVec.smod 32) = 16#32 := by decide
  rw [e1]
  apply BitVec.eq_of_getLsbD_eq
  intro i hi
  simp only [BitVec.sshiftRight_eq', BitVec.getLsbD_sshiftRight, BitVec.shiftLeft_eq', BitVec.getLsbD_shiftLeft, BitVec.msb_shiftLeft, Int32.toBitVec_toInt16, Int16.toBitVec_toInt32, BitVec.getLsbD_signExtend, BitVec.getLsbD_setWidth, BitVec.msb_setWidth]
  have t24 : (16#32).toNat = 16 := by decide
  simp only [t24]
  by_cases h8 : i < 16
  · have a1 : 16 + i < 32 := by omega
    have a2 : ¬ (16 + i < 16) := by omega
    have a3 : ¬ (32 ≤ i) := by omega
    have a4 : 16 + i - 16 = i := by omega
    simp [h8, a1, a2, a3, a4, hi]
  · have a1 : ¬ (16 + i < 32) := by omega
    have a3 : ¬ (32 ≤ i) := by omega
    simp [h8, a1, a3, hi, BitVec.msb_eq_getLsbD_last, BitVec.getMsbD, BitVec.getLsbD_signExtend, BitVec.getElem_signExtend]
def cutI (l v : Int) : Int := if l = 0 then sx8 v else if l = 1 then sx16 v else v
def rItem (ln rs : Nat → Int) (s l i : Int) : Int := if 0 ≤ s ∧ s ≤ 3 ∧ 0 ≤ l ∧ l ≤ 2 then (if rLack ln rs s l i 1 < 0 then rLack ln rs s l i 1 else 1) else -1
def sItem (ln rs it : Nat → Int) (s l i v : Int) : Nat → Int := if (0 ≤ s ∧ s ≤ 3 ∧ 0 ≤ l ∧ l ≤ 2) ∧ ¬ rLack ln rs s l i 1 < 0 then updI it ((24 * s).toNat + i.toNat) (cutI l v) else it
/-- what holds of the sheets -/
def SH (ln rs it : Nat → Int) : Prop := (∀ i, -1 ≤ ln i ∧ ln i ≤ 2) ∧ (∀ i, 0 ≤ rs i ∧ rs i ≤ 24) ∧ ∀ i, inR (it i)
set_option maxRecDepth 100000 in
set_option maxHeartbeats 4000000 in
theorem c_isSheet (w : AW) (s l : Int) (his : inR s) (hil : inR l) : CTi I_X6_isSheet 0 0 [.int (iI s), .int (iI l)] (w) (fun x w' => x = (if 0 ≤ s ∧ s ≤ 3 ∧ 0 ≤ l ∧ l ≤ 2 then 1 else 0) ∧ w' = w) := by
  refine CT_of 0 rfl (Nat.le_of_ble_eq_true rfl) ?_
  show EX I_X6_isSheet 0 0 none _ 0 [some (.int (iI s)), some (.int (iI l))] [] _ 0 0
  refine x_iload_n dX6_isSheet_0 rfl ?_
  refine x_i2l dX6_isSheet_1 ?_
  refine x_lconst dX6_isSheet_2 ?_
  refine x_ldc2 dX6_isSheet_3 kl_X6_107 ?_
  refine x_calliS dX6_isSheet_6 mk_X6_in ml_X6_43 (c_in _ s 0 3 his (by decide) (by decide)) rfl (fun x6 w6 h6 => ?_)
  obtain ⟨hb6, rfl⟩ := h6
  by_cases c6 : 0 ≤ s ∧ s ≤ 3
  · rw [if_pos c6] at hb6
    subst hb6
    refine x_if_eq 28 dX6_isSheet_9 (fun h9 => absurd h9 (by decide)) (fun h9 => ?_)
    refine x_iload_n dX6_isSheet_12 rfl ?_
    refine x_i2l dX6_isSheet_13 ?_
    refine x_lconst dX6_isSheet_14 ?_
    refine x_ldc2 dX6_isSheet_15 kl_X6_70 ?_
    refine x_calliS dX6_isSheet_18 mk_X6_in ml_X6_43 (c_in _ l 0 2 hil (by decide) (by decide)) rfl (fun x18 w18 h18 => ?_)
    obtain ⟨hb18, rfl⟩ := h18
    by_cases c18 : 0 ≤ l ∧ l ≤ 2
    · rw [if_pos c18] at hb18
      subst hb18
      refine x_if_eq 28 dX6_isSheet_21 (fun h21 => absurd h21 (by decide)) (fun h21 => ?_)
      refine x_iconst dX6_isSheet_24 ?_
      refine x_goto 29 dX6_isSheet_25 ?_
      exact x_zret dX6_isSheet_29 (by omega) (⟨by (repeat' split) <;> omega, rfl⟩)
    · rw [if_neg c18] at hb18
      subst hb18
      refine x_if_eq 28 dX6_isSheet_21 (fun h21 => ?_) (fun h21 => absurd h21 (by decide))
      refine x_iconst dX6_isSheet_28 ?_
      exact x_zret dX6_isSheet_29 (by omega) (⟨by (repeat' split) <;> omega, rfl⟩)
  · rw [if_neg c6] at hb6
    subst hb6
    refine x_if_eq 28 dX6_isSheet_9 (fun h9 => ?_) (fun h9 => absurd h9 (by decide))
    refine x_iconst dX6_isSheet_28 ?_
    exact x_zret dX6_isSheet_29 (by omega) (⟨by (repeat' split) <;> omega, rfl⟩)
set_option maxRecDepth 100000 in
set_option maxHeartbeats 4000000 in
theorem c_lacksRow {P : AW} {a : Nat} (hP : P.length = a) (z sp : Nat → Int) (n : Nat) (sa ba : Nat → Int) (dn ah be : Int) (tp : Nat → Int) (tl ta ac : Nat) (kd nb : Nat → Int) (ik : Int) (im ln rs it : Nat → Int) (R : AW) (hSh : SH ln rs it) (s l f m : Int) (hs : 0 ≤ s ∧ s ≤ 3) (hil : inR l) (hif : inR f) (hm : 0 ≤ m ∧ m ≤ 20) : CTi I_X6_lacksRow 0 0 [.ref (a + 0), .int (iI s), .int (iI l), .int (iI f), .int (iI m)] (P ++ mw a z sp n sa ba dn ah be tp tl ta ac kd nb ik im ln rs it R) (fun x w' => x = rLack ln rs s l f m ∧ w' = P ++ mw a z sp n sa ba dn ah be tp tl ta ac kd nb ik im ln rs it R) := by
  have hl1 := hSh.1 s.toNat
  have hr1 := hSh.2.1 s.toNat
  refine CT_of 0 rfl (Nat.le_of_ble_eq_true rfl) ?_
  show EX I_X6_lacksRow 0 0 none _ 0 [some (.ref (a + 0)), some (.int (iI s)), some (.int (iI l)), some (.int (iI f)), some (.int (iI m))] [] _ 0 0
  refine x_aload_n dX6_lacksRow_0 rfl ?_
  refine x_getfield 0 dX6_lacksRow_1 fg_X6_34 hP rfl rfl ?_
  refine x_iload_n dX6_lacksRow_4 rfl ?_
  refine x_iaload 9 (s.toNat) dX6_lacksRow_5 hP rfl ?_
  refine x_iload_n dX6_lacksRow_6 rfl ?_
  refine x_icmp_eq 27 dX6_lacksRow_7 (fun h7 => ?_) (fun h7 => ?_) (ha := by omega)
  · refine x_iload_n dX6_lacksRow_27 rfl ?_
    refine x_i2l dX6_lacksRow_28 ?_
    refine x_lconst dX6_lacksRow_29 ?_
    refine x_aload_n dX6_lacksRow_30 rfl ?_
    refine x_getfield 0 dX6_lacksRow_31 fg_X6_37 hP rfl rfl ?_
    refine x_iload_n dX6_lacksRow_34 rfl ?_
    refine x_iaload 10 (s.toNat) dX6_lacksRow_35 hP rfl ?_
    refine x_iload dX6_lacksRow_36 rfl ?_
    refine x_isub dX6_lacksRow_38 ?_
    refine x_i2l dX6_lacksRow_39 ?_
    refine x_calliS dX6_lacksRow_40 mk_X6_in ml_X6_43 (c_in _ f 0 (rs s.toNat - m) hif (by decide) (by omega)) rfl (fun x40 w40 h40 => ?_)
    obtain ⟨hb40, rfl⟩ := h40
    by_cases c40 : 0 ≤ f ∧ f ≤ rs s.toNat - m
    · rw [if_pos c40] at hb40
      subst hb40
      refine x_if_eq 50 dX6_lacksRow_43 (fun h43 => absurd h43 (by decide)) (fun h43 => ?_)
      refine x_iconst dX6_lacksRow_46 ?_
      refine x_goto 52 dX6_lacksRow_47 ?_
      exact x_iret dX6_lacksRow_52 (⟨by unfold rLack; (repeat' split) <;> first | rfl | omega | (exfalso; omega), rfl⟩)
    · rw [if_neg c40] at hb40
      subst hb40
      refine x_if_eq 50 dX6_lacksRow_43 (fun h43 => ?_) (fun h43 => absurd h43 (by decide))
      refine x_bipush dX6_lacksRow_50 ?_
      exact x_iret dX6_lacksRow_52 (⟨by unfold rLack; (repeat' split) <;> first | rfl | omega | (exfalso; omega), rfl⟩)
  · refine x_aload_n dX6_lacksRow_10 rfl ?_
    refine x_getfield 0 dX6_lacksRow_11 fg_X6_34 hP rfl rfl ?_
    refine x_iload_n dX6_lacksRow_14 rfl ?_
    refine x_iaload 9 (s.toNat) dX6_lacksRow_15 hP rfl ?_
    refine x_if_ge 24 dX6_lacksRow_16 (fun h16 => ?_) (fun h16 => ?_) (ha := by omega)
    · refine x_bipush dX6_lacksRow_24 ?_
      exact x_iret dX6_lacksRow_26 (⟨by unfold rLack; (repeat' split) <;> first | rfl | omega | (exfalso; omega), rfl⟩)
    · refine x_bipush dX6_lacksRow_19 ?_
      refine x_goto 26 dX6_lacksRow_21 ?_
      exact x_iret dX6_lacksRow_26 (⟨by unfold rLack; (repeat' split) <;> first | rfl | omega | (exfalso; omega), rfl⟩)
set_option maxRecDepth 100000 in
set_option maxHeartbeats 4000000 in
theorem c_drop {P : AW} {a : Nat} (hP : P.length = a) (z sp : Nat → Int) (n : Nat) (sa ba : Nat → Int) (dn ah be : Int) (tp : Nat → Int) (tl ta ac : Nat) (kd nb : Nat → Int) (ik : Int) (im ln rs it : Nat → Int) (R : AW) (hSh : SH ln rs it) (s : Int) (his : inR s) : CTi I_X6_drop 0 0 [.ref (a + 0), .int (iI s)] (P ++ mw a z sp n sa ba dn ah be tp tl ta ac kd nb ik im ln rs it R) (fun x w' => x = rDrop ln rs s ∧ w' = P ++ mw a z sp n sa ba dn ah be tp tl ta ac kd nb ik im (sDrop ln s) rs it R) := by
  have hl1 := hSh.1 s.toNat
  have hr1 := hSh.2.1 s.toNat
  refine CT_of 0 rfl (Nat.le_of_ble_eq_true rfl) ?_
  show EX I_X6_drop 0 0 none _ 0 [some (.ref (a + 0)), some (.int (iI s))] [] _ 0 0
  refine x_iload_n dX6_drop_0 rfl ?_
  refine x_i2l dX6_drop_1 ?_
  refine x_lconst dX6_drop_2 ?_
  refine x_ldc2 dX6_drop_3 kl_X6_107 ?_
  refine x_calliS dX6_drop_6 mk_X6_in ml_X6_43 (c_in _ s 0 3 his (by decide) (by decide)) rfl (fun x6 w6 h6 => ?_)
  obtain ⟨hb6, rfl⟩ := h6
  by_cases c6 : 0 ≤ s ∧ s ≤ 3
  · rw [if_pos c6] at hb6
    subst hb6
    refine x_if_ne 14 dX6_drop_9 (fun h9 => ?_) (fun h9 => absurd h9 (by decide))
    refine x_aload_n dX6_drop_14 rfl ?_
    refine x_getfield 0 dX6_drop_15 fg_X6_34 hP rfl rfl ?_
    refine x_iload_n dX6_drop_18 rfl ?_
    refine x_iaload 9 (s.toNat) dX6_drop_19 hP rfl ?_
    refine x_if_ge 26 dX6_drop_20 (fun h20 => ?_) (fun h20 => ?_) (ha := by omega)
    · refine x_aload_n dX6_drop_26 rfl ?_
      refine x_getfield 0 dX6_drop_27 fg_X6_34 hP rfl rfl ?_
      refine x_iload_n dX6_drop_30 rfl ?_
      refine x_iconst dX6_drop_31 ?_
      refine x_iastore 9 (s.toNat) dX6_drop_32 hP rfl ?_
      refine x_aload_n dX6_drop_33 rfl ?_
      refine x_getfield 0 dX6_drop_34 fg_X6_37 hP rfl rfl ?_
      refine x_iload_n dX6_drop_37 rfl ?_
      refine x_iaload 10 (s.toNat) dX6_drop_38 hP rfl ?_
      exact x_iret dX6_drop_39 (⟨by unfold rDrop; (repeat' split) <;> first | rfl | omega | (exfalso; omega), by unfold sDrop; (repeat' split) <;> first | rfl | (exfalso; omega)⟩)
    · refine x_bipush dX6_drop_23 ?_
      exact x_iret dX6_drop_25 (⟨by unfold rDrop; (repeat' split) <;> first | rfl | omega | (exfalso; omega), by unfold sDrop; (repeat' split) <;> first | rfl | (exfalso; omega)⟩)
  · rw [if_neg c6] at hb6
    subst hb6
    refine x_if_ne 14 dX6_drop_9 (fun h9 => absurd h9 (by decide)) (fun h9 => ?_)
    refine x_iconst dX6_drop_12 ?_
    exact x_iret dX6_drop_13 (⟨by unfold rDrop; (repeat' split) <;> first | rfl | omega | (exfalso; omega), by unfold sDrop; (repeat' split) <;> first | rfl | (exfalso; omega)⟩)
set_option maxRecDepth 100000 in
set_option maxHeartbeats 4000000 in
theorem c_item {P : AW} {a : Nat} (hP : P.length = a) (z sp : Nat → Int) (n : Nat) (sa ba : Nat → Int) (dn ah be : Int) (tp : Nat → Int) (tl ta ac : Nat) (kd nb : Nat → Int) (ik : Int) (im ln rs it : Nat → Int) (R : AW) (hSh : SH ln rs it) (s l i v : Int) (his : inR s) (hil : inR l) (hii : inR i) : CTi I_X6_item 0 0 [.ref (a + 0), .int (iI s), .int (iI l), .int (iI i), .int (iI v)] (P ++ mw a z sp n sa ba dn ah be tp tl ta ac kd nb ik im ln rs it R) (fun x w' => x = rItem ln rs s l i ∧ w' = P ++ mw a z sp n sa ba dn ah be tp tl ta ac kd nb ik im ln rs (sItem ln rs it s l i v) R) := by
  have hl1 := hSh.1 s.toNat
  have hr1 := hSh.2.1 s.toNat
  refine CT_of 1 rfl (Nat.le_of_ble_eq_true rfl) ?_
  show EX I_X6_item 0 0 none _ 0 [some (.ref (a + 0)), some (.int (iI s)), some (.int (iI l)), some (.int (iI i)), some (.int (iI v)), none] [] _ 0 0
  refine x_iload_n dX6_item_0 rfl ?_
  refine x_iload_n dX6_item_1 rfl ?_
  refine x_calliS dX6_item_2 mk_X6_isSheet ml_X6_132 (c_isSheet _ s l his hil) rfl (fun x2 w2 h2 => ?_)
  obtain ⟨hb2, rfl⟩ := h2
  by_cases c2 : 0 ≤ s ∧ s ≤ 3 ∧ 0 ≤ l ∧ l ≤ 2
  · rw [if_pos c2] at hb2
    subst hb2
    refine x_if_ne 10 dX6_item_5 (fun h5 => ?_) (fun h5 => absurd h5 (by decide))
    refine x_aload_n dX6_item_10 rfl ?_
    refine x_iload_n dX6_item_11 rfl ?_
    refine x_iload_n dX6_item_12 rfl ?_
    refine x_iload_n dX6_item_13 rfl ?_
    refine x_iconst dX6_item_14 ?_
    refine x_calliV dX6_item_15 mk_X6_lacksRow ml_X6_136 (c_lacksRow hP z sp n sa ba dn ah be tp tl ta ac kd nb ik im ln rs it R hSh s l i 1 (by omega) hil hii (by decide)) ((wg_app hP 0).trans rfl) rfl (fun x15 w15 h15 => ?_)
    obtain ⟨rfl, rfl⟩ := h15
    have hlr : rLack ln rs s l i 1 = 0 ∨ rLack ln rs s l i 1 = -13 ∨ rLack ln rs s l i 1 = -12 ∨ rLack ln rs s l i 1 = -11 := by unfold rLack; (repeat' split) <;> omega
    have hl0 : ¬ rLack ln rs s l i 1 < 0 → 0 ≤ i ∧ i ≤ rs s.toNat - 1 := by unfold rLack; (repeat' split) <;> omega
    refine x_ist5 dX6_item_18 ?_
    refine x_iload dX6_item_20 rfl ?_
    refine x_if_ge 28 dX6_item_22 (fun h22 => ?_) (fun h22 => ?_) (ha := by omega)
    · refine x_aload_n dX6_item_28 rfl ?_
      refine x_getfield 0 dX6_item_29 fg_X6_40 hP rfl rfl ?_
      refine x_bipush dX6_item_32 ?_
      refine x_iload_n dX6_item_34 rfl ?_
      refine x_imul dX6_item_35 ?_
      refine x_iload_n dX6_item_36 rfl ?_
      refine x_iadd dX6_item_37 ?_
      refine x_iload_n dX6_item_38 rfl ?_
      refine x_if_ne 53 dX6_item_39 (fun h39 => ?_) (fun h39 => ?_)
      · refine x_iload_n dX6_item_53 rfl ?_
        refine x_iconst dX6_item_54 ?_
        refine x_icmp_ne 69 dX6_item_55 (fun h55 => ?_) (fun h55 => ?_)
        · refine x_iload dX6_item_69 rfl ?_
          refine x_iastore 11 ((24 * s).toNat + i.toNat) dX6_item_71 hP rfl ?_
          refine x_iconst dX6_item_72 ?_
          exact x_iret dX6_item_73 (⟨by unfold rItem; (repeat' split) <;> first | rfl | omega | (exfalso; omega), by unfold sItem cutI; (repeat' split) <;> first | rfl | (exfalso; omega)⟩)
        · refine x_iload dX6_item_58 rfl ?_
          refine x_bipush dX6_item_60 ?_
          refine x_ishl dX6_item_62 (shl_i v 16) ?_
          refine x_bipush dX6_item_63 ?_
          refine x_ishr dX6_item_65 (sx16_s v) ?_
          refine x_goto 71 dX6_item_66 ?_
          refine x_iastore 11 ((24 * s).toNat + i.toNat) dX6_item_71 hP rfl ?_
          refine x_iconst dX6_item_72 ?_
          exact x_iret dX6_item_73 (⟨by unfold rItem; (repeat' split) <;> first | rfl | omega | (exfalso; omega), by unfold sItem cutI; (repeat' split) <;> first | rfl | (exfalso; omega)⟩)
      · refine x_iload dX6_item_42 rfl ?_
        refine x_bipush dX6_item_44 ?_
        refine x_ishl dX6_item_46 (shl_i v 24) ?_
        refine x_bipush dX6_item_47 ?_
        refine x_ishr dX6_item_49 (sx8_s v) ?_
        refine x_goto 71 dX6_item_50 ?_
        refine x_iastore 11 ((24 * s).toNat + i.toNat) dX6_item_71 hP rfl ?_
        refine x_iconst dX6_item_72 ?_
        exact x_iret dX6_item_73 (⟨by unfold rItem; (repeat' split) <;> first | rfl | omega | (exfalso; omega), by unfold sItem cutI; (repeat' split) <;> first | rfl | (exfalso; omega)⟩)
    · refine x_iload dX6_item_25 rfl ?_
      exact x_iret dX6_item_27 (⟨by unfold rItem; (repeat' split) <;> first | rfl | omega | (exfalso; omega), by unfold sItem cutI; (repeat' split) <;> first | rfl | (exfalso; omega)⟩)
  · rw [if_neg c2] at hb2
    subst hb2
    refine x_if_ne 10 dX6_item_5 (fun h5 => absurd h5 (by decide)) (fun h5 => ?_)
    refine x_iconst dX6_item_8 ?_
    exact x_iret dX6_item_9 (⟨by unfold rItem; (repeat' split) <;> first | rfl | omega | (exfalso; omega), by unfold sItem cutI; (repeat' split) <;> first | rfl | (exfalso; omega)⟩)
set_option maxRecDepth 100000 in
set_option maxHeartbeats 4000000 in
theorem l_sheet {P : AW} {a : Nat} (hP : P.length = a) (z sp : Nat → Int) (n : Nat) (sa ba : Nat → Int) (dn ah be : Int) (tp : Nat → Int) (tl ta ac : Nat) (kd nb : Nat → Int) (ik : Int) (im ln rs it : Nat → Int) (R : AW) (s l m : Int) (hs : 0 ≤ s ∧ s ≤ 3) {Z : Zt} (hx : EX I_X6_sheet 0 0 none Z 66 [some (.ref (a + 0)), some (.int (iI s)), some (.int (iI l)), some (.int (iI m)), some (.int (iI ((24 : Nat) : Int)))] [] (P ++ mw a z sp n sa ba dn ah be tp tl ta ac kd nb ik im ln rs (zit it (24 * s).toNat (24)) R) 0 0) : ∀ (r k : Nat), k + r = 24 → EX I_X6_sheet 0 0 none Z 40 [some (.ref (a + 0)), some (.int (iI s)), some (.int (iI l)), some (.int (iI m)), some (.int (iI ((k : Nat) : Int)))] [] (P ++ mw a z sp n sa ba dn ah be tp tl ta ac kd nb ik im ln rs (zit it (24 * s).toNat (k)) R) 0 0 := by
  intro r
  induction r with
  | zero =>
    intro k hs
    have hs' : k = 24 := by omega
    subst hs'
    refine x_iload dX6_sheet_40 rfl ?_
    refine x_bipush dX6_sheet_42 ?_
    refine x_icmp_ge 66 dX6_sheet_44 (fun h44 => ?_) (fun h44 => by exfalso; omega)
    exact hx
  | succ r ih =>
    intro k hk
    refine x_iload dX6_sheet_40 rfl ?_
    refine x_bipush dX6_sheet_42 ?_
    refine x_icmp_ge 66 dX6_sheet_44 (fun h44 => by exfalso; omega) (fun h44 => ?_)
    refine x_aload_n dX6_sheet_47 rfl ?_
    refine x_getfield 0 dX6_sheet_48 fg_X6_40 hP rfl rfl ?_
    refine x_bipush dX6_sheet_51 ?_
    refine x_iload_n dX6_sheet_53 rfl ?_
    refine x_imul dX6_sheet_54 ?_
    refine x_iload dX6_sheet_55 rfl ?_
    refine x_iadd dX6_sheet_57 ?_
    refine x_iconst dX6_sheet_58 ?_
    refine x_iastore 11 ((24 * s).toNat + k) dX6_sheet_59 hP rfl ?_
    refine x_eqw (w' := P ++ mw a z sp n sa ba dn ah be tp tl ta ac kd nb ik im ln rs (zit it (24 * s).toNat (k + 1)) R) (by rw [← zit_s]; rfl) ?_
    refine x_inc4 dX6_sheet_60 ?_
    refine x_goto 40 dX6_sheet_63 ?_
    exact ih (k + 1) (by omega)
set_option maxRecDepth 100000 in
set_option maxHeartbeats 4000000 in
theorem c_sheet {P : AW} {a : Nat} (hP : P.length = a) (z sp : Nat → Int) (n : Nat) (sa ba : Nat → Int) (dn ah be : Int) (tp : Nat → Int) (tl ta ac : Nat) (kd nb : Nat → Int) (ik : Int) (im ln rs it : Nat → Int) (R : AW) (s l m : Int) (his : inR s) (hil : inR l) (him : inR m) : CTi I_X6_sheet 0 0 [.ref (a + 0), .int (iI s), .int (iI l), .int (iI m)] (P ++ mw a z sp n sa ba dn ah be tp tl ta ac kd nb ik im ln rs it R) (fun x w' => x = rSh s l m ∧ (if 0 ≤ s ∧ s ≤ 3 ∧ 0 ≤ l ∧ l ≤ 2 ∧ 0 ≤ m ∧ m ≤ 24 then P ++ mw a z sp n sa ba dn ah be tp tl ta ac kd nb ik im (updI ln s.toNat l) (updI rs s.toNat m) (zit it (24 * s).toNat 24) R else P ++ mw a z sp n sa ba dn ah be tp tl ta ac kd nb ik im ln rs it R) = w') := by
  refine CT_of 1 rfl (Nat.le_of_ble_eq_true rfl) ?_
  show EX I_X6_sheet 0 0 none _ 0 [some (.ref (a + 0)), some (.int (iI s)), some (.int (iI l)), some (.int (iI m)), none] [] _ 0 0
  refine x_iload_n dX6_sheet_0 rfl ?_
  refine x_iload_n dX6_sheet_1 rfl ?_
  refine x_calliS dX6_sheet_2 mk_X6_isSheet ml_X6_132 (c_isSheet _ s l his hil) rfl (fun x2 w2 h2 => ?_)
  obtain ⟨hb2, rfl⟩ := h2
  by_cases c2 : 0 ≤ s ∧ s ≤ 3 ∧ 0 ≤ l ∧ l ≤ 2
  · rw [if_pos c2] at hb2
    subst hb2
    refine x_if_eq 14 dX6_sheet_5 (fun h5 => absurd h5 (by decide)) (fun h5 => ?_)
    refine x_iload_n dX6_sheet_8 rfl ?_
    refine x_bipush dX6_sheet_9 ?_
    refine x_icmp_le 16 dX6_sheet_11 (fun h11 => ?_) (fun h11 => ?_)
    · refine x_iload_n dX6_sheet_16 rfl ?_
      refine x_if_ge 23 dX6_sheet_17 (fun h17 => ?_) (fun h17 => ?_)
      · refine x_aload_n dX6_sheet_23 rfl ?_
        refine x_getfield 0 dX6_sheet_24 fg_X6_34 hP rfl rfl ?_
        refine x_iload_n dX6_sheet_27 rfl ?_
        refine x_iload_n dX6_sheet_28 rfl ?_
        refine x_iastore 9 (s.toNat) dX6_sheet_29 hP rfl ?_
        refine x_aload_n dX6_sheet_30 rfl ?_
        refine x_getfield 0 dX6_sheet_31 fg_X6_37 hP rfl rfl ?_
        refine x_iload_n dX6_sheet_34 rfl ?_
        refine x_iload_n dX6_sheet_35 rfl ?_
        refine x_iastore 10 (s.toNat) dX6_sheet_36 hP rfl ?_
        refine x_iconst dX6_sheet_37 ?_
        refine x_ist4 dX6_sheet_38 ?_
        refine x_eqw (w' := P ++ mw a z sp n sa ba dn ah be tp tl ta ac kd nb ik im (updI ln s.toNat l) (updI rs s.toNat m) (zit it (24 * s).toNat 0) R) (by rw [zit_0]; rfl) ?_
        refine l_sheet hP z sp n sa ba dn ah be tp tl ta ac kd nb ik im (updI ln s.toNat l) (updI rs s.toNat m) it R s l m (by omega) ?_ 24 0 rfl
        refine x_iload_n dX6_sheet_66 rfl ?_
        exact x_iret dX6_sheet_67 ⟨by unfold rSh; (repeat' split) <;> first | rfl | omega | (exfalso; omega), if_pos (by omega)⟩
      · refine x_bipush dX6_sheet_20 ?_
        exact x_iret dX6_sheet_22 (⟨by unfold rSh; (repeat' split) <;> first | rfl | omega | (exfalso; omega), by first | (exact if_neg (by omega)) | rfl⟩)
    · refine x_iconst dX6_sheet_14 ?_
      exact x_iret dX6_sheet_15 (⟨by unfold rSh; (repeat' split) <;> first | rfl | omega | (exfalso; omega), by first | (exact if_neg (by omega)) | rfl⟩)
  · rw [if_neg c2] at hb2
    subst hb2
    refine x_if_eq 14 dX6_sheet_5 (fun h5 => ?_) (fun h5 => absurd h5 (by decide))
    refine x_iconst dX6_sheet_14 ?_
    exact x_iret dX6_sheet_15 (⟨by unfold rSh; (repeat' split) <;> first | rfl | omega | (exfalso; omega), by first | (exact if_neg (by omega)) | rfl⟩)
set_option maxRecDepth 100000 in
set_option maxHeartbeats 4000000 in
theorem c_image {P : AW} {a : Nat} (hP : P.length = a) (z sp : Nat → Int) (n : Nat) (sa ba : Nat → Int) (dn ah be : Int) (tp : Nat → Int) (tl ta ac : Nat) (kd nb : Nat → Int) (ik : Int) (im ln rs it : Nat → Int) (R : AW) : CTi I_X6_image 0 0 [.ref (a + 0)] (P ++ mw a z sp n sa ba dn ah be tp tl ta ac kd nb ik im ln rs it R) (fun x w' => x = 1 ∧ w' = P ++ mw a z sp n sa ba dn ah be tp tl ta ac kd nb (1) (z) ln rs it R) := by
  refine CT_of 0 rfl (Nat.le_of_ble_eq_true rfl) ?_
  show EX I_X6_image 0 0 none _ 0 [some (.ref (a + 0))] [] _ 0 0
  refine x_aload_n dX6_image_0 rfl ?_
  refine x_aload_n dX6_image_1 rfl ?_
  refine x_getfield 0 dX6_image_2 fg_X6_31 hP rfl rfl ?_
  refine x_callvV dX6_image_5 mk_X6_keep ml_X6_109 (c_keep8 hP _ z im _ _ _ _ _ _ _) ((wg_app hP 0).trans rfl) rfl (fun w5 h5 => ?_)
  subst h5
  refine x_aload_n dX6_image_8 rfl ?_
  refine x_iconst dX6_image_9 ?_
  refine x_putfield 0 dX6_image_10 fl_X6_202 hP rfl (fun _ _ => bfit (Or.inr rfl)) ?_
  refine x_iconst dX6_image_13 ?_
  exact x_iret dX6_image_14 (⟨rfl, rfl⟩)
set_option maxRecDepth 100000 in
set_option maxHeartbeats 4000000 in
theorem c_restore {P : AW} {a : Nat} (hP : P.length = a) (z sp : Nat → Int) (n : Nat) (sa ba : Nat → Int) (dn ah be : Int) (tp : Nat → Int) (tl ta ac : Nat) (kd nb : Nat → Int) (ik : Int) (im ln rs it : Nat → Int) (R : AW) (hik : ik = 0 ∨ ik = 1) : CTi I_X6_restore 0 0 [.ref (a + 0)] (P ++ mw a z sp n sa ba dn ah be tp tl ta ac kd nb ik im ln rs it R) (fun x w' => x = (if ik = 0 then -4 else 1) ∧ w' = (if ik = 0 then P ++ mw a z sp n sa ba dn ah be tp tl ta ac kd nb ik im ln rs it R else P ++ mw a (im) sp n sa ba dn ah be tp tl ta ac kd nb ik im ln rs it R)) := by
  refine CT_of 0 rfl (Nat.le_of_ble_eq_true rfl) ?_
  show EX I_X6_restore 0 0 none _ 0 [some (.ref (a + 0))] [] _ 0 0
  refine x_aload_n dX6_restore_0 rfl ?_
  refine x_getfield 0 dX6_restore_1 fg_X6_202 hP rfl rfl ?_
  refine x_if_ne 10 dX6_restore_4 (fun h4 => ?_) (fun h4 => ?_) (ha := by omega)
  · refine x_aload_n dX6_restore_10 rfl ?_
    refine x_aload_n dX6_restore_11 rfl ?_
    refine x_getfield 0 dX6_restore_12 fg_X6_31 hP rfl rfl ?_
    refine x_callvV dX6_restore_15 mk_X6_bring ml_X6_120 (c_bring8 hP _ z im _ _ _ _ _ _ _) ((wg_app hP 0).trans rfl) rfl (fun w15 h15 => ?_)
    subst h15
    refine x_iconst dX6_restore_18 ?_
    exact x_iret dX6_restore_19 (⟨by (repeat' split) <;> omega, by first | (exact (if_pos h4).symm) | (exact (if_neg h4).symm)⟩)
  · refine x_bipush dX6_restore_7 ?_
    exact x_iret dX6_restore_9 (⟨by (repeat' split) <;> omega, by first | (exact (if_pos h4).symm) | (exact (if_neg h4).symm)⟩)
end
section
/-! ===== the reference's wire ===== -/
theorem x_ist10 {mi : MI} {mc ms : Nat} {SC : Option (Nat × (Nat → Int32))} {Z : Zt} {pc : Nat} {st : List Value} {w : AW} {k n : Nat} {a0 a1 a2 a3 a4 a5 a6 a7 a8 a9 a10 : Option Value} {r : List (Option Value)} {x : Int32} (hd : decode mi.2.1 pc = .ok (.istore 10, 2)) (kk : EX mi mc ms SC Z (pc + 2) (a0 :: a1 :: a2 :: a3 :: a4 :: a5 :: a6 :: a7 :: a8 :: a9 :: some (.int x) :: r) st w k n) (hn : 10 < mi.2.2.1 := by decide) (hc : okb (a0 :: a1 :: a2 :: a3 :: a4 :: a5 :: a6 :: a7 :: a8 :: a9 :: a10 :: r) 10 = true := by rfl) : EX mi mc ms SC Z pc (a0 :: a1 :: a2 :: a3 :: a4 :: a5 :: a6 :: a7 :: a8 :: a9 :: a10 :: r) (.int x :: st) w k n := x_istore hd hn hc rfl kk
def gcnt (f : Nat → Int) (g : Int) : Nat → Int
  | 0 => 0
  | k + 1 => if f k < g then gcnt f g k else gcnt f g k + 1
def rgt (f : Nat → Int) : Nat → Int
  | 0 => 1
  | k + 1 => if ¬ rgt f k = 0 ∧ ¬ f k < 1 then 1 else 0
def lsa (f : Nat → Int) (g x : Int) : Nat → Int
  | 0 => x
  | k + 1 => if f k < g then lsa f g x k else (k : Int) + 1
def lsb (f : Nat → Int) (g m x : Int) : Nat → Int
  | 0 => x
  | k + 1 => if f k < g then lsb f g m x k else m - (k : Int)
theorem gcnt_b (f : Nat → Int) (g : Int) : ∀ k : Nat, 0 ≤ gcnt f g k ∧ gcnt f g k ≤ k
  | 0 => by simp [gcnt]
  | k + 1 => by have := gcnt_b f g k; unfold gcnt; split <;> omega
theorem rgt_b (f : Nat → Int) : ∀ k, rgt f k = 0 ∨ rgt f k = 1
  | 0 => Or.inr rfl
  | k + 1 => by unfold rgt; split <;> omega
theorem lsa_b (f : Nat → Int) (g x : Int) : ∀ k : Nat, (gcnt f g k = 0 ∧ lsa f g x k = x) ∨ (1 ≤ gcnt f g k ∧ 1 ≤ lsa f g x k ∧ lsa f g x k ≤ k)
  | 0 => Or.inl ⟨rfl, rfl⟩
  | k + 1 => by
    have h := lsa_b f g x k
    have hg := gcnt_b f g k
    unfold gcnt lsa
    split
    · rename_i hc
      rcases h with h | h
      · exact Or.inl h
      · exact Or.inr ⟨h.1, h.2.1, by omega⟩
    · exact Or.inr ⟨by omega, by omega, by omega⟩
/-- the two counts of the last gap -/
theorem lsb_a (f : Nat → Int) (g m x y : Int) : ∀ k : Nat, 1 ≤ gcnt f g k → lsb f g m y k = m + 1 - lsa f g x k
  | 0, h => by simp [gcnt] at h
  | k + 1, h => by
    have ih := lsb_a f g m x y k
    unfold gcnt at h
    unfold lsa lsb
    split
    · rename_i hc
      rw [if_pos hc] at h
      exact ih h
    · omega
def rHear (ln rs it : Nat → Int) (s l f m g : Int) : Int :=
  if 0 ≤ s ∧ s ≤ 3 ∧ 0 ≤ l ∧ l ≤ 2 ∧ 1 ≤ m ∧ m ≤ 20 ∧ 1 ≤ g ∧ g ≤ 999 then
    (if rLack ln rs s l f m < 0 then rLack ln rs s l f m else if rgt (fun i => it ((24 * s).toNat + f.toNat + i)) m.toNat = 0 then -2 else if gcnt (fun i => it ((24 * s).toNat + f.toNat + i)) g m.toNat = 1 then 0 else -4)
  else -1
def gapA (it : Nat → Int) (s f m g : Int) : Int := lsa (fun i => it ((24 * s).toNat + f.toNat + i)) g 0 m.toNat
def isT (x y : Int) : Prop := 1 ≤ x ∧ x ≤ 10 ∧ 1 ≤ y ∧ y ≤ 2
def sgO (x y : Int) : Int := 2 * (x - 1) + y - 1
def rHeard (ln rs it : Nat → Int) (s l f m g : Int) : Int := if rHear ln rs it s l f m g < 0 then rHear ln rs it s l f m g else if 1 ≤ gapA it s f m g ∧ gapA it s f m g ≤ 10 ∧ 1 ≤ m + 1 - gapA it s f m g ∧ m + 1 - gapA it s f m g ≤ 2 then sgO (gapA it s f m g) (m + 1 - gapA it s f m g) else -4
def bitO (x y : Int) : Int := if 1 ≤ x ∧ x ≤ 10 ∧ 1 ≤ y ∧ y ≤ 2 then shlI 1 (sgO x y) else 0
def bits3 (x y : Int) : Int := orI (orI (bitO x y) (bitO (x + 1) y)) (bitO x (y + 1))
def rMay (ln rs it : Nat → Int) (s l f m g : Int) : Int := if rHear ln rs it s l f m g < 0 then rHear ln rs it s l f m g else if bits3 (gapA it s f m g) (m + 1 - gapA it s f m g) = 0 then -4 else bits3 (gapA it s f m g) (m + 1 - gapA it s f m g)
theorem bitO_R (x y : Int) : inR (bitO x y) := by
  unfold bitO
  split
  · exact shlI_R _ _
  · decide
set_option maxRecDepth 100000 in
set_option maxHeartbeats 4000000 in
theorem l_hear {P : AW} {a : Nat} (hP : P.length = a) (z sp : Nat → Int) (n : Nat) (sa ba : Nat → Int) (dn ah be : Int) (tp : Nat → Int) (tl ta ac : Nat) (kd nb : Nat → Int) (ik : Int) (im ln rs it : Nat → Int) (R : AW) (hSh : SH ln rs it) (s l f m g : Int) (his : inR s) (hil : inR l) (hif : inR f) (him : inR m) (hig : inR g) (hs : 0 ≤ s ∧ s ≤ 3) (hf : 0 ≤ f ∧ f ≤ rs s.toNat - m) (hm : 1 ≤ m ∧ m ≤ 20) (x6 : Int32) {Z : Zt} (hx : ∀ l10, EX I_X6_hear 0 0 none Z 138 [some (.ref (a + 0)), some (.int (iI s)), some (.int (iI l)), some (.int (iI f)), some (.int (iI m)), some (.int (iI g)), some (.int x6), some (.int (iI (gcnt (fun i => it ((24 * s).toNat + f.toNat + i)) g m.toNat))), some (.int (iI (rgt (fun i => it ((24 * s).toNat + f.toNat + i)) m.toNat))), some (.int (iI ((m.toNat : Nat) : Int))), l10] [] (P ++ mw a z sp n sa ba dn (lsa (fun i => it ((24 * s).toNat + f.toNat + i)) g ah m.toNat) (lsb (fun i => it ((24 * s).toNat + f.toNat + i)) g m be m.toNat) tp tl ta ac kd nb ik im ln rs it R) 0 0) : ∀ (r k : Nat) (l10 : Option Value), k + r = m.toNat → EX I_X6_hear 0 0 none Z 64 [some (.ref (a + 0)), some (.int (iI s)), some (.int (iI l)), some (.int (iI f)), some (.int (iI m)), some (.int (iI g)), some (.int x6), some (.int (iI (gcnt (fun i => it ((24 * s).toNat + f.toNat + i)) g k))), some (.int (iI (rgt (fun i => it ((24 * s).toNat + f.toNat + i)) k))), some (.int (iI ((k : Nat) : Int))), l10] [] (P ++ mw a z sp n sa ba dn (lsa (fun i => it ((24 * s).toNat + f.toNat + i)) g ah k) (lsb (fun i => it ((24 * s).toNat + f.toNat + i)) g m be k) tp tl ta ac kd nb ik im ln rs it R) 0 0 := by
  intro r
  induction r with
  | zero =>
    intro k l10 hs
    have hs' : k = m.toNat := by omega
    subst hs'
    refine x_iload dX6_hear_64 rfl ?_
    refine x_iload dX6_hear_66 rfl ?_
    refine x_icmp_ge 138 dX6_hear_68 (fun h68 => ?_) (fun h68 => by exfalso; omega)
    exact hx l10
  | succ r ih =>
    intro k l10 hk
    have hr1 := hSh.2.1 s.toNat
    have hit := hSh.2.2 ((24 * s).toNat + f.toNat + k)
    have hgc := gcnt_b (fun i => it ((24 * s).toNat + f.toNat + i)) g k
    have hrg := rgt_b (fun i => it ((24 * s).toNat + f.toNat + i)) k
    refine x_iload dX6_hear_64 rfl ?_
    refine x_iload dX6_hear_66 rfl ?_
    refine x_icmp_ge 138 dX6_hear_68 (fun h68 => by exfalso; omega) (fun h68 => ?_)
    refine x_aload_n dX6_hear_71 rfl ?_
    refine x_getfield 0 dX6_hear_72 fg_X6_40 hP rfl rfl ?_
    refine x_bipush dX6_hear_75 ?_
    refine x_iload_n dX6_hear_77 rfl ?_
    refine x_imul dX6_hear_78 ?_
    refine x_iload_n dX6_hear_79 rfl ?_
    refine x_iadd dX6_hear_80 ?_
    refine x_iload dX6_hear_81 rfl ?_
    refine x_iadd dX6_hear_83 ?_
    refine x_iaload 11 ((24 * s).toNat + f.toNat + k) dX6_hear_84 hP rfl ?_
    refine x_ist10 dX6_hear_85 ?_
    refine x_iload dX6_hear_87 rfl ?_
    refine x_if_eq 102 dX6_hear_89 (fun h89 => ?_) (fun h89 => ?_) (ha := by omega)
    · refine x_iconst dX6_hear_102 ?_
      refine x_ist8 dX6_hear_103 ?_
      refine x_iload dX6_hear_105 rfl ?_
      refine x_iload dX6_hear_107 rfl ?_
      refine x_icmp_lt 132 dX6_hear_109 (fun h109 => ?_) (fun h109 => ?_) (ha := by omega)
      · refine x_inc9 dX6_hear_132 ?_
        refine x_goto 64 dX6_hear_135 ?_
        have er : rgt (fun i => it ((24 * s).toNat + f.toNat + i)) (k + 1) = 0 := by simp only [rgt]; (first | exact if_pos (by omega) | exact if_neg (by omega))
        have eg : gcnt (fun i => it ((24 * s).toNat + f.toNat + i)) g (k + 1) = gcnt (fun i => it ((24 * s).toNat + f.toNat + i)) g k := if_pos h109
        have ea : lsa (fun i => it ((24 * s).toNat + f.toNat + i)) g ah (k + 1) = lsa (fun i => it ((24 * s).toNat + f.toNat + i)) g ah k := if_pos h109
        have eb : lsb (fun i => it ((24 * s).toNat + f.toNat + i)) g m be (k + 1) = lsb (fun i => it ((24 * s).toNat + f.toNat + i)) g m be k := if_pos h109
        have := ih (k + 1) (some (.int (iI (it ((24 * s).toNat + f.toNat + k))))) (by omega)
        rw [er, eg, ea, eb] at this
        exact this
      · refine x_inc7 dX6_hear_112 ?_
        refine x_aload_n dX6_hear_115 rfl ?_
        refine x_iload dX6_hear_116 rfl ?_
        refine x_iconst dX6_hear_118 ?_
        refine x_iadd dX6_hear_119 ?_
        refine x_putfield 0 dX6_hear_120 fl_X6_140 hP rfl (fun _ _ => ⟨rfl, rfl⟩) ?_
        refine x_aload_n dX6_hear_123 rfl ?_
        refine x_iload dX6_hear_124 rfl ?_
        refine x_iload dX6_hear_126 rfl ?_
        refine x_isub dX6_hear_128 ?_
        refine x_putfield 0 dX6_hear_129 fl_X6_143 hP rfl (fun _ _ => ⟨rfl, rfl⟩) ?_
        refine x_inc9 dX6_hear_132 ?_
        refine x_goto 64 dX6_hear_135 ?_
        have er : rgt (fun i => it ((24 * s).toNat + f.toNat + i)) (k + 1) = 0 := by simp only [rgt]; (first | exact if_pos (by omega) | exact if_neg (by omega))
        have eg : gcnt (fun i => it ((24 * s).toNat + f.toNat + i)) g (k + 1) = gcnt (fun i => it ((24 * s).toNat + f.toNat + i)) g k + 1 := if_neg h109
        have ea : lsa (fun i => it ((24 * s).toNat + f.toNat + i)) g ah (k + 1) = (k : Int) + 1 := if_neg h109
        have eb : lsb (fun i => it ((24 * s).toNat + f.toNat + i)) g m be (k + 1) = m - (k : Int) := if_neg h109
        have := ih (k + 1) (some (.int (iI (it ((24 * s).toNat + f.toNat + k))))) (by omega)
        rw [er, eg, ea, eb] at this
        exact this
    · refine x_iload dX6_hear_92 rfl ?_
      refine x_iconst dX6_hear_94 ?_
      refine x_icmp_lt 102 dX6_hear_95 (fun h95 => ?_) (fun h95 => ?_) (ha := by omega)
      · refine x_iconst dX6_hear_102 ?_
        refine x_ist8 dX6_hear_103 ?_
        refine x_iload dX6_hear_105 rfl ?_
        refine x_iload dX6_hear_107 rfl ?_
        refine x_icmp_lt 132 dX6_hear_109 (fun h109 => ?_) (fun h109 => ?_) (ha := by omega)
        · refine x_inc9 dX6_hear_132 ?_
          refine x_goto 64 dX6_hear_135 ?_
          have er : rgt (fun i => it ((24 * s).toNat + f.toNat + i)) (k + 1) = 0 := by simp only [rgt]; (first | exact if_pos (by omega) | exact if_neg (by omega))
          have eg : gcnt (fun i => it ((24 * s).toNat + f.toNat + i)) g (k + 1) = gcnt (fun i => it ((24 * s).toNat + f.toNat + i)) g k := if_pos h109
          have ea : lsa (fun i => it ((24 * s).toNat + f.toNat + i)) g ah (k + 1) = lsa (fun i => it ((24 * s).toNat + f.toNat + i)) g ah k := if_pos h109
          have eb : lsb (fun i => it ((24 * s).toNat + f.toNat + i)) g m be (k + 1) = lsb (fun i => it ((24 * s).toNat + f.toNat + i)) g m be k := if_pos h109
          have := ih (k + 1) (some (.int (iI (it ((24 * s).toNat + f.toNat + k))))) (by omega)
          rw [er, eg, ea, eb] at this
          exact this
        · refine x_inc7 dX6_hear_112 ?_
          refine x_aload_n dX6_hear_115 rfl ?_
          refine x_iload dX6_hear_116 rfl ?_
          refine x_iconst dX6_hear_118 ?_
          refine x_iadd dX6_hear_119 ?_
          refine x_putfield 0 dX6_hear_120 fl_X6_140 hP rfl (fun _ _ => ⟨rfl, rfl⟩) ?_
          refine x_aload_n dX6_hear_123 rfl ?_
          refine x_iload dX6_hear_124 rfl ?_
          refine x_iload dX6_hear_126 rfl ?_
          refine x_isub dX6_hear_128 ?_
          refine x_putfield 0 dX6_hear_129 fl_X6_143 hP rfl (fun _ _ => ⟨rfl, rfl⟩) ?_
          refine x_inc9 dX6_hear_132 ?_
          refine x_goto 64 dX6_hear_135 ?_
          have er : rgt (fun i => it ((24 * s).toNat + f.toNat + i)) (k + 1) = 0 := by simp only [rgt]; (first | exact if_pos (by omega) | exact if_neg (by omega))
          have eg : gcnt (fun i => it ((24 * s).toNat + f.toNat + i)) g (k + 1) = gcnt (fun i => it ((24 * s).toNat + f.toNat + i)) g k + 1 := if_neg h109
          have ea : lsa (fun i => it ((24 * s).toNat + f.toNat + i)) g ah (k + 1) = (k : Int) + 1 := if_neg h109
          have eb : lsb (fun i => it ((24 * s).toNat + f.toNat + i)) g m be (k + 1) = m - (k : Int) := if_neg h109
          have := ih (k + 1) (some (.int (iI (it ((24 * s).toNat + f.toNat + k))))) (by omega)
          rw [er, eg, ea, eb] at this
          exact this
      · refine x_iconst dX6_hear_98 ?_
        refine x_goto 103 dX6_hear_99 ?_
        refine x_ist8 dX6_hear_103 ?_
        refine x_iload dX6_hear_105 rfl ?_
        refine x_iload dX6_hear_107 rfl ?_
        refine x_icmp_lt 132 dX6_hear_109 (fun h109 => ?_) (fun h109 => ?_) (ha := by omega)
        · refine x_inc9 dX6_hear_132 ?_
          refine x_goto 64 dX6_hear_135 ?_
          have er : rgt (fun i => it ((24 * s).toNat + f.toNat + i)) (k + 1) = 1 := by simp only [rgt]; (first | exact if_pos (by omega) | exact if_neg (by omega))
          have eg : gcnt (fun i => it ((24 * s).toNat + f.toNat + i)) g (k + 1) = gcnt (fun i => it ((24 * s).toNat + f.toNat + i)) g k := if_pos h109
          have ea : lsa (fun i => it ((24 * s).toNat + f.toNat + i)) g ah (k + 1) = lsa (fun i => it ((24 * s).toNat + f.toNat + i)) g ah k := if_pos h109
          have eb : lsb (fun i => it ((24 * s).toNat + f.toNat + i)) g m be (k + 1) = lsb (fun i => it ((24 * s).toNat + f.toNat + i)) g m be k := if_pos h109
          have := ih (k + 1) (some (.int (iI (it ((24 * s).toNat + f.toNat + k))))) (by omega)
          rw [er, eg, ea, eb] at this
          exact this
        · refine x_inc7 dX6_hear_112 ?_
          refine x_aload_n dX6_hear_115 rfl ?_
          refine x_iload dX6_hear_116 rfl ?_
          refine x_iconst dX6_hear_118 ?_
          refine x_iadd dX6_hear_119 ?_
          refine x_putfield 0 dX6_hear_120 fl_X6_140 hP rfl (fun _ _ => ⟨rfl, rfl⟩) ?_
          refine x_aload_n dX6_hear_123 rfl ?_
          refine x_iload dX6_hear_124 rfl ?_
          refine x_iload dX6_hear_126 rfl ?_
          refine x_isub dX6_hear_128 ?_
          refine x_putfield 0 dX6_hear_129 fl_X6_143 hP rfl (fun _ _ => ⟨rfl, rfl⟩) ?_
          refine x_inc9 dX6_hear_132 ?_
          refine x_goto 64 dX6_hear_135 ?_
          have er : rgt (fun i => it ((24 * s).toNat + f.toNat + i)) (k + 1) = 1 := by simp only [rgt]; (first | exact if_pos (by omega) | exact if_neg (by omega))
          have eg : gcnt (fun i => it ((24 * s).toNat + f.toNat + i)) g (k + 1) = gcnt (fun i => it ((24 * s).toNat + f.toNat + i)) g k + 1 := if_neg h109
          have ea : lsa (fun i => it ((24 * s).toNat + f.toNat + i)) g ah (k + 1) = (k : Int) + 1 := if_neg h109
          have eb : lsb (fun i => it ((24 * s).toNat + f.toNat + i)) g m be (k + 1) = m - (k : Int) := if_neg h109
          have := ih (k + 1) (some (.int (iI (it ((24 * s).toNat + f.toNat + k))))) (by omega)
          rw [er, eg, ea, eb] at this
          exact this
theorem lsa_c (f : Nat → Int) (g x y : Int) : ∀ k : Nat, 1 ≤ gcnt f g k → lsa f g x k = lsa f g y k
  | 0, h => by simp [gcnt] at h
  | k + 1, h => by
    have ih := lsa_c f g x y k
    unfold gcnt at h
    unfold lsa
    split
    · rename_i hc
      rw [if_pos hc] at h
      exact ih h
    · rfl
set_option maxRecDepth 100000 in
set_option maxHeartbeats 4000000 in
theorem c_hear {P : AW} {a : Nat} (hP : P.length = a) (z sp : Nat → Int) (n : Nat) (sa ba : Nat → Int) (dn ah be : Int) (tp : Nat → Int) (tl ta ac : Nat) (kd nb : Nat → Int) (ik : Int) (im ln rs it : Nat → Int) (R : AW) (hSh : SH ln rs it) (s l f m g : Int) (his : inR s) (hil : inR l) (hif : inR f) (him : inR m) (hig : inR g) : CTi I_X6_hear 0 0 [.ref (a + 0), .int (iI s), .int (iI l), .int (iI f), .int (iI m), .int (iI g)] (P ++ mw a z sp n sa ba dn ah be tp tl ta ac kd nb ik im ln rs it R) (fun x w' => x = rHear ln rs it s l f m g ∧ ∃ (ah be : Int), w' = P ++ mw a z sp n sa ba dn ah be tp tl ta ac kd nb ik im ln rs it R ∧ (x = 0 → ah = gapA it s f m g ∧ be = m + 1 - gapA it s f m g)) := by
  refine CT_of 5 rfl (Nat.le_of_ble_eq_true rfl) ?_
  show EX I_X6_hear 0 0 none _ 0 [some (.ref (a + 0)), some (.int (iI s)), some (.int (iI l)), some (.int (iI f)), some (.int (iI m)), some (.int (iI g)), none, none, none, none, none] [] _ 0 0
  refine x_iload_n dX6_hear_0 rfl ?_
  refine x_iload_n dX6_hear_1 rfl ?_
  refine x_calliS dX6_hear_2 mk_X6_isSheet ml_X6_132 (c_isSheet _ s l his hil) rfl (fun x2 w2 h2 => ?_)
  obtain ⟨hb2, rfl⟩ := h2
  by_cases c2 : 0 ≤ s ∧ s ≤ 3 ∧ 0 ≤ l ∧ l ≤ 2
  · rw [if_pos c2] at hb2
    subst hb2
    refine x_if_eq 34 dX6_hear_5 (fun h5 => absurd h5 (by decide)) (fun h5 => ?_)
    refine x_iload dX6_hear_8 rfl ?_
    refine x_i2l dX6_hear_10 ?_
    refine x_lconst dX6_hear_11 ?_
    refine x_ldc2 dX6_hear_12 kl_X6_76 ?_
    refine x_calliS dX6_hear_15 mk_X6_in ml_X6_43 (c_in _ m 1 20 him (by decide) (by decide)) rfl (fun x15 w15 h15 => ?_)
    obtain ⟨hb15, rfl⟩ := h15
    by_cases c15 : 1 ≤ m ∧ m ≤ 20
    · rw [if_pos c15] at hb15
      subst hb15
      refine x_if_eq 34 dX6_hear_18 (fun h18 => absurd h18 (by decide)) (fun h18 => ?_)
      refine x_iload dX6_hear_21 rfl ?_
      refine x_i2l dX6_hear_23 ?_
      refine x_lconst dX6_hear_24 ?_
      refine x_ldc2 dX6_hear_25 kl_X6_74 ?_
      refine x_calliS dX6_hear_28 mk_X6_in ml_X6_43 (c_in _ g 1 999 hig (by decide) (by decide)) rfl (fun x28 w28 h28 => ?_)
      obtain ⟨hb28, rfl⟩ := h28
      by_cases c28 : 1 ≤ g ∧ g ≤ 999
      · rw [if_pos c28] at hb28
        subst hb28
        refine x_if_ne 36 dX6_hear_31 (fun h31 => ?_) (fun h31 => absurd h31 (by decide))
        refine x_aload_n dX6_hear_36 rfl ?_
        refine x_iload_n dX6_hear_37 rfl ?_
        refine x_iload_n dX6_hear_38 rfl ?_
        refine x_iload_n dX6_hear_39 rfl ?_
        refine x_iload dX6_hear_40 rfl ?_
        refine x_calliV dX6_hear_42 mk_X6_lacksRow ml_X6_136 (c_lacksRow hP z sp n sa ba dn ah be tp tl ta ac kd nb ik im ln rs it R hSh s l f m (by omega) hil hif (by omega)) ((wg_app hP 0).trans rfl) rfl (fun x42 w42 h42 => ?_)
        obtain ⟨rfl, rfl⟩ := h42
        have hlr : rLack ln rs s l f m = 0 ∨ rLack ln rs s l f m = -13 ∨ rLack ln rs s l f m = -12 ∨ rLack ln rs s l f m = -11 := by unfold rLack; (repeat' split) <;> omega
        have hl0 : ¬ rLack ln rs s l f m < 0 → 0 ≤ f ∧ f ≤ rs s.toNat - m := by unfold rLack; (repeat' split) <;> omega
        refine x_ist6 dX6_hear_45 ?_
        refine x_iload dX6_hear_47 rfl ?_
        refine x_if_ge 55 dX6_hear_49 (fun h49 => ?_) (fun h49 => ?_) (ha := by omega)
        · refine x_iconst dX6_hear_55 ?_
          refine x_ist7 dX6_hear_56 ?_
          refine x_iconst dX6_hear_58 ?_
          refine x_ist8 dX6_hear_59 ?_
          refine x_iconst dX6_hear_61 ?_
          refine x_ist9 dX6_hear_62 ?_
          refine l_hear hP z sp n sa ba dn ah be tp tl ta ac kd nb ik im ln rs it R hSh s l f m g his hil hif him hig (by omega) (hl0 (by omega)) (by omega) _ (fun l10 => ?_) m.toNat 0 none (by omega)
          have hgc := gcnt_b (fun i => it ((24 * s).toNat + f.toNat + i)) g m.toNat
          have hrg := rgt_b (fun i => it ((24 * s).toNat + f.toNat + i)) m.toNat
          refine x_iload dX6_hear_138 rfl ?_
          refine x_if_ne 148 dX6_hear_140 (fun h140 => ?_) (fun h140 => ?_) (ha := by omega)
          · refine x_iload dX6_hear_148 rfl ?_
            refine x_iconst dX6_hear_150 ?_
            refine x_icmp_eq 159 dX6_hear_151 (fun h151 => ?_) (fun h151 => ?_) (ha := by omega)
            · refine x_iconst dX6_hear_159 ?_
              exact x_iret dX6_hear_160 (⟨by unfold rHear; (repeat' split) <;> first | rfl | omega | (exfalso; omega), _, _, rfl, fun q => by first | (exfalso; omega) | exact ⟨(lsa_c (fun i => it ((24 * s).toNat + f.toNat + i)) g ah 0 m.toNat (by omega)), lsb_a (fun i => it ((24 * s).toNat + f.toNat + i)) g m 0 be m.toNat (by omega)⟩⟩)
            · refine x_bipush dX6_hear_154 ?_
              refine x_goto 160 dX6_hear_156 ?_
              exact x_iret dX6_hear_160 (⟨by unfold rHear; (repeat' split) <;> first | rfl | omega | (exfalso; omega), _, _, rfl, fun q => by first | (exfalso; omega) | exact ⟨(lsa_c (fun i => it ((24 * s).toNat + f.toNat + i)) g ah 0 m.toNat (by omega)), lsb_a (fun i => it ((24 * s).toNat + f.toNat + i)) g m 0 be m.toNat (by omega)⟩⟩)
          · refine x_bipush dX6_hear_143 ?_
            refine x_goto 160 dX6_hear_145 ?_
            exact x_iret dX6_hear_160 (⟨by unfold rHear; (repeat' split) <;> first | rfl | omega | (exfalso; omega), _, _, rfl, fun q => by first | (exfalso; omega) | exact ⟨(lsa_c (fun i => it ((24 * s).toNat + f.toNat + i)) g ah 0 m.toNat (by omega)), lsb_a (fun i => it ((24 * s).toNat + f.toNat + i)) g m 0 be m.toNat (by omega)⟩⟩)
        · refine x_iload dX6_hear_52 rfl ?_
          exact x_iret dX6_hear_54 (⟨by unfold rHear; (repeat' split) <;> first | rfl | omega | (exfalso; omega), _, _, rfl, fun q => by exfalso; omega⟩)
      · rw [if_neg c28] at hb28
        subst hb28
        refine x_if_ne 36 dX6_hear_31 (fun h31 => absurd h31 (by decide)) (fun h31 => ?_)
        refine x_iconst dX6_hear_34 ?_
        exact x_iret dX6_hear_35 (⟨by unfold rHear; (repeat' split) <;> first | rfl | omega | (exfalso; omega), _, _, rfl, fun q => by exfalso; omega⟩)
    · rw [if_neg c15] at hb15
      subst hb15
      refine x_if_eq 34 dX6_hear_18 (fun h18 => ?_) (fun h18 => absurd h18 (by decide))
      refine x_iconst dX6_hear_34 ?_
      exact x_iret dX6_hear_35 (⟨by unfold rHear; (repeat' split) <;> first | rfl | omega | (exfalso; omega), _, _, rfl, fun q => by exfalso; omega⟩)
  · rw [if_neg c2] at hb2
    subst hb2
    refine x_if_eq 34 dX6_hear_5 (fun h5 => ?_) (fun h5 => absurd h5 (by decide))
    refine x_iconst dX6_hear_34 ?_
    exact x_iret dX6_hear_35 (⟨by unfold rHear; (repeat' split) <;> first | rfl | omega | (exfalso; omega), _, _, rfl, fun q => by exfalso; omega⟩)
set_option maxRecDepth 100000 in
set_option maxHeartbeats 4000000 in
theorem c_isTold (w : AW) (u v : Int) (hiu : inR u) (hiv : inR v) : CTi I_X6_isTold 0 0 [.int (iI u), .int (iI v)] (w) (fun x w' => x = (if 1 ≤ u ∧ u ≤ 10 ∧ 1 ≤ v ∧ v ≤ 2 then 1 else 0) ∧ w' = w) := by
  refine CT_of 0 rfl (Nat.le_of_ble_eq_true rfl) ?_
  show EX I_X6_isTold 0 0 none _ 0 [some (.int (iI u)), some (.int (iI v))] [] _ 0 0
  refine x_iload_n dX6_isTold_0 rfl ?_
  refine x_i2l dX6_isTold_1 ?_
  refine x_lconst dX6_isTold_2 ?_
  refine x_ldc2 dX6_isTold_3 kl_X6_146 ?_
  refine x_calliS dX6_isTold_6 mk_X6_in ml_X6_43 (c_in _ u 1 10 hiu (by decide) (by decide)) rfl (fun x6 w6 h6 => ?_)
  obtain ⟨hb6, rfl⟩ := h6
  by_cases c6 : 1 ≤ u ∧ u ≤ 10
  · rw [if_pos c6] at hb6
    subst hb6
    refine x_if_eq 28 dX6_isTold_9 (fun h9 => absurd h9 (by decide)) (fun h9 => ?_)
    refine x_iload_n dX6_isTold_12 rfl ?_
    refine x_i2l dX6_isTold_13 ?_
    refine x_lconst dX6_isTold_14 ?_
    refine x_ldc2 dX6_isTold_15 kl_X6_70 ?_
    refine x_calliS dX6_isTold_18 mk_X6_in ml_X6_43 (c_in _ v 1 2 hiv (by decide) (by decide)) rfl (fun x18 w18 h18 => ?_)
    obtain ⟨hb18, rfl⟩ := h18
    by_cases c18 : 1 ≤ v ∧ v ≤ 2
    · rw [if_pos c18] at hb18
      subst hb18
      refine x_if_eq 28 dX6_isTold_21 (fun h21 => absurd h21 (by decide)) (fun h21 => ?_)
      refine x_iconst dX6_isTold_24 ?_
      refine x_goto 29 dX6_isTold_25 ?_
      exact x_zret dX6_isTold_29 (by omega) (⟨by (repeat' split) <;> omega, rfl⟩)
    · rw [if_neg c18] at hb18
      subst hb18
      refine x_if_eq 28 dX6_isTold_21 (fun h21 => ?_) (fun h21 => absurd h21 (by decide))
      refine x_iconst dX6_isTold_28 ?_
      exact x_zret dX6_isTold_29 (by omega) (⟨by (repeat' split) <;> omega, rfl⟩)
  · rw [if_neg c6] at hb6
    subst hb6
    refine x_if_eq 28 dX6_isTold_9 (fun h9 => ?_) (fun h9 => absurd h9 (by decide))
    refine x_iconst dX6_isTold_28 ?_
    exact x_zret dX6_isTold_29 (by omega) (⟨by (repeat' split) <;> omega, rfl⟩)
set_option maxRecDepth 100000 in
set_option maxHeartbeats 4000000 in
theorem c_songOf (w : AW) (u v : Int) : CTi I_X6_songOf 0 0 [.int (iI u), .int (iI v)] (w) (fun x w' => x = sgO u v ∧ w' = w) := by
  refine CT_of 0 rfl (Nat.le_of_ble_eq_true rfl) ?_
  show EX I_X6_songOf 0 0 none _ 0 [some (.int (iI u)), some (.int (iI v))] [] _ 0 0
  refine x_iconst dX6_songOf_0 ?_
  refine x_iload_n dX6_songOf_1 rfl ?_
  refine x_iconst dX6_songOf_2 ?_
  refine x_isub dX6_songOf_3 ?_
  refine x_imul dX6_songOf_4 ?_
  refine x_iload_n dX6_songOf_5 rfl ?_
  refine x_iadd dX6_songOf_6 ?_
  refine x_iconst dX6_songOf_7 ?_
  refine x_isub dX6_songOf_8 ?_
  exact x_iret dX6_songOf_9 (⟨rfl, rfl⟩)
theorem rHear_b (ln rs it : Nat → Int) (s l f m g : Int) : rHear ln rs it s l f m g = 0 ∨ (-13 ≤ rHear ln rs it s l f m g ∧ rHear ln rs it s l f m g < 0) := by
  unfold rHear rLack
  (repeat' split) <;> omega
theorem rHear_0 {ln rs it : Nat → Int} {s l f m g : Int} (h : rHear ln rs it s l f m g = 0) : 1 ≤ m ∧ m ≤ 20 ∧ 1 ≤ gapA it s f m g ∧ gapA it s f m g ≤ m := by
  unfold rHear at h
  split at h
  · split at h
    · omega
    · split at h
      · omega
      · split at h
        · rename_i h1 _ _ h4
          have := lsa_b (fun i => it ((24 * s).toNat + f.toNat + i)) g 0 m.toNat
          unfold gapA
          omega
        · omega
  · omega
set_option maxRecDepth 100000 in
set_option maxHeartbeats 4000000 in
theorem c_heard {P : AW} {a : Nat} (hP : P.length = a) (z sp : Nat → Int) (n : Nat) (sa ba : Nat → Int) (dn ah be : Int) (tp : Nat → Int) (tl ta ac : Nat) (kd nb : Nat → Int) (ik : Int) (im ln rs it : Nat → Int) (R : AW) (hSh : SH ln rs it) (s l f m g : Int) (his : inR s) (hil : inR l) (hif : inR f) (him : inR m) (hig : inR g) : CTi I_X6_heard 0 0 [.ref (a + 0), .int (iI s), .int (iI l), .int (iI f), .int (iI m), .int (iI g)] (P ++ mw a z sp n sa ba dn ah be tp tl ta ac kd nb ik im ln rs it R) (fun x w' => x = rHeard ln rs it s l f m g ∧ ∃ (ah be : Int), w' = P ++ mw a z sp n sa ba dn ah be tp tl ta ac kd nb ik im ln rs it R) := by
  refine CT_of 1 rfl (Nat.le_of_ble_eq_true rfl) ?_
  show EX I_X6_heard 0 0 none _ 0 [some (.ref (a + 0)), some (.int (iI s)), some (.int (iI l)), some (.int (iI f)), some (.int (iI m)), some (.int (iI g)), none] [] _ 0 0
  refine x_aload_n dX6_heard_0 rfl ?_
  refine x_iload_n dX6_heard_1 rfl ?_
  refine x_iload_n dX6_heard_2 rfl ?_
  refine x_iload_n dX6_heard_3 rfl ?_
  refine x_iload dX6_heard_4 rfl ?_
  refine x_iload dX6_heard_6 rfl ?_
  refine x_calliV dX6_heard_8 mk_X6_hear ml_X6_148 (c_hear hP z sp n sa ba dn ah be tp tl ta ac kd nb ik im ln rs it R hSh s l f m g his hil hif him hig) ((wg_app hP 0).trans rfl) rfl (fun x8 w8 h8 => ?_)
  obtain ⟨rfl, ah', be', rfl, hab⟩ := h8
  have hrr := rHear_b ln rs it s l f m g
  refine x_ist6 dX6_heard_11 ?_
  refine x_iload dX6_heard_13 rfl ?_
  refine x_if_ge 23 dX6_heard_15 (fun h15 => ?_) (fun h15 => ?_) (ha := by omega)
  · have h0 := hab (by omega)
    obtain ⟨rfl, rfl⟩ := h0
    have hg0 := rHear_0 (ln := ln) (rs := rs) (it := it) (s := s) (l := l) (f := f) (m := m) (g := g) (by omega)
    refine x_aload_n dX6_heard_23 rfl ?_
    refine x_getfield 0 dX6_heard_24 fg_X6_140 hP rfl rfl ?_
    refine x_aload_n dX6_heard_27 rfl ?_
    refine x_getfield 0 dX6_heard_28 fg_X6_143 hP rfl rfl ?_
    refine x_calliS dX6_heard_31 mk_X6_isTold ml_X6_152 (c_isTold _ (gapA it s f m g) (m + 1 - gapA it s f m g) (by omega) (by omega)) rfl (fun x31 w31 h31 => ?_)
    obtain ⟨hb31, rfl⟩ := h31
    by_cases c31 : 1 ≤ gapA it s f m g ∧ gapA it s f m g ≤ 10 ∧ 1 ≤ m + 1 - gapA it s f m g ∧ m + 1 - gapA it s f m g ≤ 2
    · rw [if_pos c31] at hb31
      subst hb31
      refine x_if_eq 51 dX6_heard_34 (fun h34 => absurd h34 (by decide)) (fun h34 => ?_)
      refine x_aload_n dX6_heard_37 rfl ?_
      refine x_getfield 0 dX6_heard_38 fg_X6_140 hP rfl rfl ?_
      refine x_aload_n dX6_heard_41 rfl ?_
      refine x_getfield 0 dX6_heard_42 fg_X6_143 hP rfl rfl ?_
      refine x_calliS dX6_heard_45 mk_X6_songOf ml_X6_155 (c_songOf _ (gapA it s f m g) (m + 1 - gapA it s f m g)) rfl (fun x45 w45 h45 => ?_)
      obtain ⟨rfl, rfl⟩ := h45
      refine x_goto 53 dX6_heard_48 ?_
      exact x_iret dX6_heard_53 (⟨by unfold rHeard; (repeat' split) <;> first | rfl | omega | (exfalso; omega), _, _, rfl⟩)
    · rw [if_neg c31] at hb31
      subst hb31
      refine x_if_eq 51 dX6_heard_34 (fun h34 => ?_) (fun h34 => absurd h34 (by decide))
      refine x_bipush dX6_heard_51 ?_
      exact x_iret dX6_heard_53 (⟨by unfold rHeard; (repeat' split) <;> first | rfl | omega | (exfalso; omega), _, _, rfl⟩)
  · refine x_iload dX6_heard_18 rfl ?_
    refine x_goto 53 dX6_heard_20 ?_
    exact x_iret dX6_heard_53 (⟨by unfold rHeard; (repeat' split) <;> first | rfl | omega | (exfalso; omega), _, _, rfl⟩)
set_option maxRecDepth 100000 in
set_option maxHeartbeats 4000000 in
theorem c_mayBe {P : AW} {a : Nat} (hP : P.length = a) (z sp : Nat → Int) (n : Nat) (sa ba : Nat → Int) (dn ah be : Int) (tp : Nat → Int) (tl ta ac : Nat) (kd nb : Nat → Int) (ik : Int) (im ln rs it : Nat → Int) (R : AW) (hSh : SH ln rs it) (s l f m g : Int) (his : inR s) (hil : inR l) (hif : inR f) (him : inR m) (hig : inR g) : CTi I_X6_mayBe 0 0 [.ref (a + 0), .int (iI s), .int (iI l), .int (iI f), .int (iI m), .int (iI g)] (P ++ mw a z sp n sa ba dn ah be tp tl ta ac kd nb ik im ln rs it R) (fun x w' => x = rMay ln rs it s l f m g ∧ ∃ (ah be : Int), w' = P ++ mw a z sp n sa ba dn ah be tp tl ta ac kd nb ik im ln rs it R) := by
  refine CT_of 2 rfl (Nat.le_of_ble_eq_true rfl) ?_
  show EX I_X6_mayBe 0 0 none _ 0 [some (.ref (a + 0)), some (.int (iI s)), some (.int (iI l)), some (.int (iI f)), some (.int (iI m)), some (.int (iI g)), none, none] [] _ 0 0
  refine x_aload_n dX6_mayBe_0 rfl ?_
  refine x_iload_n dX6_mayBe_1 rfl ?_
  refine x_iload_n dX6_mayBe_2 rfl ?_
  refine x_iload_n dX6_mayBe_3 rfl ?_
  refine x_iload dX6_mayBe_4 rfl ?_
  refine x_iload dX6_mayBe_6 rfl ?_
  refine x_calliV dX6_mayBe_8 mk_X6_hear ml_X6_148 (c_hear hP z sp n sa ba dn ah be tp tl ta ac kd nb ik im ln rs it R hSh s l f m g his hil hif him hig) ((wg_app hP 0).trans rfl) rfl (fun x8 w8 h8 => ?_)
  obtain ⟨rfl, ah', be', rfl, hab⟩ := h8
  have hrr := rHear_b ln rs it s l f m g
  refine x_ist6 dX6_mayBe_11 ?_
  refine x_iload dX6_mayBe_13 rfl ?_
  refine x_if_ge 21 dX6_mayBe_15 (fun h15 => ?_) (fun h15 => ?_) (ha := by omega)
  · have h0 := hab (by omega)
    obtain ⟨rfl, rfl⟩ := h0
    have hg0 := rHear_0 (ln := ln) (rs := rs) (it := it) (s := s) (l := l) (f := f) (m := m) (g := g) (by omega)
    refine x_aload_n dX6_mayBe_21 rfl ?_
    refine x_getfield 0 dX6_mayBe_22 fg_X6_140 hP rfl rfl ?_
    refine x_aload_n dX6_mayBe_25 rfl ?_
    refine x_getfield 0 dX6_mayBe_26 fg_X6_143 hP rfl rfl ?_
    refine x_calliS dX6_mayBe_29 mk_X6_isTold ml_X6_152 (c_isTold _ (gapA it s f m g) (m + 1 - gapA it s f m g) (by omega) (by omega)) rfl (fun x29 w29 h29 => ?_)
    obtain ⟨hb29, rfl⟩ := h29
    by_cases c29 : 1 ≤ gapA it s f m g ∧ gapA it s f m g ≤ 10 ∧ 1 ≤ m + 1 - gapA it s f m g ∧ m + 1 - gapA it s f m g ≤ 2
    · rw [if_pos c29] at hb29
      subst hb29
      refine x_if_eq 51 dX6_mayBe_32 (fun h32 => absurd h32 (by decide)) (fun h32 => ?_)
      refine x_iconst dX6_mayBe_35 ?_
      refine x_aload_n dX6_mayBe_36 rfl ?_
      refine x_getfield 0 dX6_mayBe_37 fg_X6_140 hP rfl rfl ?_
      refine x_aload_n dX6_mayBe_40 rfl ?_
      refine x_getfield 0 dX6_mayBe_41 fg_X6_143 hP rfl rfl ?_
      refine x_calliS dX6_mayBe_44 mk_X6_songOf ml_X6_155 (c_songOf _ (gapA it s f m g) (m + 1 - gapA it s f m g)) rfl (fun x44 w44 h44 => ?_)
      obtain ⟨rfl, rfl⟩ := h44
      refine x_ishl dX6_mayBe_47 (shl_i _ _) ?_
      refine x_goto 52 dX6_mayBe_48 ?_
      refine x_ist7 dX6_mayBe_52 ?_
      refine x_iload dX6_mayBe_54 rfl ?_
      refine x_aload_n dX6_mayBe_56 rfl ?_
      refine x_getfield 0 dX6_mayBe_57 fg_X6_140 hP rfl rfl ?_
      refine x_iconst dX6_mayBe_60 ?_
      refine x_iadd dX6_mayBe_61 ?_
      refine x_aload_n dX6_mayBe_62 rfl ?_
      refine x_getfield 0 dX6_mayBe_63 fg_X6_143 hP rfl rfl ?_
      refine x_calliS dX6_mayBe_66 mk_X6_isTold ml_X6_152 (c_isTold _ (gapA it s f m g + 1) (m + 1 - gapA it s f m g) (by omega) (by omega)) rfl (fun x66 w66 h66 => ?_)
      obtain ⟨hb66, rfl⟩ := h66
      by_cases c66 : 1 ≤ (gapA it s f m g + 1) ∧ (gapA it s f m g + 1) ≤ 10 ∧ 1 ≤ m + 1 - gapA it s f m g ∧ m + 1 - gapA it s f m g ≤ 2
      · rw [if_pos c66] at hb66
        subst hb66
        refine x_if_eq 90 dX6_mayBe_69 (fun h69 => absurd h69 (by decide)) (fun h69 => ?_)
        refine x_iconst dX6_mayBe_72 ?_
        refine x_aload_n dX6_mayBe_73 rfl ?_
        refine x_getfield 0 dX6_mayBe_74 fg_X6_140 hP rfl rfl ?_
        refine x_iconst dX6_mayBe_77 ?_
        refine x_iadd dX6_mayBe_78 ?_
        refine x_aload_n dX6_mayBe_79 rfl ?_
        refine x_getfield 0 dX6_mayBe_80 fg_X6_143 hP rfl rfl ?_
        refine x_calliS dX6_mayBe_83 mk_X6_songOf ml_X6_155 (c_songOf _ (gapA it s f m g + 1) (m + 1 - gapA it s f m g)) rfl (fun x83 w83 h83 => ?_)
        obtain ⟨rfl, rfl⟩ := h83
        refine x_ishl dX6_mayBe_86 (shl_i _ _) ?_
        refine x_goto 91 dX6_mayBe_87 ?_
        refine x_ior dX6_mayBe_91 (or_i _ _) ?_
        refine x_ist7 dX6_mayBe_92 ?_
        refine x_iload dX6_mayBe_94 rfl ?_
        refine x_aload_n dX6_mayBe_96 rfl ?_
        refine x_getfield 0 dX6_mayBe_97 fg_X6_140 hP rfl rfl ?_
        refine x_aload_n dX6_mayBe_100 rfl ?_
        refine x_getfield 0 dX6_mayBe_101 fg_X6_143 hP rfl rfl ?_
        refine x_iconst dX6_mayBe_104 ?_
        refine x_iadd dX6_mayBe_105 ?_
        refine x_calliS dX6_mayBe_106 mk_X6_isTold ml_X6_152 (c_isTold _ (gapA it s f m g) (m + 1 - gapA it s f m g + 1) (by omega) (by omega)) rfl (fun x106 w106 h106 => ?_)
        obtain ⟨hb106, rfl⟩ := h106
        by_cases c106 : 1 ≤ gapA it s f m g ∧ gapA it s f m g ≤ 10 ∧ 1 ≤ (m + 1 - gapA it s f m g + 1) ∧ (m + 1 - gapA it s f m g + 1) ≤ 2
        · rw [if_pos c106] at hb106
          subst hb106
          refine x_if_eq 130 dX6_mayBe_109 (fun h109 => absurd h109 (by decide)) (fun h109 => ?_)
          refine x_iconst dX6_mayBe_112 ?_
          refine x_aload_n dX6_mayBe_113 rfl ?_
          refine x_getfield 0 dX6_mayBe_114 fg_X6_140 hP rfl rfl ?_
          refine x_aload_n dX6_mayBe_117 rfl ?_
          refine x_getfield 0 dX6_mayBe_118 fg_X6_143 hP rfl rfl ?_
          refine x_iconst dX6_mayBe_121 ?_
          refine x_iadd dX6_mayBe_122 ?_
          refine x_calliS dX6_mayBe_123 mk_X6_songOf ml_X6_155 (c_songOf _ (gapA it s f m g) (m + 1 - gapA it s f m g + 1)) rfl (fun x123 w123 h123 => ?_)
          obtain ⟨rfl, rfl⟩ := h123
          refine x_ishl dX6_mayBe_126 (shl_i _ _) ?_
          refine x_goto 131 dX6_mayBe_127 ?_
          refine x_ior dX6_mayBe_131 (or_i _ _) ?_
          refine x_ist7 dX6_mayBe_132 ?_
          refine x_iload dX6_mayBe_134 rfl ?_
          refine x_if_ne 144 dX6_mayBe_136 (fun h136 => ?_) (fun h136 => ?_) (ha := orI_R _ _)
          · refine x_iload dX6_mayBe_144 rfl ?_
            exact x_iret dX6_mayBe_146 (⟨by unfold rMay; rw [if_neg (by omega)]; unfold bits3 bitO; rw [if_pos c29, if_pos c66, if_pos c106]; exact (if_neg h136).symm, _, _, rfl⟩)
          · refine x_bipush dX6_mayBe_139 ?_
            refine x_goto 146 dX6_mayBe_141 ?_
            exact x_iret dX6_mayBe_146 (⟨by unfold rMay; rw [if_neg (by omega)]; unfold bits3 bitO; rw [if_pos c29, if_pos c66, if_pos c106]; exact (if_pos h136).symm, _, _, rfl⟩)
        · rw [if_neg c106] at hb106
          subst hb106
          refine x_if_eq 130 dX6_mayBe_109 (fun h109 => ?_) (fun h109 => absurd h109 (by decide))
          refine x_iconst dX6_mayBe_130 ?_
          refine x_ior dX6_mayBe_131 (or_i _ _) ?_
          refine x_ist7 dX6_mayBe_132 ?_
          refine x_iload dX6_mayBe_134 rfl ?_
          refine x_if_ne 144 dX6_mayBe_136 (fun h136 => ?_) (fun h136 => ?_) (ha := orI_R _ _)
          · refine x_iload dX6_mayBe_144 rfl ?_
            exact x_iret dX6_mayBe_146 (⟨by unfold rMay; rw [if_neg (by omega)]; unfold bits3 bitO; rw [if_pos c29, if_pos c66, if_neg c106]; exact (if_neg h136).symm, _, _, rfl⟩)
          · refine x_bipush dX6_mayBe_139 ?_
            refine x_goto 146 dX6_mayBe_141 ?_
            exact x_iret dX6_mayBe_146 (⟨by unfold rMay; rw [if_neg (by omega)]; unfold bits3 bitO; rw [if_pos c29, if_pos c66, if_neg c106]; exact (if_pos h136).symm, _, _, rfl⟩)
      · rw [if_neg c66] at hb66
        subst hb66
        refine x_if_eq 90 dX6_mayBe_69 (fun h69 => ?_) (fun h69 => absurd h69 (by decide))
        refine x_iconst dX6_mayBe_90 ?_
        refine x_ior dX6_mayBe_91 (or_i _ _) ?_
        refine x_ist7 dX6_mayBe_92 ?_
        refine x_iload dX6_mayBe_94 rfl ?_
        refine x_aload_n dX6_mayBe_96 rfl ?_
        refine x_getfield 0 dX6_mayBe_97 fg_X6_140 hP rfl rfl ?_
        refine x_aload_n dX6_mayBe_100 rfl ?_
        refine x_getfield 0 dX6_mayBe_101 fg_X6_143 hP rfl rfl ?_
        refine x_iconst dX6_mayBe_104 ?_
        refine x_iadd dX6_mayBe_105 ?_
        refine x_calliS dX6_mayBe_106 mk_X6_isTold ml_X6_152 (c_isTold _ (gapA it s f m g) (m + 1 - gapA it s f m g + 1) (by omega) (by omega)) rfl (fun x106 w106 h106 => ?_)
        obtain ⟨hb106, rfl⟩ := h106
        by_cases c106 : 1 ≤ gapA it s f m g ∧ gapA it s f m g ≤ 10 ∧ 1 ≤ (m + 1 - gapA it s f m g + 1) ∧ (m + 1 - gapA it s f m g + 1) ≤ 2
        · rw [if_pos c106] at hb106
          subst hb106
          refine x_if_eq 130 dX6_mayBe_109 (fun h109 => absurd h109 (by decide)) (fun h109 => ?_)
          refine x_iconst dX6_mayBe_112 ?_
          refine x_aload_n dX6_mayBe_113 rfl ?_
          refine x_getfield 0 dX6_mayBe_114 fg_X6_140 hP rfl rfl ?_
          refine x_aload_n dX6_mayBe_117 rfl ?_
          refine x_getfield 0 dX6_mayBe_118 fg_X6_143 hP rfl rfl ?_
          refine x_iconst dX6_mayBe_121 ?_
          refine x_iadd dX6_mayBe_122 ?_
          refine x_calliS dX6_mayBe_123 mk_X6_songOf ml_X6_155 (c_songOf _ (gapA it s f m g) (m + 1 - gapA it s f m g + 1)) rfl (fun x123 w123 h123 => ?_)
          obtain ⟨rfl, rfl⟩ := h123
          refine x_ishl dX6_mayBe_126 (shl_i _ _) ?_
          refine x_goto 131 dX6_mayBe_127 ?_
          refine x_ior dX6_mayBe_131 (or_i _ _) ?_
          refine x_ist7 dX6_mayBe_132 ?_
          refine x_iload dX6_mayBe_134 rfl ?_
          refine x_if_ne 144 dX6_mayBe_136 (fun h136 => ?_) (fun h136 => ?_) (ha := orI_R _ _)
          · refine x_iload dX6_mayBe_144 rfl ?_
            exact x_iret dX6_mayBe_146 (⟨by unfold rMay; rw [if_neg (by omega)]; unfold bits3 bitO; rw [if_pos c29, if_neg c66, if_pos c106]; exact (if_neg h136).symm, _, _, rfl⟩)
          · refine x_bipush dX6_mayBe_139 ?_
            refine x_goto 146 dX6_mayBe_141 ?_
            exact x_iret dX6_mayBe_146 (⟨by unfold rMay; rw [if_neg (by omega)]; unfold bits3 bitO; rw [if_pos c29, if_neg c66, if_pos c106]; exact (if_pos h136).symm, _, _, rfl⟩)
        · rw [if_neg c106] at hb106
          subst hb106
          refine x_if_eq 130 dX6_mayBe_109 (fun h109 => ?_) (fun h109 => absurd h109 (by decide))
          refine x_iconst dX6_mayBe_130 ?_
          refine x_ior dX6_mayBe_131 (or_i _ _) ?_
          refine x_ist7 dX6_mayBe_132 ?_
          refine x_iload dX6_mayBe_134 rfl ?_
          refine x_if_ne 144 dX6_mayBe_136 (fun h136 => ?_) (fun h136 => ?_) (ha := orI_R _ _)
          · refine x_iload dX6_mayBe_144 rfl ?_
            exact x_iret dX6_mayBe_146 (⟨by unfold rMay; rw [if_neg (by omega)]; unfold bits3 bitO; rw [if_pos c29, if_neg c66, if_neg c106]; exact (if_neg h136).symm, _, _, rfl⟩)
          · refine x_bipush dX6_mayBe_139 ?_
            refine x_goto 146 dX6_mayBe_141 ?_
            exact x_iret dX6_mayBe_146 (⟨by unfold rMay; rw [if_neg (by omega)]; unfold bits3 bitO; rw [if_pos c29, if_neg c66, if_neg c106]; exact (if_pos h136).symm, _, _, rfl⟩)
    · rw [if_neg c29] at hb29
      subst hb29
      refine x_if_eq 51 dX6_mayBe_32 (fun h32 => ?_) (fun h32 => absurd h32 (by decide))
      refine x_iconst dX6_mayBe_51 ?_
      refine x_ist7 dX6_mayBe_52 ?_
      refine x_iload dX6_mayBe_54 rfl ?_
      refine x_aload_n dX6_mayBe_56 rfl ?_
      refine x_getfield 0 dX6_mayBe_57 fg_X6_140 hP rfl rfl ?_
      refine x_iconst dX6_mayBe_60 ?_
      refine x_iadd dX6_mayBe_61 ?_
      refine x_aload_n dX6_mayBe_62 rfl ?_
      refine x_getfield 0 dX6_mayBe_63 fg_X6_143 hP rfl rfl ?_
      refine x_calliS dX6_mayBe_66 mk_X6_isTold ml_X6_152 (c_isTold _ (gapA it s f m g + 1) (m + 1 - gapA it s f m g) (by omega) (by omega)) rfl (fun x66 w66 h66 => ?_)
      obtain ⟨hb66, rfl⟩ := h66
      by_cases c66 : 1 ≤ (gapA it s f m g + 1) ∧ (gapA it s f m g + 1) ≤ 10 ∧ 1 ≤ m + 1 - gapA it s f m g ∧ m + 1 - gapA it s f m g ≤ 2
      · rw [if_pos c66] at hb66
        subst hb66
        refine x_if_eq 90 dX6_mayBe_69 (fun h69 => absurd h69 (by decide)) (fun h69 => ?_)
        refine x_iconst dX6_mayBe_72 ?_
        refine x_aload_n dX6_mayBe_73 rfl ?_
        refine x_getfield 0 dX6_mayBe_74 fg_X6_140 hP rfl rfl ?_
        refine x_iconst dX6_mayBe_77 ?_
        refine x_iadd dX6_mayBe_78 ?_
        refine x_aload_n dX6_mayBe_79 rfl ?_
        refine x_getfield 0 dX6_mayBe_80 fg_X6_143 hP rfl rfl ?_
        refine x_calliS dX6_mayBe_83 mk_X6_songOf ml_X6_155 (c_songOf _ (gapA it s f m g + 1) (m + 1 - gapA it s f m g)) rfl (fun x83 w83 h83 => ?_)
        obtain ⟨rfl, rfl⟩ := h83
        refine x_ishl dX6_mayBe_86 (shl_i _ _) ?_
        refine x_goto 91 dX6_mayBe_87 ?_
        refine x_ior dX6_mayBe_91 (or_i _ _) ?_
        refine x_ist7 dX6_mayBe_92 ?_
        refine x_iload dX6_mayBe_94 rfl ?_
        refine x_aload_n dX6_mayBe_96 rfl ?_
        refine x_getfield 0 dX6_mayBe_97 fg_X6_140 hP rfl rfl ?_
        refine x_aload_n dX6_mayBe_100 rfl ?_
        refine x_getfield 0 dX6_mayBe_101 fg_X6_143 hP rfl rfl ?_
        refine x_iconst dX6_mayBe_104 ?_
        refine x_iadd dX6_mayBe_105 ?_
        refine x_calliS dX6_mayBe_106 mk_X6_isTold ml_X6_152 (c_isTold _ (gapA it s f m g) (m + 1 - gapA it s f m g + 1) (by omega) (by omega)) rfl (fun x106 w106 h106 => ?_)
        obtain ⟨hb106, rfl⟩ := h106
        by_cases c106 : 1 ≤ gapA it s f m g ∧ gapA it s f m g ≤ 10 ∧ 1 ≤ (m + 1 - gapA it s f m g + 1) ∧ (m + 1 - gapA it s f m g + 1) ≤ 2
        · rw [if_pos c106] at hb106
          subst hb106
          refine x_if_eq 130 dX6_mayBe_109 (fun h109 => absurd h109 (by decide)) (fun h109 => ?_)
          refine x_iconst dX6_mayBe_112 ?_
          refine x_aload_n dX6_mayBe_113 rfl ?_
          refine x_getfield 0 dX6_mayBe_114 fg_X6_140 hP rfl rfl ?_
          refine x_aload_n dX6_mayBe_117 rfl ?_
          refine x_getfield 0 dX6_mayBe_118 fg_X6_143 hP rfl rfl ?_
          refine x_iconst dX6_mayBe_121 ?_
          refine x_iadd dX6_mayBe_122 ?_
          refine x_calliS dX6_mayBe_123 mk_X6_songOf ml_X6_155 (c_songOf _ (gapA it s f m g) (m + 1 - gapA it s f m g + 1)) rfl (fun x123 w123 h123 => ?_)
          obtain ⟨rfl, rfl⟩ := h123
          refine x_ishl dX6_mayBe_126 (shl_i _ _) ?_
          refine x_goto 131 dX6_mayBe_127 ?_
          refine x_ior dX6_mayBe_131 (or_i _ _) ?_
          refine x_ist7 dX6_mayBe_132 ?_
          refine x_iload dX6_mayBe_134 rfl ?_
          refine x_if_ne 144 dX6_mayBe_136 (fun h136 => ?_) (fun h136 => ?_) (ha := orI_R _ _)
          · refine x_iload dX6_mayBe_144 rfl ?_
            exact x_iret dX6_mayBe_146 (⟨by unfold rMay; rw [if_neg (by omega)]; unfold bits3 bitO; rw [if_neg c29, if_pos c66, if_pos c106]; exact (if_neg h136).symm, _, _, rfl⟩)
          · refine x_bipush dX6_mayBe_139 ?_
            refine x_goto 146 dX6_mayBe_141 ?_
            exact x_iret dX6_mayBe_146 (⟨by unfold rMay; rw [if_neg (by omega)]; unfold bits3 bitO; rw [if_neg c29, if_pos c66, if_pos c106]; exact (if_pos h136).symm, _, _, rfl⟩)
        · rw [if_neg c106] at hb106
          subst hb106
          refine x_if_eq 130 dX6_mayBe_109 (fun h109 => ?_) (fun h109 => absurd h109 (by decide))
          refine x_iconst dX6_mayBe_130 ?_
          refine x_ior dX6_mayBe_131 (or_i _ _) ?_
          refine x_ist7 dX6_mayBe_132 ?_
          refine x_iload dX6_mayBe_134 rfl ?_
          refine x_if_ne 144 dX6_mayBe_136 (fun h136 => ?_) (fun h136 => ?_) (ha := orI_R _ _)
          · refine x_iload dX6_mayBe_144 rfl ?_
            exact x_iret dX6_mayBe_146 (⟨by unfold rMay; rw [if_neg (by omega)]; unfold bits3 bitO; rw [if_neg c29, if_pos c66, if_neg c106]; exact (if_neg h136).symm, _, _, rfl⟩)
          · refine x_bipush dX6_mayBe_139 ?_
            refine x_goto 146 dX6_mayBe_141 ?_
            exact x_iret dX6_mayBe_146 (⟨by unfold rMay; rw [if_neg (by omega)]; unfold bits3 bitO; rw [if_neg c29, if_pos c66, if_neg c106]; exact (if_pos h136).symm, _, _, rfl⟩)
      · rw [if_neg c66] at hb66
        subst hb66
        refine x_if_eq 90 dX6_mayBe_69 (fun h69 => ?_) (fun h69 => absurd h69 (by decide))
        refine x_iconst dX6_mayBe_90 ?_
        refine x_ior dX6_mayBe_91 (or_i _ _) ?_
        refine x_ist7 dX6_mayBe_92 ?_
        refine x_iload dX6_mayBe_94 rfl ?_
        refine x_aload_n dX6_mayBe_96 rfl ?_
        refine x_getfield 0 dX6_mayBe_97 fg_X6_140 hP rfl rfl ?_
        refine x_aload_n dX6_mayBe_100 rfl ?_
        refine x_getfield 0 dX6_mayBe_101 fg_X6_143 hP rfl rfl ?_
        refine x_iconst dX6_mayBe_104 ?_
        refine x_iadd dX6_mayBe_105 ?_
        refine x_calliS dX6_mayBe_106 mk_X6_isTold ml_X6_152 (c_isTold _ (gapA it s f m g) (m + 1 - gapA it s f m g + 1) (by omega) (by omega)) rfl (fun x106 w106 h106 => ?_)
        obtain ⟨hb106, rfl⟩ := h106
        by_cases c106 : 1 ≤ gapA it s f m g ∧ gapA it s f m g ≤ 10 ∧ 1 ≤ (m + 1 - gapA it s f m g + 1) ∧ (m + 1 - gapA it s f m g + 1) ≤ 2
        · rw [if_pos c106] at hb106
          subst hb106
          refine x_if_eq 130 dX6_mayBe_109 (fun h109 => absurd h109 (by decide)) (fun h109 => ?_)
          refine x_iconst dX6_mayBe_112 ?_
          refine x_aload_n dX6_mayBe_113 rfl ?_
          refine x_getfield 0 dX6_mayBe_114 fg_X6_140 hP rfl rfl ?_
          refine x_aload_n dX6_mayBe_117 rfl ?_
          refine x_getfield 0 dX6_mayBe_118 fg_X6_143 hP rfl rfl ?_
          refine x_iconst dX6_mayBe_121 ?_
          refine x_iadd dX6_mayBe_122 ?_
          refine x_calliS dX6_mayBe_123 mk_X6_songOf ml_X6_155 (c_songOf _ (gapA it s f m g) (m + 1 - gapA it s f m g + 1)) rfl (fun x123 w123 h123 => ?_)
          obtain ⟨rfl, rfl⟩ := h123
          refine x_ishl dX6_mayBe_126 (shl_i _ _) ?_
          refine x_goto 131 dX6_mayBe_127 ?_
          refine x_ior dX6_mayBe_131 (or_i _ _) ?_
          refine x_ist7 dX6_mayBe_132 ?_
          refine x_iload dX6_mayBe_134 rfl ?_
          refine x_if_ne 144 dX6_mayBe_136 (fun h136 => ?_) (fun h136 => ?_) (ha := orI_R _ _)
          · refine x_iload dX6_mayBe_144 rfl ?_
            exact x_iret dX6_mayBe_146 (⟨by unfold rMay; rw [if_neg (by omega)]; unfold bits3 bitO; rw [if_neg c29, if_neg c66, if_pos c106]; exact (if_neg h136).symm, _, _, rfl⟩)
          · refine x_bipush dX6_mayBe_139 ?_
            refine x_goto 146 dX6_mayBe_141 ?_
            exact x_iret dX6_mayBe_146 (⟨by unfold rMay; rw [if_neg (by omega)]; unfold bits3 bitO; rw [if_neg c29, if_neg c66, if_pos c106]; exact (if_pos h136).symm, _, _, rfl⟩)
        · rw [if_neg c106] at hb106
          subst hb106
          refine x_if_eq 130 dX6_mayBe_109 (fun h109 => ?_) (fun h109 => absurd h109 (by decide))
          refine x_iconst dX6_mayBe_130 ?_
          refine x_ior dX6_mayBe_131 (or_i _ _) ?_
          refine x_ist7 dX6_mayBe_132 ?_
          refine x_iload dX6_mayBe_134 rfl ?_
          refine x_if_ne 144 dX6_mayBe_136 (fun h136 => ?_) (fun h136 => ?_) (ha := orI_R _ _)
          · refine x_iload dX6_mayBe_144 rfl ?_
            exact x_iret dX6_mayBe_146 (⟨by unfold rMay; rw [if_neg (by omega)]; unfold bits3 bitO; rw [if_neg c29, if_neg c66, if_neg c106]; exact (if_neg h136).symm, _, _, rfl⟩)
          · refine x_bipush dX6_mayBe_139 ?_
            refine x_goto 146 dX6_mayBe_141 ?_
            exact x_iret dX6_mayBe_146 (⟨by unfold rMay; rw [if_neg (by omega)]; unfold bits3 bitO; rw [if_neg c29, if_neg c66, if_neg c106]; exact (if_pos h136).symm, _, _, rfl⟩)
  · refine x_iload dX6_mayBe_18 rfl ?_
    exact x_iret dX6_mayBe_20 (⟨by unfold rMay; (repeat' split) <;> first | rfl | omega | (exfalso; omega), _, _, rfl⟩)
end
