-- ===== PART A: goes FIRST, ahead of the names: the tables' words, and 'selects' of the private methods out of them =====
/-- a private method of a class that the tables say can be made, by its rows of tables_1 -/
def lw_okq (q : MethodName × Nat) : Prop := (q.1.cls ≠ "java/lang/invoke/MethodHandle" ∧ q.1.cls ≠ "java/lang/invoke/VarHandle") ∧ Cond.instantiable q.1.cls q.2 ∈ tables_1 ∧ Cond.privateMethod q.1 ∈ tables_1 ∧ Cond.instanceMethod q.1 ∈ tables_1
theorem lw_p0 : lw_okq (⟨"StillThere$End", "moodByWhatIsKnown", "()I"⟩, 12) := ⟨⟨by decide +kernel, by decide +kernel⟩, List.mem_of_getElem? (i := 41) (by decide +kernel), List.mem_of_getElem? (i := 353) (by decide +kernel), List.mem_of_getElem? (i := 354) (by decide +kernel)⟩
theorem lw_p1 : lw_okq (⟨"StillThere$World", "sendIfDue", "(LStillThere$End;LStillThere$Way;)V"⟩, 8) := ⟨⟨by decide +kernel, by decide +kernel⟩, List.mem_of_getElem? (i := 35) (by decide +kernel), List.mem_of_getElem? (i := 373) (by decide +kernel), List.mem_of_getElem? (i := 374) (by decide +kernel)⟩
theorem lw_p2 : lw_okq (⟨"StillThere", "noticedBy", "(I)I"⟩, 9) := ⟨⟨by decide +kernel, by decide +kernel⟩, List.mem_of_getElem? (i := 12) (by decide +kernel), List.mem_of_getElem? (i := 405) (by decide +kernel), List.mem_of_getElem? (i := 406) (by decide +kernel)⟩
theorem lw_p3 : lw_okq (⟨"StillThere", "enduredBy", "(I)I"⟩, 9) := ⟨⟨by decide +kernel, by decide +kernel⟩, List.mem_of_getElem? (i := 12) (by decide +kernel), List.mem_of_getElem? (i := 424) (by decide +kernel), List.mem_of_getElem? (i := 425) (by decide +kernel)⟩
theorem lw_p4 : lw_okq (⟨"StillThere", "endures", "(II)Z"⟩, 9) := ⟨⟨by decide +kernel, by decide +kernel⟩, List.mem_of_getElem? (i := 12) (by decide +kernel), List.mem_of_getElem? (i := 428) (by decide +kernel), List.mem_of_getElem? (i := 429) (by decide +kernel)⟩
theorem lw_p5 : lw_okq (⟨"StillThere", "remember", "()V"⟩, 9) := ⟨⟨by decide +kernel, by decide +kernel⟩, List.mem_of_getElem? (i := 12) (by decide +kernel), List.mem_of_getElem? (i := 463) (by decide +kernel), List.mem_of_getElem? (i := 464) (by decide +kernel)⟩
theorem lw_p6 : lw_okq (⟨"StillThere", "forgetFirstAct", "()V"⟩, 9) := ⟨⟨by decide +kernel, by decide +kernel⟩, List.mem_of_getElem? (i := 12) (by decide +kernel), List.mem_of_getElem? (i := 467) (by decide +kernel), List.mem_of_getElem? (i := 468) (by decide +kernel)⟩
theorem lw_p7 : lw_okq (⟨"StillThere", "canBe", "(I)Z"⟩, 9) := ⟨⟨by decide +kernel, by decide +kernel⟩, List.mem_of_getElem? (i := 12) (by decide +kernel), List.mem_of_getElem? (i := 520) (by decide +kernel), List.mem_of_getElem? (i := 521) (by decide +kernel)⟩
theorem lw_p8 : lw_okq (⟨"StillThere", "canBeDone", "(II)Z"⟩, 9) := ⟨⟨by decide +kernel, by decide +kernel⟩, List.mem_of_getElem? (i := 12) (by decide +kernel), List.mem_of_getElem? (i := 524) (by decide +kernel), List.mem_of_getElem? (i := 525) (by decide +kernel)⟩
theorem lw_p9 : lw_okq (⟨"StillThere$Sights", "lastTick", "()I"⟩, 4) := ⟨⟨by decide +kernel, by decide +kernel⟩, List.mem_of_getElem? (i := 215) (by decide +kernel), List.mem_of_getElem? (i := 552) (by decide +kernel), List.mem_of_getElem? (i := 553) (by decide +kernel)⟩
theorem lw_p10 : lw_okq (⟨"StillThere$Sights", "holdAt", "(ILStillThere$World;)Z"⟩, 4) := ⟨⟨by decide +kernel, by decide +kernel⟩, List.mem_of_getElem? (i := 215) (by decide +kernel), List.mem_of_getElem? (i := 557) (by decide +kernel), List.mem_of_getElem? (i := 558) (by decide +kernel)⟩
theorem lw_p11 : lw_okq (⟨"StillThere", "sentWith", "(I)I"⟩, 9) := ⟨⟨by decide +kernel, by decide +kernel⟩, List.mem_of_getElem? (i := 12) (by decide +kernel), List.mem_of_getElem? (i := 576) (by decide +kernel), List.mem_of_getElem? (i := 577) (by decide +kernel)⟩
theorem lw_p12 : lw_okq (⟨"StillThere", "areUpWithLost", "(I)Z"⟩, 9) := ⟨⟨by decide +kernel, by decide +kernel⟩, List.mem_of_getElem? (i := 12) (by decide +kernel), List.mem_of_getElem? (i := 603) (by decide +kernel), List.mem_of_getElem? (i := 604) (by decide +kernel)⟩
theorem lw_p13 : lw_okq (⟨"StillThereModel", "readLink", "()I"⟩, 22) := ⟨⟨by decide +kernel, by decide +kernel⟩, List.mem_of_getElem? (i := 630) (by decide +kernel), List.mem_of_getElem? (i := 722) (by decide +kernel), List.mem_of_getElem? (i := 723) (by decide +kernel)⟩
theorem lw_p14 : lw_okq (⟨"StillThereModel", "figure", "(II)I"⟩, 22) := ⟨⟨by decide +kernel, by decide +kernel⟩, List.mem_of_getElem? (i := 630) (by decide +kernel), List.mem_of_getElem? (i := 726) (by decide +kernel), List.mem_of_getElem? (i := 727) (by decide +kernel)⟩
theorem lw_p15 : lw_okq (⟨"StillThereModel", "readEvent", "()I"⟩, 22) := ⟨⟨by decide +kernel, by decide +kernel⟩, List.mem_of_getElem? (i := 630) (by decide +kernel), List.mem_of_getElem? (i := 733) (by decide +kernel), List.mem_of_getElem? (i := 734) (by decide +kernel)⟩
def lw_privs_1 : List (MethodName × Nat) := [(⟨"StillThere$End", "moodByWhatIsKnown", "()I"⟩, 12), (⟨"StillThere$World", "sendIfDue", "(LStillThere$End;LStillThere$Way;)V"⟩, 8), (⟨"StillThere", "noticedBy", "(I)I"⟩, 9), (⟨"StillThere", "enduredBy", "(I)I"⟩, 9), (⟨"StillThere", "endures", "(II)Z"⟩, 9), (⟨"StillThere", "remember", "()V"⟩, 9), (⟨"StillThere", "forgetFirstAct", "()V"⟩, 9), (⟨"StillThere", "canBe", "(I)Z"⟩, 9), (⟨"StillThere", "canBeDone", "(II)Z"⟩, 9), (⟨"StillThere$Sights", "lastTick", "()I"⟩, 4), (⟨"StillThere$Sights", "holdAt", "(ILStillThere$World;)Z"⟩, 4), (⟨"StillThere", "sentWith", "(I)I"⟩, 9), (⟨"StillThere", "areUpWithLost", "(I)Z"⟩, 9), (⟨"StillThereModel", "readLink", "()I"⟩, 22), (⟨"StillThereModel", "figure", "(II)I"⟩, 22), (⟨"StillThereModel", "readEvent", "()I"⟩, 22)]
theorem lw_r1 : ∀ q ∈ lw_privs_1, lw_okq q := List.forall_mem_cons.mpr ⟨lw_p0, List.forall_mem_cons.mpr ⟨lw_p1, List.forall_mem_cons.mpr ⟨lw_p2, List.forall_mem_cons.mpr ⟨lw_p3, List.forall_mem_cons.mpr ⟨lw_p4, List.forall_mem_cons.mpr ⟨lw_p5, List.forall_mem_cons.mpr ⟨lw_p6, List.forall_mem_cons.mpr ⟨lw_p7, List.forall_mem_cons.mpr ⟨lw_p8, List.forall_mem_cons.mpr ⟨lw_p9, List.forall_mem_cons.mpr ⟨lw_p10, List.forall_mem_cons.mpr ⟨lw_p11, List.forall_mem_cons.mpr ⟨lw_p12, List.forall_mem_cons.mpr ⟨lw_p13, List.forall_mem_cons.mpr ⟨lw_p14, List.forall_mem_cons.mpr ⟨lw_p15, fun _ h => absurd h List.not_mem_nil⟩⟩⟩⟩⟩⟩⟩⟩⟩⟩⟩⟩⟩⟩⟩⟩
theorem lw_p16 : lw_okq (⟨"StillThereModel", "layTrial", "()V"⟩, 22) := ⟨⟨by decide +kernel, by decide +kernel⟩, List.mem_of_getElem? (i := 630) (by decide +kernel), List.mem_of_getElem? (i := 744) (by decide +kernel), List.mem_of_getElem? (i := 745) (by decide +kernel)⟩
theorem lw_p17 : lw_okq (⟨"StillThereModel", "goFor", "([II)V"⟩, 22) := ⟨⟨by decide +kernel, by decide +kernel⟩, List.mem_of_getElem? (i := 630) (by decide +kernel), List.mem_of_getElem? (i := 748) (by decide +kernel), List.mem_of_getElem? (i := 749) (by decide +kernel)⟩
theorem lw_p18 : lw_okq (⟨"StillThereModel", "tick", "([I)V"⟩, 22) := ⟨⟨by decide +kernel, by decide +kernel⟩, List.mem_of_getElem? (i := 630) (by decide +kernel), List.mem_of_getElem? (i := 752) (by decide +kernel), List.mem_of_getElem? (i := 753) (by decide +kernel)⟩
theorem lw_p19 : lw_okq (⟨"StillThereModel", "take", "([II)V"⟩, 22) := ⟨⟨by decide +kernel, by decide +kernel⟩, List.mem_of_getElem? (i := 630) (by decide +kernel), List.mem_of_getElem? (i := 756) (by decide +kernel), List.mem_of_getElem? (i := 757) (by decide +kernel)⟩
theorem lw_p20 : lw_okq (⟨"StillThereModel", "sendOn", "([II)V"⟩, 22) := ⟨⟨by decide +kernel, by decide +kernel⟩, List.mem_of_getElem? (i := 630) (by decide +kernel), List.mem_of_getElem? (i := 781) (by decide +kernel), List.mem_of_getElem? (i := 782) (by decide +kernel)⟩
theorem lw_p21 : lw_okq (⟨"StillThereModel", "noticed", "(I)I"⟩, 22) := ⟨⟨by decide +kernel, by decide +kernel⟩, List.mem_of_getElem? (i := 630) (by decide +kernel), List.mem_of_getElem? (i := 799) (by decide +kernel), List.mem_of_getElem? (i := 800) (by decide +kernel)⟩
theorem lw_p22 : lw_okq (⟨"StillThereModel", "endured", "(I)I"⟩, 22) := ⟨⟨by decide +kernel, by decide +kernel⟩, List.mem_of_getElem? (i := 630) (by decide +kernel), List.mem_of_getElem? (i := 803) (by decide +kernel), List.mem_of_getElem? (i := 804) (by decide +kernel)⟩
theorem lw_p23 : lw_okq (⟨"StillThereModel", "endures", "(II)Z"⟩, 22) := ⟨⟨by decide +kernel, by decide +kernel⟩, List.mem_of_getElem? (i := 630) (by decide +kernel), List.mem_of_getElem? (i := 807) (by decide +kernel), List.mem_of_getElem? (i := 808) (by decide +kernel)⟩
theorem lw_p24 : lw_okq (⟨"StillThereModel", "note", "()V"⟩, 22) := ⟨⟨by decide +kernel, by decide +kernel⟩, List.mem_of_getElem? (i := 630) (by decide +kernel), List.mem_of_getElem? (i := 825) (by decide +kernel), List.mem_of_getElem? (i := 826) (by decide +kernel)⟩
theorem lw_p25 : lw_okq (⟨"StillThereModel", "does", "(III)Z"⟩, 22) := ⟨⟨by decide +kernel, by decide +kernel⟩, List.mem_of_getElem? (i := 630) (by decide +kernel), List.mem_of_getElem? (i := 884) (by decide +kernel), List.mem_of_getElem? (i := 885) (by decide +kernel)⟩
theorem lw_p26 : lw_okq (⟨"StillThereModel", "isSeen", "(II)Z"⟩, 22) := ⟨⟨by decide +kernel, by decide +kernel⟩, List.mem_of_getElem? (i := 630) (by decide +kernel), List.mem_of_getElem? (i := 900) (by decide +kernel), List.mem_of_getElem? (i := 901) (by decide +kernel)⟩
theorem lw_p27 : lw_okq (⟨"StillThereModel", "sentBy", "(I)I"⟩, 22) := ⟨⟨by decide +kernel, by decide +kernel⟩, List.mem_of_getElem? (i := 630) (by decide +kernel), List.mem_of_getElem? (i := 914) (by decide +kernel), List.mem_of_getElem? (i := 915) (by decide +kernel)⟩
def lw_privs_2 : List (MethodName × Nat) := [(⟨"StillThereModel", "layTrial", "()V"⟩, 22), (⟨"StillThereModel", "goFor", "([II)V"⟩, 22), (⟨"StillThereModel", "tick", "([I)V"⟩, 22), (⟨"StillThereModel", "take", "([II)V"⟩, 22), (⟨"StillThereModel", "sendOn", "([II)V"⟩, 22), (⟨"StillThereModel", "noticed", "(I)I"⟩, 22), (⟨"StillThereModel", "endured", "(I)I"⟩, 22), (⟨"StillThereModel", "endures", "(II)Z"⟩, 22), (⟨"StillThereModel", "note", "()V"⟩, 22), (⟨"StillThereModel", "does", "(III)Z"⟩, 22), (⟨"StillThereModel", "isSeen", "(II)Z"⟩, 22), (⟨"StillThereModel", "sentBy", "(I)I"⟩, 22)]
theorem lw_r2 : ∀ q ∈ lw_privs_2, lw_okq q := List.forall_mem_cons.mpr ⟨lw_p16, List.forall_mem_cons.mpr ⟨lw_p17, List.forall_mem_cons.mpr ⟨lw_p18, List.forall_mem_cons.mpr ⟨lw_p19, List.forall_mem_cons.mpr ⟨lw_p20, List.forall_mem_cons.mpr ⟨lw_p21, List.forall_mem_cons.mpr ⟨lw_p22, List.forall_mem_cons.mpr ⟨lw_p23, List.forall_mem_cons.mpr ⟨lw_p24, List.forall_mem_cons.mpr ⟨lw_p25, List.forall_mem_cons.mpr ⟨lw_p26, List.forall_mem_cons.mpr ⟨lw_p27, fun _ h => absurd h List.not_mem_nil⟩⟩⟩⟩⟩⟩⟩⟩⟩⟩⟩⟩
def lw_privs : List (MethodName × Nat) := lw_privs_1 ++ (lw_privs_2)
def lw_tbl : List Cond := k2_sels lw_privs ++ tables_1
theorem lw_privs_ok : ∀ q ∈ lw_privs, lw_okq q := by
  show ∀ q ∈ lw_privs_1 ++ (lw_privs_2), lw_okq q
  exact List.forall_mem_append.mpr ⟨lw_r1, lw_r2⟩
def RX0 : String := "StillThere$End"
def TX0 : u_T := fun k => match k with
  | 0 => ("StillThere$End", "tx", "I", false)
  | 1 => ("StillThere$End", "rx", "I", false)
  | 2 => ("StillThere$End", "mult", "I", false)
  | 3 => ("StillThere$End", "usedTx", "I", false)
  | 4 => ("StillThere$End", "usedRx", "I", false)
  | 5 => ("StillThere$End", "mood", "I", false)
  | 6 => ("StillThere$End", "silence", "I", false)
  | 7 => ("StillThere$End", "next", "I", false)
  | 8 => ("StillThere$End", "polls", "Z", false)
  | 9 => ("StillThere$End", "wantsDemand", "Z", false)
  | 10 => ("StillThere$End", "owes", "Z", false)
  | _ => ("StillThere$End", "knows", "LStillThere$Tale;", true)
def tyX0 : Nat → FieldType := fun k => match k with
  | 0 => .int
  | 1 => .int
  | 2 => .int
  | 3 => .int
  | 4 => .int
  | 5 => .int
  | 6 => .int
  | 7 => .int
  | 8 => .boolean
  | 9 => .boolean
  | 10 => .boolean
  | _ => .object "StillThere$Tale"
abbrev wsX00 : List Cond := u_ws RX0 TX0 12
theorem nmX0 : ∀ a, a < 12 → ∀ b, b < 12 → a ≠ b → (TX0 a).2.1 ≠ (TX0 b).2.1 := by decide +kernel
theorem tyX0_ok : ∀ k, k < 12 → parseFieldDescriptor (TX0 k).2.2.1 = some (tyX0 k) := by decide +kernel
abbrev cX0_init : ByteArray := prog_2_method_1_code
def yX0_init : MethodName := ⟨RX0, "<init>", "()V"⟩
abbrev cX0_reset : ByteArray := prog_2_method_2_code
def yX0_reset : MethodName := ⟨RX0, "reset", "()V"⟩
abbrev cX0_copyFrom : ByteArray := prog_2_method_3_code
def yX0_copyFrom : MethodName := ⟨RX0, "copyFrom", "(LStillThere$End;)V"⟩
abbrev cX0_numberOf : ByteArray := prog_2_method_4_code
def yX0_numberOf : MethodName := ⟨RX0, "numberOf", "(I)I"⟩
abbrev cX0_isBothUp : ByteArray := prog_2_method_5_code
def yX0_isBothUp : MethodName := ⟨RX0, "isBothUp", "()Z"⟩
abbrev cX0_pace : ByteArray := prog_2_method_6_code
def yX0_pace : MethodName := ⟨RX0, "pace", "()I"⟩
abbrev cX0_limit : ByteArray := prog_2_method_7_code
def yX0_limit : MethodName := ⟨RX0, "limit", "()I"⟩
abbrev cX0_isStill : ByteArray := prog_2_method_8_code
def yX0_isStill : MethodName := ⟨RX0, "isStill", "()Z"⟩
abbrev cX0_trusts : ByteArray := prog_2_method_9_code
def yX0_trusts : MethodName := ⟨RX0, "trusts", "()Z"⟩
abbrev cX0_endPoll : ByteArray := prog_2_method_10_code
def yX0_endPoll : MethodName := ⟨RX0, "endPoll", "()V"⟩
abbrev cX0_fall : ByteArray := prog_2_method_11_code
def yX0_fall : MethodName := ⟨RX0, "fall", "()V"⟩
abbrev cX0_listen : ByteArray := prog_2_method_12_code
def yX0_listen : MethodName := ⟨RX0, "listen", "(LStillThere$Way;)V"⟩
abbrev cX0_moodByWhatIsKnown : ByteArray := prog_2_method_13_code
def yX0_moodByWhatIsKnown : MethodName := ⟨RX0, "moodByWhatIsKnown", "()I"⟩
abbrev cX0_fallIfSilent : ByteArray := prog_2_method_14_code
def yX0_fallIfSilent : MethodName := ⟨RX0, "fallIfSilent", "()V"⟩
abbrev cX0_takeSetting : ByteArray := prog_2_method_15_code
def yX0_takeSetting : MethodName := ⟨RX0, "takeSetting", "(II)V"⟩
abbrev cX0_turnDemand : ByteArray := prog_2_method_16_code
def yX0_turnDemand : MethodName := ⟨RX0, "turnDemand", "()V"⟩
abbrev cX0_canBePolled : ByteArray := prog_2_method_17_code
def yX0_canBePolled : MethodName := ⟨RX0, "canBePolled", "()Z"⟩
abbrev cX0_startPoll : ByteArray := prog_2_method_18_code
def yX0_startPoll : MethodName := ⟨RX0, "startPoll", "()V"⟩
abbrev cX0_leaveOnly : ByteArray := prog_2_method_19_code
def yX0_leaveOnly : MethodName := ⟨RX0, "leaveOnly", "(ZZ)V"⟩
def RX1 : String := "StillThere$Sights"
def TX1 : u_T := fun k => match k with
  | 0 => ("StillThere$Sights", "ticks", "[I", true)
  | 1 => ("StillThere$Sights", "ends", "[I", true)
  | 2 => ("StillThere$Sights", "moods", "[I", true)
  | _ => ("StillThere$Sights", "size", "I", false)
def tyX1 : Nat → FieldType := fun k => match k with
  | 0 => .array .int
  | 1 => .array .int
  | 2 => .array .int
  | _ => .int
abbrev wsX10 : List Cond := u_ws RX1 TX1 4
theorem nmX1 : ∀ a, a < 4 → ∀ b, b < 4 → a ≠ b → (TX1 a).2.1 ≠ (TX1 b).2.1 := by decide +kernel
theorem tyX1_ok : ∀ k, k < 4 → parseFieldDescriptor (TX1 k).2.2.1 = some (tyX1 k) := by decide +kernel
abbrev cX1_init : ByteArray := prog_3_method_1_code
def yX1_init : MethodName := ⟨RX1, "<init>", "()V"⟩
abbrev cX1_add : ByteArray := prog_3_method_2_code
def yX1_add : MethodName := ⟨RX1, "add", "(III)V"⟩
abbrev cX1_holdIn : ByteArray := prog_3_method_3_code
def yX1_holdIn : MethodName := ⟨RX1, "holdIn", "(LStillThere$World;)Z"⟩
abbrev cX1_lastTick : ByteArray := prog_3_method_4_code
def yX1_lastTick : MethodName := ⟨RX1, "lastTick", "()I"⟩
abbrev cX1_holdAt : ByteArray := prog_3_method_5_code
def yX1_holdAt : MethodName := ⟨RX1, "holdAt", "(ILStillThere$World;)Z"⟩
def RX2 : String := "StillThere$Tale"
def TX2 : u_T := fun k => match k with
  | 0 => ("StillThere$Tale", "mood", "I", false)
  | 1 => ("StillThere$Tale", "tx", "I", false)
  | 2 => ("StillThere$Tale", "rx", "I", false)
  | 3 => ("StillThere$Tale", "mult", "I", false)
  | _ => ("StillThere$Tale", "demand", "Z", false)
def tyX2 : Nat → FieldType := fun k => match k with
  | 0 => .int
  | 1 => .int
  | 2 => .int
  | 3 => .int
  | _ => .boolean
abbrev wsX20 : List Cond := u_ws RX2 TX2 5
theorem nmX2 : ∀ a, a < 5 → ∀ b, b < 5 → a ≠ b → (TX2 a).2.1 ≠ (TX2 b).2.1 := by decide +kernel
theorem tyX2_ok : ∀ k, k < 5 → parseFieldDescriptor (TX2 k).2.2.1 = some (tyX2 k) := by decide +kernel
abbrev cX2_init : ByteArray := prog_4_method_1_code
def yX2_init : MethodName := ⟨RX2, "<init>", "()V"⟩
abbrev cX2_reset : ByteArray := prog_4_method_2_code
def yX2_reset : MethodName := ⟨RX2, "reset", "()V"⟩
abbrev cX2_copyFrom : ByteArray := prog_4_method_3_code
def yX2_copyFrom : MethodName := ⟨RX2, "copyFrom", "(LStillThere$Tale;)V"⟩
abbrev cX2_describe : ByteArray := prog_4_method_4_code
def yX2_describe : MethodName := ⟨RX2, "describe", "(LStillThere$End;)V"⟩
abbrev cX2_numberOf : ByteArray := prog_4_method_5_code
def yX2_numberOf : MethodName := ⟨RX2, "numberOf", "(I)I"⟩
def RX3 : String := "StillThere$Text"
def TX3 : u_T := fun k => match k with
  | 0 => ("StillThere$Text", "signs", "[I", true)
  | _ => ("StillThere$Text", "length", "I", false)
def tyX3 : Nat → FieldType := fun k => match k with
  | 0 => .array .int
  | _ => .int
abbrev wsX30 : List Cond := u_ws RX3 TX3 2
theorem nmX3 : ∀ a, a < 2 → ∀ b, b < 2 → a ≠ b → (TX3 a).2.1 ≠ (TX3 b).2.1 := by decide +kernel
theorem tyX3_ok : ∀ k, k < 2 → parseFieldDescriptor (TX3 k).2.2.1 = some (tyX3 k) := by decide +kernel
abbrev cX3_init : ByteArray := prog_5_method_1_code
def yX3_init : MethodName := ⟨RX3, "<init>", "()V"⟩
abbrev cX3_add : ByteArray := prog_5_method_2_code
def yX3_add : MethodName := ⟨RX3, "add", "(I)V"⟩
abbrev cX3_faultPlace : ByteArray := prog_5_method_3_code
def yX3_faultPlace : MethodName := ⟨RX3, "faultPlace", "()I"⟩
abbrev cX3_fitsHead : ByteArray := prog_5_method_4_code
def yX3_fitsHead : MethodName := ⟨RX3, "fitsHead", "(II)Z"⟩
abbrev cX3_fitsEvent : ByteArray := prog_5_method_5_code
def yX3_fitsEvent : MethodName := ⟨RX3, "fitsEvent", "(ZI)Z"⟩
abbrev cX3_layOut : ByteArray := prog_5_method_6_code
def yX3_layOut : MethodName := ⟨RX3, "layOut", "(LStillThere$World;)V"⟩
def RX4 : String := "StillThere$Way"
def TX4 : u_T := fun k => match k with
  | 0 => ("StillThere$Way", "isOpen", "Z", false)
  | 1 => ("StillThere$Way", "hasLetter", "Z", false)
  | 2 => ("StillThere$Way", "isPoll", "Z", false)
  | 3 => ("StillThere$Way", "isAnswer", "Z", false)
  | 4 => ("StillThere$Way", "isLost", "Z", false)
  | 5 => ("StillThere$Way", "lossesToCome", "I", false)
  | _ => ("StillThere$Way", "tale", "LStillThere$Tale;", true)
def tyX4 : Nat → FieldType := fun k => match k with
  | 0 => .boolean
  | 1 => .boolean
  | 2 => .boolean
  | 3 => .boolean
  | 4 => .boolean
  | 5 => .int
  | _ => .object "StillThere$Tale"
abbrev wsX40 : List Cond := u_ws RX4 TX4 7
theorem nmX4 : ∀ a, a < 7 → ∀ b, b < 7 → a ≠ b → (TX4 a).2.1 ≠ (TX4 b).2.1 := by decide +kernel
theorem tyX4_ok : ∀ k, k < 7 → parseFieldDescriptor (TX4 k).2.2.1 = some (tyX4 k) := by decide +kernel
abbrev cX4_init : ByteArray := prog_6_method_1_code
def yX4_init : MethodName := ⟨RX4, "<init>", "()V"⟩
abbrev cX4_reset : ByteArray := prog_6_method_2_code
def yX4_reset : MethodName := ⟨RX4, "reset", "()V"⟩
abbrev cX4_copyFrom : ByteArray := prog_6_method_3_code
def yX4_copyFrom : MethodName := ⟨RX4, "copyFrom", "(LStillThere$Way;)V"⟩
abbrev cX4_turnOver : ByteArray := prog_6_method_4_code
def yX4_turnOver : MethodName := ⟨RX4, "turnOver", "()V"⟩
abbrev cX4_put : ByteArray := prog_6_method_5_code
def yX4_put : MethodName := ⟨RX4, "put", "(LStillThere$End;Z)V"⟩
abbrev cX4_takeOff : ByteArray := prog_6_method_6_code
def yX4_takeOff : MethodName := ⟨RX4, "takeOff", "()Z"⟩
def RX5 : String := "StillThere$World"
def TX5 : u_T := fun k => match k with
  | 0 => ("StillThere$World", "zero", "LStillThere$End;", true)
  | 1 => ("StillThere$World", "one", "LStillThere$End;", true)
  | 2 => ("StillThere$World", "there", "LStillThere$Way;", true)
  | 3 => ("StillThere$World", "back", "LStillThere$Way;", true)
  | 4 => ("StillThere$World", "clock", "I", false)
  | 5 => ("StillThere$World", "sent", "I", false)
  | 6 => ("StillThere$World", "uptime", "I", false)
  | _ => ("StillThere$World", "lostWhenSent", "I", false)
def tyX5 : Nat → FieldType := fun k => match k with
  | 0 => .object "StillThere$End"
  | 1 => .object "StillThere$End"
  | 2 => .object "StillThere$Way"
  | 3 => .object "StillThere$Way"
  | 4 => .int
  | 5 => .int
  | 6 => .int
  | _ => .int
abbrev wsX50 : List Cond := u_ws RX5 TX5 8
theorem nmX5 : ∀ a, a < 8 → ∀ b, b < 8 → a ≠ b → (TX5 a).2.1 ≠ (TX5 b).2.1 := by decide +kernel
theorem tyX5_ok : ∀ k, k < 8 → parseFieldDescriptor (TX5 k).2.2.1 = some (tyX5 k) := by decide +kernel
abbrev cX5_init : ByteArray := prog_7_method_1_code
def yX5_init : MethodName := ⟨RX5, "<init>", "()V"⟩
abbrev cX5_reset : ByteArray := prog_7_method_2_code
def yX5_reset : MethodName := ⟨RX5, "reset", "()V"⟩
abbrev cX5_copyFrom : ByteArray := prog_7_method_3_code
def yX5_copyFrom : MethodName := ⟨RX5, "copyFrom", "(LStillThere$World;)V"⟩
abbrev cX5_endOf : ByteArray := prog_7_method_4_code
def yX5_endOf : MethodName := ⟨RX5, "endOf", "(I)LStillThere$End;"⟩
abbrev cX5_wayOf : ByteArray := prog_7_method_5_code
def yX5_wayOf : MethodName := ⟨RX5, "wayOf", "(I)LStillThere$Way;"⟩
abbrev cX5_wayTo : ByteArray := prog_7_method_6_code
def yX5_wayTo : MethodName := ⟨RX5, "wayTo", "(I)LStillThere$Way;"⟩
abbrev cX5_areBothUp : ByteArray := prog_7_method_7_code
def yX5_areBothUp : MethodName := ⟨RX5, "areBothUp", "()Z"⟩
abbrev cX5_run : ByteArray := prog_7_method_8_code
def yX5_run : MethodName := ⟨RX5, "run", "(I)V"⟩
abbrev cX5_tick : ByteArray := prog_7_method_9_code
def yX5_tick : MethodName := ⟨RX5, "tick", "()V"⟩
abbrev cX5_sendIfDue : ByteArray := prog_7_method_10_code
def yX5_sendIfDue : MethodName := ⟨RX5, "sendIfDue", "(LStillThere$End;LStillThere$Way;)V"⟩
def RX6 : String := "StillThere"
def TX6 : u_T := fun k => match k with
  | 0 => ("StillThere", "text", "LStillThere$Text;", true)
  | 1 => ("StillThere", "now", "LStillThere$World;", true)
  | 2 => ("StillThere", "tried", "LStillThere$World;", true)
  | 3 => ("StillThere", "beforeActs", "[LStillThere$World;", true)
  | 4 => ("StillThere", "actCount", "I", false)
  | 5 => ("StillThere", "slots", "[LStillThere$World;", true)
  | 6 => ("StillThere", "isKept", "[Z", true)
  | 7 => ("StillThere", "sights", "LStillThere$Sights;", true)
  | _ => ("StillThere", "theSeed", "J", false)
def tyX6 : Nat → FieldType := fun k => match k with
  | 0 => .object "StillThere$Text"
  | 1 => .object "StillThere$World"
  | 2 => .object "StillThere$World"
  | 3 => .array (.object "StillThere$World")
  | 4 => .int
  | 5 => .array (.object "StillThere$World")
  | 6 => .array .boolean
  | 7 => .object "StillThere$Sights"
  | _ => .long
abbrev wsX60 : List Cond := u_ws RX6 TX6 9
theorem nmX6 : ∀ a, a < 9 → ∀ b, b < 9 → a ≠ b → (TX6 a).2.1 ≠ (TX6 b).2.1 := by decide +kernel
theorem tyX6_ok : ∀ k, k < 9 → parseFieldDescriptor (TX6 k).2.2.1 = some (tyX6 k) := by decide +kernel
abbrev cX6_init : ByteArray := prog_1_method_1_code
def yX6_init : MethodName := ⟨RX6, "<init>", "()V"⟩
abbrev cX6_write : ByteArray := prog_1_method_2_code
def yX6_write : MethodName := ⟨RX6, "write", "(I)I"⟩
abbrev cX6_wipe : ByteArray := prog_1_method_3_code
def yX6_wipe : MethodName := ⟨RX6, "wipe", "()I"⟩
abbrev cX6_fault : ByteArray := prog_1_method_4_code
def yX6_fault : MethodName := ⟨RX6, "fault", "()I"⟩
abbrev cX6_link : ByteArray := prog_1_method_5_code
def yX6_link : MethodName := ⟨RX6, "link", "()I"⟩
abbrev cX6_end : ByteArray := prog_1_method_6_code
def yX6_end : MethodName := ⟨RX6, "end", "(II)I"⟩
abbrev cX6_known : ByteArray := prog_1_method_7_code
def yX6_known : MethodName := ⟨RX6, "known", "(II)I"⟩
abbrev cX6_way : ByteArray := prog_1_method_8_code
def yX6_way : MethodName := ⟨RX6, "way", "(II)I"⟩
abbrev cX6_pass : ByteArray := prog_1_method_9_code
def yX6_pass : MethodName := ⟨RX6, "pass", "(I)I"⟩
abbrev cX6_tell : ByteArray := prog_1_method_10_code
def yX6_tell : MethodName := ⟨RX6, "tell", "(III)I"⟩
abbrev cX6_demand : ByteArray := prog_1_method_11_code
def yX6_demand : MethodName := ⟨RX6, "demand", "(I)I"⟩
abbrev cX6_turn : ByteArray := prog_1_method_12_code
def yX6_turn : MethodName := ⟨RX6, "turn", "(I)I"⟩
abbrev cX6_poll : ByteArray := prog_1_method_13_code
def yX6_poll : MethodName := ⟨RX6, "poll", "(I)I"⟩
abbrev cX6_undo : ByteArray := prog_1_method_14_code
def yX6_undo : MethodName := ⟨RX6, "undo", "()I"⟩
abbrev cX6_ahead : ByteArray := prog_1_method_15_code
def yX6_ahead : MethodName := ⟨RX6, "ahead", "(II)I"⟩
abbrev cX6_letters : ByteArray := prog_1_method_16_code
def yX6_letters : MethodName := ⟨RX6, "letters", "(I)I"⟩
abbrev cX6_judge : ByteArray := prog_1_method_17_code
def yX6_judge : MethodName := ⟨RX6, "judge", "(IJ)I"⟩
abbrev cX6_see : ByteArray := prog_1_method_18_code
def yX6_see : MethodName := ⟨RX6, "see", "(III)I"⟩
abbrev cX6_unsee : ByteArray := prog_1_method_19_code
def yX6_unsee : MethodName := ⟨RX6, "unsee", "()I"⟩
abbrev cX6_which : ByteArray := prog_1_method_20_code
def yX6_which : MethodName := ⟨RX6, "which", "()I"⟩
abbrev cX6_share : ByteArray := prog_1_method_21_code
def yX6_share : MethodName := ⟨RX6, "share", "(IZ)I"⟩
abbrev cX6_luck : ByteArray := prog_1_method_22_code
def yX6_luck : MethodName := ⟨RX6, "luck", "(IIZ)I"⟩
abbrev cX6_seed : ByteArray := prog_1_method_23_code
def yX6_seed : MethodName := ⟨RX6, "seed", "(J)J"⟩
abbrev cX6_drawn : ByteArray := prog_1_method_24_code
def yX6_drawn : MethodName := ⟨RX6, "drawn", "(I)I"⟩
abbrev cX6_keep : ByteArray := prog_1_method_25_code
def yX6_keep : MethodName := ⟨RX6, "keep", "(I)I"⟩
abbrev cX6_again : ByteArray := prog_1_method_26_code
def yX6_again : MethodName := ⟨RX6, "again", "(I)I"⟩
abbrev cX6_count : ByteArray := prog_1_method_27_code
def yX6_count : MethodName := ⟨RX6, "count", "(I)I"⟩
abbrev cX6_isZeroOrOne : ByteArray := prog_1_method_28_code
def yX6_isZeroOrOne : MethodName := ⟨RX6, "isZeroOrOne", "(I)Z"⟩
abbrev cX6_oneIf : ByteArray := prog_1_method_29_code
def yX6_oneIf : MethodName := ⟨RX6, "oneIf", "(Z)I"⟩
abbrev cX6_remember : ByteArray := prog_1_method_30_code
def yX6_remember : MethodName := ⟨RX6, "remember", "()V"⟩
abbrev cX6_forgetFirstAct : ByteArray := prog_1_method_31_code
def yX6_forgetFirstAct : MethodName := ⟨RX6, "forgetFirstAct", "()V"⟩
abbrev cX6_noticedBy : ByteArray := prog_1_method_32_code
def yX6_noticedBy : MethodName := ⟨RX6, "noticedBy", "(I)I"⟩
abbrev cX6_enduredBy : ByteArray := prog_1_method_33_code
def yX6_enduredBy : MethodName := ⟨RX6, "enduredBy", "(I)I"⟩
abbrev cX6_endures : ByteArray := prog_1_method_34_code
def yX6_endures : MethodName := ⟨RX6, "endures", "(II)Z"⟩
abbrev cX6_withoutLast : ByteArray := prog_1_method_35_code
def yX6_withoutLast : MethodName := ⟨RX6, "withoutLast", "(JI)J"⟩
abbrev cX6_canBe : ByteArray := prog_1_method_36_code
def yX6_canBe : MethodName := ⟨RX6, "canBe", "(I)Z"⟩
abbrev cX6_canBeDone : ByteArray := prog_1_method_37_code
def yX6_canBeDone : MethodName := ⟨RX6, "canBeDone", "(II)Z"⟩
abbrev cX6_isSo : ByteArray := prog_1_method_38_code
def yX6_isSo : MethodName := ⟨RX6, "isSo", "(ILStillThere$End;I)Z"⟩
abbrev cX6_ordersBehind : ByteArray := prog_1_method_39_code
def yX6_ordersBehind : MethodName := ⟨RX6, "ordersBehind", "(I)I"⟩
abbrev cX6_sentWith : ByteArray := prog_1_method_40_code
def yX6_sentWith : MethodName := ⟨RX6, "sentWith", "(I)I"⟩
abbrev cX6_weightOf : ByteArray := prog_1_method_41_code
def yX6_weightOf : MethodName := ⟨RX6, "weightOf", "(III)I"⟩
abbrev cX6_power : ByteArray := prog_1_method_42_code
def yX6_power : MethodName := ⟨RX6, "power", "(II)I"⟩
abbrev cX6_areUpWithLost : ByteArray := prog_1_method_43_code
def yX6_areUpWithLost : MethodName := ⟨RX6, "areUpWithLost", "(I)Z"⟩
abbrev cX6_fraction : ByteArray := prog_1_method_44_code
def yX6_fraction : MethodName := ⟨RX6, "fraction", "(IIZ)I"⟩
abbrev cX6_greatestDivisor : ByteArray := prog_1_method_45_code
def yX6_greatestDivisor : MethodName := ⟨RX6, "greatestDivisor", "(II)I"⟩
def RX7 : String := "StillThereModel"
def TX7 : u_T := fun k => match k with
  | 0 => ("StillThereModel", "thrown", "I", false)
  | 1 => ("StillThereModel", "text", "[I", true)
  | 2 => ("StillThereModel", "textSize", "I", false)
  | 3 => ("StillThereModel", "place", "I", false)
  | 4 => ("StillThereModel", "readPage", "[I", true)
  | 5 => ("StillThereModel", "readEvents", "[I", true)
  | 6 => ("StillThereModel", "readMany", "I", false)
  | 7 => ("StillThereModel", "page", "[I", true)
  | 8 => ("StillThereModel", "trial", "[I", true)
  | 9 => ("StillThereModel", "book", "[I", true)
  | 10 => ("StillThereModel", "doings", "I", false)
  | 11 => ("StillThereModel", "kept", "[I", true)
  | 12 => ("StillThereModel", "isKept", "[Z", true)
  | 13 => ("StillThereModel", "seen", "I", false)
  | 14 => ("StillThereModel", "seenAt", "[I", true)
  | 15 => ("StillThereModel", "seenEnd", "[I", true)
  | 16 => ("StillThereModel", "seenMood", "[I", true)
  | 17 => ("StillThereModel", "seed", "J", false)
  | 18 => ("StillThereModel", "lostTo", "I", false)
  | 19 => ("StillThereModel", "lostYet", "I", false)
  | 20 => ("StillThereModel", "lostSet", "I", false)
  | _ => ("StillThereModel", "sentYet", "I", false)
def tyX7 : Nat → FieldType := fun k => match k with
  | 0 => .int
  | 1 => .array .int
  | 2 => .int
  | 3 => .int
  | 4 => .array .int
  | 5 => .array .int
  | 6 => .int
  | 7 => .array .int
  | 8 => .array .int
  | 9 => .array .int
  | 10 => .int
  | 11 => .array .int
  | 12 => .array .boolean
  | 13 => .int
  | 14 => .array .int
  | 15 => .array .int
  | 16 => .array .int
  | 17 => .long
  | 18 => .int
  | 19 => .int
  | 20 => .int
  | _ => .int
abbrev wsX70 : List Cond := u_ws RX7 TX7 22
theorem nmX7 : ∀ a, a < 22 → ∀ b, b < 22 → a ≠ b → (TX7 a).2.1 ≠ (TX7 b).2.1 := by decide +kernel
theorem tyX7_ok : ∀ k, k < 22 → parseFieldDescriptor (TX7 k).2.2.1 = some (tyX7 k) := by decide +kernel
abbrev cX7_init : ByteArray := prog_9_method_1_code
def yX7_init : MethodName := ⟨RX7, "<init>", "()V"⟩
abbrev cX7_in : ByteArray := prog_9_method_3_code
def yX7_in : MethodName := ⟨RX7, "in", "(JJJ)Z"⟩
abbrev cX7_has : ByteArray := prog_9_method_4_code
def yX7_has : MethodName := ⟨RX7, "has", "(II)Z"⟩
abbrev cX7_ones : ByteArray := prog_9_method_5_code
def yX7_ones : MethodName := ⟨RX7, "ones", "(I)I"⟩
abbrev cX7_power : ByteArray := prog_9_method_6_code
def yX7_power : MethodName := ⟨RX7, "power", "(II)I"⟩
abbrev cX7_max : ByteArray := prog_9_method_7_code
def yX7_max : MethodName := ⟨RX7, "max", "(II)I"⟩
abbrev cX7_min : ByteArray := prog_9_method_8_code
def yX7_min : MethodName := ⟨RX7, "min", "(II)I"⟩
abbrev cX7_layFirst : ByteArray := prog_9_method_9_code
def yX7_layFirst : MethodName := ⟨RX7, "layFirst", "([I)V"⟩
abbrev cX7_lay : ByteArray := prog_9_method_10_code
def yX7_lay : MethodName := ⟨RX7, "lay", "([I[I)V"⟩
abbrev cX7_noEnd : ByteArray := prog_9_method_11_code
def yX7_noEnd : MethodName := ⟨RX7, "noEnd", "(I)Z"⟩
abbrev cX7_bothUp : ByteArray := prog_9_method_12_code
def yX7_bothUp : MethodName := ⟨RX7, "bothUp", "([II)Z"⟩
abbrev cX7_paceOn : ByteArray := prog_9_method_13_code
def yX7_paceOn : MethodName := ⟨RX7, "paceOn", "([II)I"⟩
abbrev cX7_limitOn : ByteArray := prog_9_method_14_code
def yX7_limitOn : MethodName := ⟨RX7, "limitOn", "([II)I"⟩
abbrev cX7_isStill : ByteArray := prog_9_method_15_code
def yX7_isStill : MethodName := ⟨RX7, "isStill", "([II)Z"⟩
abbrev cX7_trusts : ByteArray := prog_9_method_16_code
def yX7_trusts : MethodName := ⟨RX7, "trusts", "([II)Z"⟩
abbrev cX7_useTold : ByteArray := prog_9_method_17_code
def yX7_useTold : MethodName := ⟨RX7, "useTold", "([II)V"⟩
abbrev cX7_fall : ByteArray := prog_9_method_18_code
def yX7_fall : MethodName := ⟨RX7, "fall", "([II)V"⟩
abbrev cX7_hear : ByteArray := prog_9_method_19_code
def yX7_hear : MethodName := ⟨RX7, "hear", "([III)V"⟩
abbrev cX7_take : ByteArray := prog_9_method_20_code
def yX7_take : MethodName := ⟨RX7, "take", "([II)V"⟩
abbrev cX7_sendOn : ByteArray := prog_9_method_21_code
def yX7_sendOn : MethodName := ⟨RX7, "sendOn", "([II)V"⟩
abbrev cX7_tick : ByteArray := prog_9_method_22_code
def yX7_tick : MethodName := ⟨RX7, "tick", "([I)V"⟩
abbrev cX7_goFor : ByteArray := prog_9_method_23_code
def yX7_goFor : MethodName := ⟨RX7, "goFor", "([II)V"⟩
abbrev cX7_layTrial : ByteArray := prog_9_method_24_code
def yX7_layTrial : MethodName := ⟨RX7, "layTrial", "()V"⟩
abbrev cX7_setTx : ByteArray := prog_9_method_25_code
def yX7_setTx : MethodName := ⟨RX7, "setTx", "([III)V"⟩
abbrev cX7_setRx : ByteArray := prog_9_method_26_code
def yX7_setRx : MethodName := ⟨RX7, "setRx", "([III)V"⟩
abbrev cX7_mayPoll : ByteArray := prog_9_method_27_code
def yX7_mayPoll : MethodName := ⟨RX7, "mayPoll", "([II)Z"⟩
abbrev cX7_pollOn : ByteArray := prog_9_method_28_code
def yX7_pollOn : MethodName := ⟨RX7, "pollOn", "([II)V"⟩
abbrev cX7_write : ByteArray := prog_9_method_29_code
def yX7_write : MethodName := ⟨RX7, "write", "(I)I"⟩
abbrev cX7_wipe : ByteArray := prog_9_method_30_code
def yX7_wipe : MethodName := ⟨RX7, "wipe", "()I"⟩
abbrev cX7_figure : ByteArray := prog_9_method_31_code
def yX7_figure : MethodName := ⟨RX7, "figure", "(II)I"⟩
abbrev cX7_readEvent : ByteArray := prog_9_method_32_code
def yX7_readEvent : MethodName := ⟨RX7, "readEvent", "()I"⟩
abbrev cX7_readLink : ByteArray := prog_9_method_33_code
def yX7_readLink : MethodName := ⟨RX7, "readLink", "()I"⟩
abbrev cX7_fault : ByteArray := prog_9_method_34_code
def yX7_fault : MethodName := ⟨RX7, "fault", "()I"⟩
abbrev cX7_link : ByteArray := prog_9_method_35_code
def yX7_link : MethodName := ⟨RX7, "link", "()I"⟩
abbrev cX7_noticed : ByteArray := prog_9_method_36_code
def yX7_noticed : MethodName := ⟨RX7, "noticed", "(I)I"⟩
abbrev cX7_endures : ByteArray := prog_9_method_37_code
def yX7_endures : MethodName := ⟨RX7, "endures", "(II)Z"⟩
abbrev cX7_endured : ByteArray := prog_9_method_38_code
def yX7_endured : MethodName := ⟨RX7, "endured", "(I)I"⟩
abbrev cX7_end : ByteArray := prog_9_method_39_code
def yX7_end : MethodName := ⟨RX7, "end", "(II)I"⟩
abbrev cX7_known : ByteArray := prog_9_method_40_code
def yX7_known : MethodName := ⟨RX7, "known", "(II)I"⟩
abbrev cX7_way : ByteArray := prog_9_method_41_code
def yX7_way : MethodName := ⟨RX7, "way", "(II)I"⟩
abbrev cX7_note : ByteArray := prog_9_method_42_code
def yX7_note : MethodName := ⟨RX7, "note", "()V"⟩
abbrev cX7_pass : ByteArray := prog_9_method_43_code
def yX7_pass : MethodName := ⟨RX7, "pass", "(I)I"⟩
abbrev cX7_tell : ByteArray := prog_9_method_44_code
def yX7_tell : MethodName := ⟨RX7, "tell", "(III)I"⟩
abbrev cX7_demand : ByteArray := prog_9_method_45_code
def yX7_demand : MethodName := ⟨RX7, "demand", "(I)I"⟩
abbrev cX7_turn : ByteArray := prog_9_method_46_code
def yX7_turn : MethodName := ⟨RX7, "turn", "(I)I"⟩
abbrev cX7_poll : ByteArray := prog_9_method_47_code
def yX7_poll : MethodName := ⟨RX7, "poll", "(I)I"⟩
abbrev cX7_undo : ByteArray := prog_9_method_48_code
def yX7_undo : MethodName := ⟨RX7, "undo", "()I"⟩
abbrev cX7_ahead : ByteArray := prog_9_method_49_code
def yX7_ahead : MethodName := ⟨RX7, "ahead", "(II)I"⟩
abbrev cX7_letters : ByteArray := prog_9_method_50_code
def yX7_letters : MethodName := ⟨RX7, "letters", "(I)I"⟩
abbrev cX7_does : ByteArray := prog_9_method_51_code
def yX7_does : MethodName := ⟨RX7, "does", "(III)Z"⟩
abbrev cX7_longPower : ByteArray := prog_9_method_52_code
def yX7_longPower : MethodName := ⟨RX7, "longPower", "(JI)J"⟩
abbrev cX7_judge : ByteArray := prog_9_method_53_code
def yX7_judge : MethodName := ⟨RX7, "judge", "(IJ)I"⟩
abbrev cX7_see : ByteArray := prog_9_method_54_code
def yX7_see : MethodName := ⟨RX7, "see", "(III)I"⟩
abbrev cX7_unsee : ByteArray := prog_9_method_55_code
def yX7_unsee : MethodName := ⟨RX7, "unsee", "()I"⟩
abbrev cX7_isSeen : ByteArray := prog_9_method_56_code
def yX7_isSeen : MethodName := ⟨RX7, "isSeen", "(II)Z"⟩
abbrev cX7_which : ByteArray := prog_9_method_57_code
def yX7_which : MethodName := ⟨RX7, "which", "()I"⟩
abbrev cX7_divisor : ByteArray := prog_9_method_58_code
def yX7_divisor : MethodName := ⟨RX7, "divisor", "(II)I"⟩
abbrev cX7_fraction : ByteArray := prog_9_method_59_code
def yX7_fraction : MethodName := ⟨RX7, "fraction", "(IIZ)I"⟩
abbrev cX7_factorial : ByteArray := prog_9_method_60_code
def yX7_factorial : MethodName := ⟨RX7, "factorial", "(I)I"⟩
abbrev cX7_sentBy : ByteArray := prog_9_method_61_code
def yX7_sentBy : MethodName := ⟨RX7, "sentBy", "(I)I"⟩
abbrev cX7_share : ByteArray := prog_9_method_62_code
def yX7_share : MethodName := ⟨RX7, "share", "(IZ)I"⟩
abbrev cX7_luck : ByteArray := prog_9_method_63_code
def yX7_luck : MethodName := ⟨RX7, "luck", "(IIZ)I"⟩
abbrev cX7_seed : ByteArray := prog_9_method_64_code
def yX7_seed : MethodName := ⟨RX7, "seed", "(J)J"⟩
abbrev cX7_drawn : ByteArray := prog_9_method_65_code
def yX7_drawn : MethodName := ⟨RX7, "drawn", "(I)I"⟩
abbrev cX7_keep : ByteArray := prog_9_method_66_code
def yX7_keep : MethodName := ⟨RX7, "keep", "(I)I"⟩
abbrev cX7_again : ByteArray := prog_9_method_67_code
def yX7_again : MethodName := ⟨RX7, "again", "(I)I"⟩
abbrev cX7_count : ByteArray := prog_9_method_68_code
def yX7_count : MethodName := ⟨RX7, "count", "(I)I"⟩
def RJ6 : String := "java/lang/Integer"
def TJ6 : u_T := fun k => match k with
  | _ => ("", "", "", false)
def tyJ6 : Nat → FieldType := fun k => match k with
  | _ => .int
abbrev wsJ60 : List Cond := u_ws RJ6 TJ6 0
theorem nmJ6 : ∀ a, a < 0 → ∀ b, b < 0 → a ≠ b → (TJ6 a).2.1 ≠ (TJ6 b).2.1 := by decide +kernel
theorem tyJ6_ok : ∀ k, k < 0 → parseFieldDescriptor (TJ6 k).2.2.1 = some (tyJ6 k) := by decide +kernel
abbrev cJ6_bitCount_0f7a4 : ByteArray := prog_10_method_49_code
def yJ6_bitCount_0f7a4 : MethodName := ⟨RJ6, "bitCount", "(I)I"⟩
def RJ9 : String := "java/lang/Math"
def TJ9 : u_T := fun k => match k with
  | _ => ("", "", "", false)
def tyJ9 : Nat → FieldType := fun k => match k with
  | _ => .int
abbrev wsJ90 : List Cond := u_ws RJ9 TJ9 0
theorem nmJ9 : ∀ a, a < 0 → ∀ b, b < 0 → a ≠ b → (TJ9 a).2.1 ≠ (TJ9 b).2.1 := by decide +kernel
theorem tyJ9_ok : ∀ k, k < 0 → parseFieldDescriptor (TJ9 k).2.2.1 = some (tyJ9 k) := by decide +kernel
abbrev cJ9_abs_0f7a4 : ByteArray := prog_11_method_59_code
def yJ9_abs_0f7a4 : MethodName := ⟨RJ9, "abs", "(I)I"⟩
abbrev cJ9_max_7cf53 : ByteArray := prog_11_method_65_code
def yJ9_max_7cf53 : MethodName := ⟨RJ9, "max", "(II)I"⟩
abbrev cJ9_min_7cf53 : ByteArray := prog_11_method_69_code
def yJ9_min_7cf53 : MethodName := ⟨RJ9, "min", "(II)I"⟩
def RL : String := "StillThereLaw"
abbrev cL_law : ByteArray := code
def yL_law : MethodName := ⟨RL, "law", "([I)Z"⟩
abbrev vwCl : List vw_C := [(RX0, TX0, 12), (RX1, TX1, 4), (RX2, TX2, 5), (RX3, TX3, 2), (RX4, TX4, 7), (RX5, TX5, 8), (RX6, TX6, 9), (RX7, TX7, 22)]
