section
-- ===== PART A: goes FIRST, ahead of the names: the tables' words, and 'selects' of the private methods out of them =====
/-- a private method of a class that the tables say can be made, by its rows of tables_1 -/
def lw_okq (q : MethodName × Nat) : Prop := (q.1.cls ≠ "java/lang/invoke/MethodHandle" ∧ q.1.cls ≠ "java/lang/invoke/VarHandle") ∧ Cond.instantiable q.1.cls q.2 ∈ tables_1 ∧ Cond.privateMethod q.1 ∈ tables_1 ∧ Cond.instanceMethod q.1 ∈ tables_1
theorem lw_p0 : lw_okq (⟨"Manypanes", "beginLongRow", "()V"⟩, 7) := ⟨⟨by decide +kernel, by decide +kernel⟩, List.mem_of_getElem? (i := 27) (by decide +kernel), List.mem_of_getElem? (i := 160) (by decide +kernel), List.mem_of_getElem? (i := 161) (by decide +kernel)⟩
theorem lw_p1 : lw_okq (⟨"java/lang/Throwable", "fillInStackTrace", "(I)Ljava/lang/Throwable;"⟩, 6) := ⟨⟨by decide +kernel, by decide +kernel⟩, List.mem_of_getElem? (i := 411) (by decide +kernel), List.mem_of_getElem? (i := 409) (by decide +kernel), List.mem_of_getElem? (i := 410) (by decide +kernel)⟩
theorem lw_p2 : lw_okq (⟨"Manypanes$Line", "addNumber", "(J)V"⟩, 1) := ⟨⟨by decide +kernel, by decide +kernel⟩, List.mem_of_getElem? (i := 90) (by decide +kernel), List.mem_of_getElem? (i := 553) (by decide +kernel), List.mem_of_getElem? (i := 554) (by decide +kernel)⟩
theorem lw_p3 : lw_okq (⟨"Manypanes", "hasTrueTwins", "(LManypanes$Pane;)Z"⟩, 7) := ⟨⟨by decide +kernel, by decide +kernel⟩, List.mem_of_getElem? (i := 27) (by decide +kernel), List.mem_of_getElem? (i := 584) (by decide +kernel), List.mem_of_getElem? (i := 585) (by decide +kernel)⟩
theorem lw_p4 : lw_okq (⟨"Manypanes", "hasTrueRemainder", "(LManypanes$Pane;)Z"⟩, 7) := ⟨⟨by decide +kernel, by decide +kernel⟩, List.mem_of_getElem? (i := 27) (by decide +kernel), List.mem_of_getElem? (i := 597) (by decide +kernel), List.mem_of_getElem? (i := 598) (by decide +kernel)⟩
theorem lw_p5 : lw_okq (⟨"Manypanes", "houseNumber", "(I)I"⟩, 7) := ⟨⟨by decide +kernel, by decide +kernel⟩, List.mem_of_getElem? (i := 27) (by decide +kernel), List.mem_of_getElem? (i := 625) (by decide +kernel), List.mem_of_getElem? (i := 626) (by decide +kernel)⟩
theorem lw_p6 : lw_okq (⟨"Manypanes", "howManyReaders", "()I"⟩, 7) := ⟨⟨by decide +kernel, by decide +kernel⟩, List.mem_of_getElem? (i := 27) (by decide +kernel), List.mem_of_getElem? (i := 629) (by decide +kernel), List.mem_of_getElem? (i := 630) (by decide +kernel)⟩
theorem lw_p7 : lw_okq (⟨"Manypanes", "howManyMarks", "()I"⟩, 7) := ⟨⟨by decide +kernel, by decide +kernel⟩, List.mem_of_getElem? (i := 27) (by decide +kernel), List.mem_of_getElem? (i := 633) (by decide +kernel), List.mem_of_getElem? (i := 634) (by decide +kernel)⟩
theorem lw_p8 : lw_okq (⟨"Manypanes", "mixPane", "(JLManypanes$Pane;)J"⟩, 7) := ⟨⟨by decide +kernel, by decide +kernel⟩, List.mem_of_getElem? (i := 27) (by decide +kernel), List.mem_of_getElem? (i := 642) (by decide +kernel), List.mem_of_getElem? (i := 643) (by decide +kernel)⟩
theorem lw_p9 : lw_okq (⟨"Manypanes$Line", "addSigns", "(LManypanes$Pane;I)V"⟩, 1) := ⟨⟨by decide +kernel, by decide +kernel⟩, List.mem_of_getElem? (i := 90) (by decide +kernel), List.mem_of_getElem? (i := 654) (by decide +kernel), List.mem_of_getElem? (i := 655) (by decide +kernel)⟩
theorem lw_p10 : lw_okq (⟨"Manypanes", "mixLine", "(J)J"⟩, 7) := ⟨⟨by decide +kernel, by decide +kernel⟩, List.mem_of_getElem? (i := 27) (by decide +kernel), List.mem_of_getElem? (i := 658) (by decide +kernel), List.mem_of_getElem? (i := 659) (by decide +kernel)⟩
theorem lw_p11 : lw_okq (⟨"Manypanes", "paneOf", "(I)LManypanes$Pane;"⟩, 7) := ⟨⟨by decide +kernel, by decide +kernel⟩, List.mem_of_getElem? (i := 27) (by decide +kernel), List.mem_of_getElem? (i := 700) (by decide +kernel), List.mem_of_getElem? (i := 701) (by decide +kernel)⟩
theorem lw_p12 : lw_okq (⟨"Manypanes", "done", "(I)I"⟩, 7) := ⟨⟨by decide +kernel, by decide +kernel⟩, List.mem_of_getElem? (i := 27) (by decide +kernel), List.mem_of_getElem? (i := 726) (by decide +kernel), List.mem_of_getElem? (i := 727) (by decide +kernel)⟩
theorem lw_p13 : lw_okq (⟨"Manypanes", "refuse", "(I)I"⟩, 7) := ⟨⟨by decide +kernel, by decide +kernel⟩, List.mem_of_getElem? (i := 27) (by decide +kernel), List.mem_of_getElem? (i := 758) (by decide +kernel), List.mem_of_getElem? (i := 759) (by decide +kernel)⟩
theorem lw_p14 : lw_okq (⟨"Manypanes", "setPane", "(ILManypanes$Pane;)V"⟩, 7) := ⟨⟨by decide +kernel, by decide +kernel⟩, List.mem_of_getElem? (i := 27) (by decide +kernel), List.mem_of_getElem? (i := 776) (by decide +kernel), List.mem_of_getElem? (i := 777) (by decide +kernel)⟩
theorem lw_p15 : lw_okq (⟨"Manypanes", "tryPut", "(LManypanes$Pane;I)Z"⟩, 7) := ⟨⟨by decide +kernel, by decide +kernel⟩, List.mem_of_getElem? (i := 27) (by decide +kernel), List.mem_of_getElem? (i := 863) (by decide +kernel), List.mem_of_getElem? (i := 864) (by decide +kernel)⟩
def lw_privs_1 : List (MethodName × Nat) := [(⟨"Manypanes", "beginLongRow", "()V"⟩, 7), (⟨"java/lang/Throwable", "fillInStackTrace", "(I)Ljava/lang/Throwable;"⟩, 6), (⟨"Manypanes$Line", "addNumber", "(J)V"⟩, 1), (⟨"Manypanes", "hasTrueTwins", "(LManypanes$Pane;)Z"⟩, 7), (⟨"Manypanes", "hasTrueRemainder", "(LManypanes$Pane;)Z"⟩, 7), (⟨"Manypanes", "houseNumber", "(I)I"⟩, 7), (⟨"Manypanes", "howManyReaders", "()I"⟩, 7), (⟨"Manypanes", "howManyMarks", "()I"⟩, 7), (⟨"Manypanes", "mixPane", "(JLManypanes$Pane;)J"⟩, 7), (⟨"Manypanes$Line", "addSigns", "(LManypanes$Pane;I)V"⟩, 1), (⟨"Manypanes", "mixLine", "(J)J"⟩, 7), (⟨"Manypanes", "paneOf", "(I)LManypanes$Pane;"⟩, 7), (⟨"Manypanes", "done", "(I)I"⟩, 7), (⟨"Manypanes", "refuse", "(I)I"⟩, 7), (⟨"Manypanes", "setPane", "(ILManypanes$Pane;)V"⟩, 7), (⟨"Manypanes", "tryPut", "(LManypanes$Pane;I)Z"⟩, 7)]
theorem lw_r1 : ∀ q ∈ lw_privs_1, lw_okq q := List.forall_mem_cons.mpr ⟨lw_p0, List.forall_mem_cons.mpr ⟨lw_p1, List.forall_mem_cons.mpr ⟨lw_p2, List.forall_mem_cons.mpr ⟨lw_p3, List.forall_mem_cons.mpr ⟨lw_p4, List.forall_mem_cons.mpr ⟨lw_p5, List.forall_mem_cons.mpr ⟨lw_p6, List.forall_mem_cons.mpr ⟨lw_p7, List.forall_mem_cons.mpr ⟨lw_p8, List.forall_mem_cons.mpr ⟨lw_p9, List.forall_mem_cons.mpr ⟨lw_p10, List.forall_mem_cons.mpr ⟨lw_p11, List.forall_mem_cons.mpr ⟨lw_p12, List.forall_mem_cons.mpr ⟨lw_p13, List.forall_mem_cons.mpr ⟨lw_p14, List.forall_mem_cons.mpr ⟨lw_p15, fun _ h => absurd h List.not_mem_nil⟩⟩⟩⟩⟩⟩⟩⟩⟩⟩⟩⟩⟩⟩⟩⟩
theorem lw_p16 : lw_okq (⟨"Manypanes", "pourOne", "(LManypanes$Pane;LManypanes$Pane;)Z"⟩, 7) := ⟨⟨by decide +kernel, by decide +kernel⟩, List.mem_of_getElem? (i := 27) (by decide +kernel), List.mem_of_getElem? (i := 920) (by decide +kernel), List.mem_of_getElem? (i := 921) (by decide +kernel)⟩
theorem lw_p17 : lw_okq (⟨"ManypanesModel", "made", "(I)[I"⟩, 7) := ⟨⟨by decide +kernel, by decide +kernel⟩, List.mem_of_getElem? (i := 1036) (by decide +kernel), List.mem_of_getElem? (i := 1047) (by decide +kernel), List.mem_of_getElem? (i := 1048) (by decide +kernel)⟩
theorem lw_p18 : lw_okq (⟨"ManypanesModel", "isLet", "(ZZ)Z"⟩, 7) := ⟨⟨by decide +kernel, by decide +kernel⟩, List.mem_of_getElem? (i := 1036) (by decide +kernel), List.mem_of_getElem? (i := 1087) (by decide +kernel), List.mem_of_getElem? (i := 1088) (by decide +kernel)⟩
theorem lw_p19 : lw_okq (⟨"ManypanesModel", "did", "(I)I"⟩, 7) := ⟨⟨by decide +kernel, by decide +kernel⟩, List.mem_of_getElem? (i := 1036) (by decide +kernel), List.mem_of_getElem? (i := 1091) (by decide +kernel), List.mem_of_getElem? (i := 1092) (by decide +kernel)⟩
theorem lw_p20 : lw_okq (⟨"ManypanesModel", "cut", "(I[III)I"⟩, 7) := ⟨⟨by decide +kernel, by decide +kernel⟩, List.mem_of_getElem? (i := 1036) (by decide +kernel), List.mem_of_getElem? (i := 1113) (by decide +kernel), List.mem_of_getElem? (i := 1114) (by decide +kernel)⟩
theorem lw_p21 : lw_okq (⟨"ManypanesModel", "refuse", "(I)I"⟩, 7) := ⟨⟨by decide +kernel, by decide +kernel⟩, List.mem_of_getElem? (i := 1036) (by decide +kernel), List.mem_of_getElem? (i := 1121) (by decide +kernel), List.mem_of_getElem? (i := 1122) (by decide +kernel)⟩
theorem lw_p22 : lw_okq (⟨"ManypanesModel", "moved", "([II)V"⟩, 7) := ⟨⟨by decide +kernel, by decide +kernel⟩, List.mem_of_getElem? (i := 1036) (by decide +kernel), List.mem_of_getElem? (i := 1137) (by decide +kernel), List.mem_of_getElem? (i := 1138) (by decide +kernel)⟩
theorem lw_p23 : lw_okq (⟨"ManypanesModel", "ended", "([II)V"⟩, 7) := ⟨⟨by decide +kernel, by decide +kernel⟩, List.mem_of_getElem? (i := 1036) (by decide +kernel), List.mem_of_getElem? (i := 1150) (by decide +kernel), List.mem_of_getElem? (i := 1151) (by decide +kernel)⟩
theorem lw_p24 : lw_okq (⟨"ManypanesModel", "begun", "([III)I"⟩, 7) := ⟨⟨by decide +kernel, by decide +kernel⟩, List.mem_of_getElem? (i := 1036) (by decide +kernel), List.mem_of_getElem? (i := 1171) (by decide +kernel), List.mem_of_getElem? (i := 1172) (by decide +kernel)⟩
theorem lw_p25 : lw_okq (⟨"ManypanesModel", "puts", "([II)I"⟩, 7) := ⟨⟨by decide +kernel, by decide +kernel⟩, List.mem_of_getElem? (i := 1036) (by decide +kernel), List.mem_of_getElem? (i := 1187) (by decide +kernel), List.mem_of_getElem? (i := 1188) (by decide +kernel)⟩
theorem lw_p26 : lw_okq (⟨"ManypanesModel", "where", "([II)I"⟩, 7) := ⟨⟨by decide +kernel, by decide +kernel⟩, List.mem_of_getElem? (i := 1036) (by decide +kernel), List.mem_of_getElem? (i := 1191) (by decide +kernel), List.mem_of_getElem? (i := 1192) (by decide +kernel)⟩
theorem lw_p27 : lw_okq (⟨"ManypanesModel", "written", "(II)I"⟩, 7) := ⟨⟨by decide +kernel, by decide +kernel⟩, List.mem_of_getElem? (i := 1036) (by decide +kernel), List.mem_of_getElem? (i := 1199) (by decide +kernel), List.mem_of_getElem? (i := 1200) (by decide +kernel)⟩
theorem lw_p28 : lw_okq (⟨"ManypanesModel", "joined", "(II)Ljava/lang/String;"⟩, 7) := ⟨⟨by decide +kernel, by decide +kernel⟩, List.mem_of_getElem? (i := 1036) (by decide +kernel), List.mem_of_getElem? (i := 1293) (by decide +kernel), List.mem_of_getElem? (i := 1294) (by decide +kernel)⟩
theorem lw_p29 : lw_okq (⟨"ManypanesModel", "areReaders", "(II)Z"⟩, 7) := ⟨⟨by decide +kernel, by decide +kernel⟩, List.mem_of_getElem? (i := 1036) (by decide +kernel), List.mem_of_getElem? (i := 1314) (by decide +kernel), List.mem_of_getElem? (i := 1315) (by decide +kernel)⟩
def lw_privs_2 : List (MethodName × Nat) := [(⟨"Manypanes", "pourOne", "(LManypanes$Pane;LManypanes$Pane;)Z"⟩, 7), (⟨"ManypanesModel", "made", "(I)[I"⟩, 7), (⟨"ManypanesModel", "isLet", "(ZZ)Z"⟩, 7), (⟨"ManypanesModel", "did", "(I)I"⟩, 7), (⟨"ManypanesModel", "cut", "(I[III)I"⟩, 7), (⟨"ManypanesModel", "refuse", "(I)I"⟩, 7), (⟨"ManypanesModel", "moved", "([II)V"⟩, 7), (⟨"ManypanesModel", "ended", "([II)V"⟩, 7), (⟨"ManypanesModel", "begun", "([III)I"⟩, 7), (⟨"ManypanesModel", "puts", "([II)I"⟩, 7), (⟨"ManypanesModel", "where", "([II)I"⟩, 7), (⟨"ManypanesModel", "written", "(II)I"⟩, 7), (⟨"ManypanesModel", "joined", "(II)Ljava/lang/String;"⟩, 7), (⟨"ManypanesModel", "areReaders", "(II)Z"⟩, 7)]
theorem lw_r2 : ∀ q ∈ lw_privs_2, lw_okq q := List.forall_mem_cons.mpr ⟨lw_p16, List.forall_mem_cons.mpr ⟨lw_p17, List.forall_mem_cons.mpr ⟨lw_p18, List.forall_mem_cons.mpr ⟨lw_p19, List.forall_mem_cons.mpr ⟨lw_p20, List.forall_mem_cons.mpr ⟨lw_p21, List.forall_mem_cons.mpr ⟨lw_p22, List.forall_mem_cons.mpr ⟨lw_p23, List.forall_mem_cons.mpr ⟨lw_p24, List.forall_mem_cons.mpr ⟨lw_p25, List.forall_mem_cons.mpr ⟨lw_p26, List.forall_mem_cons.mpr ⟨lw_p27, List.forall_mem_cons.mpr ⟨lw_p28, List.forall_mem_cons.mpr ⟨lw_p29, fun _ h => absurd h List.not_mem_nil⟩⟩⟩⟩⟩⟩⟩⟩⟩⟩⟩⟩⟩⟩
def lw_privs : List (MethodName × Nat) := lw_privs_1 ++ (lw_privs_2)
def lw_tbl : List Cond := k2_sels lw_privs ++ tables_1
theorem lw_privs_ok : ∀ q ∈ lw_privs, lw_okq q := by
  show ∀ q ∈ lw_privs_1 ++ (lw_privs_2), lw_okq q
  exact List.forall_mem_append.mpr ⟨lw_r1, lw_r2⟩
end
section
def RX0 : String := "Manypanes$Line"
def TX0 : u_T := fun k => match k with
  | _ => ("Manypanes$Line", "signs", "Ljava/lang/StringBuilder;", true)
def tyX0 : Nat → FieldType := fun k => match k with
  | _ => .object "java/lang/StringBuilder"
theorem nmX0 : ∀ a, a < 1 → ∀ b, b < 1 → a ≠ b → (TX0 a).2.1 ≠ (TX0 b).2.1 := by decide +kernel
theorem tyX0_ok : ∀ k, k < 1 → parseFieldDescriptor (TX0 k).2.2.1 = some (tyX0 k) := by decide +kernel
abbrev cX0_init : ByteArray := prog_2_method_1_code
def yX0_init : MethodName := ⟨RX0, "<init>", "()V"⟩
abbrev cX0_written : ByteArray := prog_2_method_2_code
def yX0_written : MethodName := ⟨RX0, "written", "()Ljava/lang/String;"⟩
abbrev cX0_beginTotal : ByteArray := prog_2_method_3_code
def yX0_beginTotal : MethodName := ⟨RX0, "beginTotal", "(LManypanes$Pane;)V"⟩
abbrev cX0_beginValues : ByteArray := prog_2_method_4_code
def yX0_beginValues : MethodName := ⟨RX0, "beginValues", "(LManypanes$Pane;II)V"⟩
abbrev cX0_beginWhole : ByteArray := prog_2_method_5_code
def yX0_beginWhole : MethodName := ⟨RX0, "beginWhole", "(LManypanes$Pane;)V"⟩
abbrev cX0_addSigns : ByteArray := prog_2_method_6_code
def yX0_addSigns : MethodName := ⟨RX0, "addSigns", "(LManypanes$Pane;I)V"⟩
abbrev cX0_addNumber : ByteArray := prog_2_method_7_code
def yX0_addNumber : MethodName := ⟨RX0, "addNumber", "(J)V"⟩
def RX1 : String := "Manypanes$Pane"
def TX1 : u_T := fun k => match k with
  | 0 => ("Manypanes$Pane", "over", "LManypanes$Row;", false)
  | 1 => ("Manypanes$Pane", "start", "I", false)
  | 2 => ("Manypanes$Pane", "capacity", "I", false)
  | 3 => ("Manypanes$Pane", "position", "I", false)
  | 4 => ("Manypanes$Pane", "limit", "I", false)
  | 5 => ("Manypanes$Pane", "marked", "I", false)
  | _ => ("Manypanes$Pane", "isReader", "Z", false)
def tyX1 : Nat → FieldType := fun k => match k with
  | 0 => .object "Manypanes$Row"
  | 1 => .int
  | 2 => .int
  | 3 => .int
  | 4 => .int
  | 5 => .int
  | _ => .boolean
theorem nmX1 : ∀ a, a < 7 → ∀ b, b < 7 → a ≠ b → (TX1 a).2.1 ≠ (TX1 b).2.1 := by decide +kernel
theorem tyX1_ok : ∀ k, k < 7 → parseFieldDescriptor (TX1 k).2.2.1 = some (tyX1 k) := by decide +kernel
abbrev cX1_init : ByteArray := prog_3_method_1_code
def yX1_init : MethodName := ⟨RX1, "<init>", "(LManypanes$Row;)V"⟩
abbrev cX1_showAll : ByteArray := prog_3_method_2_code
def yX1_showAll : MethodName := ⟨RX1, "showAll", "(LManypanes$Row;)V"⟩
abbrev cX1_becomeTwin : ByteArray := prog_3_method_3_code
def yX1_becomeTwin : MethodName := ⟨RX1, "becomeTwin", "(LManypanes$Pane;)V"⟩
abbrev cX1_becomePart : ByteArray := prog_3_method_4_code
def yX1_becomePart : MethodName := ⟨RX1, "becomePart", "(LManypanes$Pane;II)V"⟩
abbrev cX1_beginAgain : ByteArray := prog_3_method_5_code
def yX1_beginAgain : MethodName := ⟨RX1, "beginAgain", "(I)V"⟩
abbrev cX1_moveTo : ByteArray := prog_3_method_6_code
def yX1_moveTo : MethodName := ⟨RX1, "moveTo", "(I)V"⟩
abbrev cX1_endAt : ByteArray := prog_3_method_7_code
def yX1_endAt : MethodName := ⟨RX1, "endAt", "(I)V"⟩
abbrev cX1_left : ByteArray := prog_3_method_8_code
def yX1_left : MethodName := ⟨RX1, "left", "()I"⟩
abbrev cX1_hasMark : ByteArray := prog_3_method_9_code
def yX1_hasMark : MethodName := ⟨RX1, "hasMark", "()Z"⟩
abbrev cX1_hasIndex : ByteArray := prog_3_method_10_code
def yX1_hasIndex : MethodName := ⟨RX1, "hasIndex", "(I)Z"⟩
abbrev cX1_shows : ByteArray := prog_3_method_11_code
def yX1_shows : MethodName := ⟨RX1, "shows", "(I)Z"⟩
abbrev cX1_valueAt : ByteArray := prog_3_method_12_code
def yX1_valueAt : MethodName := ⟨RX1, "valueAt", "(I)I"⟩
abbrev cX1_replace : ByteArray := prog_3_method_13_code
def yX1_replace : MethodName := ⟨RX1, "replace", "(II)I"⟩
abbrev cX1_takeNext : ByteArray := prog_3_method_14_code
def yX1_takeNext : MethodName := ⟨RX1, "takeNext", "()I"⟩
abbrev cX1_putNext : ByteArray := prog_3_method_15_code
def yX1_putNext : MethodName := ⟨RX1, "putNext", "(I)V"⟩
abbrev cX1_numberOf : ByteArray := prog_3_method_16_code
def yX1_numberOf : MethodName := ⟨RX1, "numberOf", "(I)I"⟩
abbrev cX1_isInOrder : ByteArray := prog_3_method_17_code
def yX1_isInOrder : MethodName := ⟨RX1, "isInOrder", "()Z"⟩
abbrev cX1_tellsAs : ByteArray := prog_3_method_18_code
def yX1_tellsAs : MethodName := ⟨RX1, "tellsAs", "(LManypanes$Pane;)Z"⟩
def RX2 : String := "Manypanes$Row"
def TX2 : u_T := fun k => match k with
  | _ => ("Manypanes$Row", "values", "[I", true)
def tyX2 : Nat → FieldType := fun k => match k with
  | _ => .array .int
theorem nmX2 : ∀ a, a < 1 → ∀ b, b < 1 → a ≠ b → (TX2 a).2.1 ≠ (TX2 b).2.1 := by decide +kernel
theorem tyX2_ok : ∀ k, k < 1 → parseFieldDescriptor (TX2 k).2.2.1 = some (tyX2 k) := by decide +kernel
abbrev cX2_init : ByteArray := prog_4_method_1_code
def yX2_init : MethodName := ⟨RX2, "<init>", "(I)V"⟩
abbrev cX2_length : ByteArray := prog_4_method_2_code
def yX2_length : MethodName := ⟨RX2, "length", "()I"⟩
abbrev cX2_hasPlace : ByteArray := prog_4_method_3_code
def yX2_hasPlace : MethodName := ⟨RX2, "hasPlace", "(I)Z"⟩
abbrev cX2_valueAt : ByteArray := prog_4_method_4_code
def yX2_valueAt : MethodName := ⟨RX2, "valueAt", "(I)I"⟩
abbrev cX2_exchangeAt : ByteArray := prog_4_method_5_code
def yX2_exchangeAt : MethodName := ⟨RX2, "exchangeAt", "(II)I"⟩
def RX3 : String := "Manypanes"
def TX3 : u_T := fun k => match k with
  | 0 => ("Manypanes", "longRow", "LManypanes$Row;", true)
  | 1 => ("Manypanes", "panes", "[LManypanes$Pane;", true)
  | 2 => ("Manypanes", "spare", "LManypanes$Pane;", true)
  | 3 => ("Manypanes", "line", "LManypanes$Line;", true)
  | 4 => ("Manypanes", "refusals", "[I", true)
  | 5 => ("Manypanes", "acts", "I", false)
  | _ => ("Manypanes", "knocks", "I", false)
def tyX3 : Nat → FieldType := fun k => match k with
  | 0 => .object "Manypanes$Row"
  | 1 => .array (.object "Manypanes$Pane")
  | 2 => .object "Manypanes$Pane"
  | 3 => .object "Manypanes$Line"
  | 4 => .array .int
  | 5 => .int
  | _ => .int
theorem nmX3 : ∀ a, a < 7 → ∀ b, b < 7 → a ≠ b → (TX3 a).2.1 ≠ (TX3 b).2.1 := by decide +kernel
theorem tyX3_ok : ∀ k, k < 7 → parseFieldDescriptor (TX3 k).2.2.1 = some (tyX3 k) := by decide +kernel
abbrev cX3_init : ByteArray := prog_1_method_1_code
def yX3_init : MethodName := ⟨RX3, "<init>", "()V"⟩
abbrev cX3_wrap : ByteArray := prog_1_method_2_code
def yX3_wrap : MethodName := ⟨RX3, "wrap", "(III)I"⟩
abbrev cX3_fresh : ByteArray := prog_1_method_3_code
def yX3_fresh : MethodName := ⟨RX3, "fresh", "(II)I"⟩
abbrev cX3_twin : ByteArray := prog_1_method_4_code
def yX3_twin : MethodName := ⟨RX3, "twin", "(II)I"⟩
abbrev cX3_rest : ByteArray := prog_1_method_5_code
def yX3_rest : MethodName := ⟨RX3, "rest", "(II)I"⟩
abbrev cX3_part : ByteArray := prog_1_method_6_code
def yX3_part : MethodName := ⟨RX3, "part", "(IIII)I"⟩
abbrev cX3_reader : ByteArray := prog_1_method_7_code
def yX3_reader : MethodName := ⟨RX3, "reader", "(II)I"⟩
abbrev cX3_exchange : ByteArray := prog_1_method_8_code
def yX3_exchange : MethodName := ⟨RX3, "exchange", "(II)I"⟩
abbrev cX3_go : ByteArray := prog_1_method_9_code
def yX3_go : MethodName := ⟨RX3, "go", "(II)I"⟩
abbrev cX3_move : ByteArray := prog_1_method_10_code
def yX3_move : MethodName := ⟨RX3, "move", "(II)I"⟩
abbrev cX3_end : ByteArray := prog_1_method_11_code
def yX3_end : MethodName := ⟨RX3, "end", "(II)I"⟩
abbrev cX3_stretch : ByteArray := prog_1_method_12_code
def yX3_stretch : MethodName := ⟨RX3, "stretch", "(II)I"⟩
abbrev cX3_mark : ByteArray := prog_1_method_13_code
def yX3_mark : MethodName := ⟨RX3, "mark", "(I)I"⟩
abbrev cX3_back : ByteArray := prog_1_method_14_code
def yX3_back : MethodName := ⟨RX3, "back", "(I)I"⟩
abbrev cX3_clear : ByteArray := prog_1_method_15_code
def yX3_clear : MethodName := ⟨RX3, "clear", "(I)I"⟩
abbrev cX3_flip : ByteArray := prog_1_method_16_code
def yX3_flip : MethodName := ⟨RX3, "flip", "(I)I"⟩
abbrev cX3_rewind : ByteArray := prog_1_method_17_code
def yX3_rewind : MethodName := ⟨RX3, "rewind", "(I)I"⟩
abbrev cX3_put : ByteArray := prog_1_method_18_code
def yX3_put : MethodName := ⟨RX3, "put", "(II)I"⟩
abbrev cX3_putAt : ByteArray := prog_1_method_19_code
def yX3_putAt : MethodName := ⟨RX3, "putAt", "(III)I"⟩
abbrev cX3_bring : ByteArray := prog_1_method_20_code
def yX3_bring : MethodName := ⟨RX3, "bring", "(IIII)I"⟩
abbrev cX3_fill : ByteArray := prog_1_method_21_code
def yX3_fill : MethodName := ⟨RX3, "fill", "(IIII)I"⟩
abbrev cX3_pack : ByteArray := prog_1_method_22_code
def yX3_pack : MethodName := ⟨RX3, "pack", "(I)I"⟩
abbrev cX3_pour : ByteArray := prog_1_method_23_code
def yX3_pour : MethodName := ⟨RX3, "pour", "(III)I"⟩
abbrev cX3_lay : ByteArray := prog_1_method_24_code
def yX3_lay : MethodName := ⟨RX3, "lay", "(II)I"⟩
abbrev cX3_reach : ByteArray := prog_1_method_25_code
def yX3_reach : MethodName := ⟨RX3, "reach", "(III)I"⟩
abbrev cX3_get : ByteArray := prog_1_method_26_code
def yX3_get : MethodName := ⟨RX3, "get", "(I)I"⟩
abbrev cX3_drain : ByteArray := prog_1_method_27_code
def yX3_drain : MethodName := ⟨RX3, "drain", "(II)I"⟩
abbrev cX3_pop : ByteArray := prog_1_method_28_code
def yX3_pop : MethodName := ⟨RX3, "pop", "(I)I"⟩
abbrev cX3_ofPane : ByteArray := prog_1_method_29_code
def yX3_ofPane : MethodName := ⟨RX3, "ofPane", "(II)I"⟩
abbrev cX3_at : ByteArray := prog_1_method_30_code
def yX3_at : MethodName := ⟨RX3, "at", "(II)I"⟩
abbrev cX3_peek : ByteArray := prog_1_method_31_code
def yX3_peek : MethodName := ⟨RX3, "peek", "(I)I"⟩
abbrev cX3_total : ByteArray := prog_1_method_32_code
def yX3_total : MethodName := ⟨RX3, "total", "(I)Ljava/lang/String;"⟩
abbrev cX3_text : ByteArray := prog_1_method_33_code
def yX3_text : MethodName := ⟨RX3, "text", "(I)Ljava/lang/String;"⟩
abbrev cX3_whole : ByteArray := prog_1_method_34_code
def yX3_whole : MethodName := ⟨RX3, "whole", "(I)Ljava/lang/String;"⟩
abbrev cX3_row : ByteArray := prog_1_method_35_code
def yX3_row : MethodName := ⟨RX3, "row", "()Ljava/lang/String;"⟩
abbrev cX3_isKin : ByteArray := prog_1_method_36_code
def yX3_isKin : MethodName := ⟨RX3, "isKin", "(II)I"⟩
abbrev cX3_sees : ByteArray := prog_1_method_37_code
def yX3_sees : MethodName := ⟨RX3, "sees", "(III)I"⟩
abbrev cX3_would : ByteArray := prog_1_method_38_code
def yX3_would : MethodName := ⟨RX3, "would", "(II)I"⟩
abbrev cX3_house : ByteArray := prog_1_method_39_code
def yX3_house : MethodName := ⟨RX3, "house", "(I)I"⟩
abbrev cX3_knock : ByteArray := prog_1_method_40_code
def yX3_knock : MethodName := ⟨RX3, "knock", "()I"⟩
abbrev cX3_isSound : ByteArray := prog_1_method_41_code
def yX3_isSound : MethodName := ⟨RX3, "isSound", "()Z"⟩
abbrev cX3_digest : ByteArray := prog_1_method_42_code
def yX3_digest : MethodName := ⟨RX3, "digest", "()J"⟩
abbrev cX3_paneOf : ByteArray := prog_1_method_43_code
def yX3_paneOf : MethodName := ⟨RX3, "paneOf", "(I)LManypanes$Pane;"⟩
abbrev cX3_setPane : ByteArray := prog_1_method_44_code
def yX3_setPane : MethodName := ⟨RX3, "setPane", "(ILManypanes$Pane;)V"⟩
abbrev cX3_isWithin : ByteArray := prog_1_method_45_code
def yX3_isWithin : MethodName := ⟨RX3, "isWithin", "(III)Z"⟩
abbrev cX3_needWithin : ByteArray := prog_1_method_46_code
def yX3_needWithin : MethodName := ⟨RX3, "needWithin", "(III)V"⟩
abbrev cX3_needValue : ByteArray := prog_1_method_47_code
def yX3_needValue : MethodName := ⟨RX3, "needValue", "(I)V"⟩
abbrev cX3_done : ByteArray := prog_1_method_48_code
def yX3_done : MethodName := ⟨RX3, "done", "(I)I"⟩
abbrev cX3_refuse : ByteArray := prog_1_method_49_code
def yX3_refuse : MethodName := ⟨RX3, "refuse", "(I)I"⟩
abbrev cX3_tryPut : ByteArray := prog_1_method_50_code
def yX3_tryPut : MethodName := ⟨RX3, "tryPut", "(LManypanes$Pane;I)Z"⟩
abbrev cX3_pourOne : ByteArray := prog_1_method_51_code
def yX3_pourOne : MethodName := ⟨RX3, "pourOne", "(LManypanes$Pane;LManypanes$Pane;)Z"⟩
abbrev cX3_kinship : ByteArray := prog_1_method_52_code
def yX3_kinship : MethodName := ⟨RX3, "kinship", "(LManypanes$Pane;LManypanes$Pane;)I"⟩
abbrev cX3_indexSeen : ByteArray := prog_1_method_53_code
def yX3_indexSeen : MethodName := ⟨RX3, "indexSeen", "(LManypanes$Pane;ILManypanes$Pane;)I"⟩
abbrev cX3_houseNumber : ByteArray := prog_1_method_54_code
def yX3_houseNumber : MethodName := ⟨RX3, "houseNumber", "(I)I"⟩
abbrev cX3_howManyReaders : ByteArray := prog_1_method_55_code
def yX3_howManyReaders : MethodName := ⟨RX3, "howManyReaders", "()I"⟩
abbrev cX3_howManyMarks : ByteArray := prog_1_method_56_code
def yX3_howManyMarks : MethodName := ⟨RX3, "howManyMarks", "()I"⟩
abbrev cX3_hasTrueTwins : ByteArray := prog_1_method_57_code
def yX3_hasTrueTwins : MethodName := ⟨RX3, "hasTrueTwins", "(LManypanes$Pane;)Z"⟩
abbrev cX3_hasTrueRemainder : ByteArray := prog_1_method_58_code
def yX3_hasTrueRemainder : MethodName := ⟨RX3, "hasTrueRemainder", "(LManypanes$Pane;)Z"⟩
abbrev cX3_agree : ByteArray := prog_1_method_59_code
def yX3_agree : MethodName := ⟨RX3, "agree", "(LManypanes$Pane;LManypanes$Pane;)Z"⟩
abbrev cX3_mix : ByteArray := prog_1_method_60_code
def yX3_mix : MethodName := ⟨RX3, "mix", "(JI)J"⟩
abbrev cX3_mixPane : ByteArray := prog_1_method_61_code
def yX3_mixPane : MethodName := ⟨RX3, "mixPane", "(JLManypanes$Pane;)J"⟩
abbrev cX3_mixLine : ByteArray := prog_1_method_62_code
def yX3_mixLine : MethodName := ⟨RX3, "mixLine", "(J)J"⟩
abbrev cX3_beginLongRow : ByteArray := prog_1_method_63_code
def yX3_beginLongRow : MethodName := ⟨RX3, "beginLongRow", "()V"⟩
def RX4 : String := "ManypanesLaw$Out"
def TX4 : u_T := fun k => match k with
  | 0 => ("ManypanesLaw$Out", "n", "J", false)
  | _ => ("ManypanesLaw$Out", "s", "Ljava/lang/String;", false)
def tyX4 : Nat → FieldType := fun k => match k with
  | 0 => .long
  | _ => .object "java/lang/String"
theorem nmX4 : ∀ a, a < 2 → ∀ b, b < 2 → a ≠ b → (TX4 a).2.1 ≠ (TX4 b).2.1 := by decide +kernel
theorem tyX4_ok : ∀ k, k < 2 → parseFieldDescriptor (TX4 k).2.2.1 = some (tyX4 k) := by decide +kernel
abbrev cX4_init : ByteArray := prog_6_method_1_code
def yX4_init : MethodName := ⟨RX4, "<init>", "()V"⟩
def RX5 : String := "ManypanesModel"
def TX5 : u_T := fun k => match k with
  | 0 => ("ManypanesModel", "tape", "[I", false)
  | 1 => ("ManypanesModel", "rows", "I", false)
  | 2 => ("ManypanesModel", "panes", "[[I", true)
  | 3 => ("ManypanesModel", "told", "[I", true)
  | 4 => ("ManypanesModel", "acts", "I", false)
  | 5 => ("ManypanesModel", "knocks", "I", false)
  | _ => ("ManypanesModel", "thrown", "I", false)
def tyX5 : Nat → FieldType := fun k => match k with
  | 0 => .array .int
  | 1 => .int
  | 2 => .array (.array .int)
  | 3 => .array .int
  | 4 => .int
  | 5 => .int
  | _ => .int
theorem nmX5 : ∀ a, a < 7 → ∀ b, b < 7 → a ≠ b → (TX5 a).2.1 ≠ (TX5 b).2.1 := by decide +kernel
theorem tyX5_ok : ∀ k, k < 7 → parseFieldDescriptor (TX5 k).2.2.1 = some (tyX5 k) := by decide +kernel
abbrev cX5_init : ByteArray := prog_7_method_1_code
def yX5_init : MethodName := ⟨RX5, "<init>", "()V"⟩
abbrev cX5_thrown : ByteArray := prog_7_method_2_code
def yX5_thrown : MethodName := ⟨RX5, "thrown", "()I"⟩
abbrev cX5_over : ByteArray := prog_7_method_3_code
def yX5_over : MethodName := ⟨RX5, "over", "(IIII)[I"⟩
abbrev cX5_made : ByteArray := prog_7_method_4_code
def yX5_made : MethodName := ⟨RX5, "made", "(I)[I"⟩
abbrev cX5_isIn : ByteArray := prog_7_method_5_code
def yX5_isIn : MethodName := ⟨RX5, "isIn", "(III)Z"⟩
abbrev cX5_like : ByteArray := prog_7_method_6_code
def yX5_like : MethodName := ⟨RX5, "like", "([I)[I"⟩
abbrev cX5_isLet : ByteArray := prog_7_method_7_code
def yX5_isLet : MethodName := ⟨RX5, "isLet", "(ZZ)Z"⟩
abbrev cX5_isPane : ByteArray := prog_7_method_8_code
def yX5_isPane : MethodName := ⟨RX5, "isPane", "(I)Z"⟩
abbrev cX5_refuse : ByteArray := prog_7_method_9_code
def yX5_refuse : MethodName := ⟨RX5, "refuse", "(I)I"⟩
abbrev cX5_did : ByteArray := prog_7_method_10_code
def yX5_did : MethodName := ⟨RX5, "did", "(I)I"⟩
abbrev cX5_left : ByteArray := prog_7_method_11_code
def yX5_left : MethodName := ⟨RX5, "left", "([I)I"⟩
abbrev cX5_where : ByteArray := prog_7_method_12_code
def yX5_where : MethodName := ⟨RX5, "where", "([II)I"⟩
abbrev cX5_moved : ByteArray := prog_7_method_13_code
def yX5_moved : MethodName := ⟨RX5, "moved", "([II)V"⟩
abbrev cX5_ended : ByteArray := prog_7_method_14_code
def yX5_ended : MethodName := ⟨RX5, "ended", "([II)V"⟩
abbrev cX5_puts : ByteArray := prog_7_method_15_code
def yX5_puts : MethodName := ⟨RX5, "puts", "([II)I"⟩
abbrev cX5_written : ByteArray := prog_7_method_16_code
def yX5_written : MethodName := ⟨RX5, "written", "(II)I"⟩
abbrev cX5_wrap : ByteArray := prog_7_method_17_code
def yX5_wrap : MethodName := ⟨RX5, "wrap", "(III)I"⟩
abbrev cX5_fresh : ByteArray := prog_7_method_18_code
def yX5_fresh : MethodName := ⟨RX5, "fresh", "(II)I"⟩
abbrev cX5_twin : ByteArray := prog_7_method_19_code
def yX5_twin : MethodName := ⟨RX5, "twin", "(II)I"⟩
abbrev cX5_cut : ByteArray := prog_7_method_20_code
def yX5_cut : MethodName := ⟨RX5, "cut", "(I[III)I"⟩
abbrev cX5_rest : ByteArray := prog_7_method_21_code
def yX5_rest : MethodName := ⟨RX5, "rest", "(II)I"⟩
abbrev cX5_part : ByteArray := prog_7_method_22_code
def yX5_part : MethodName := ⟨RX5, "part", "(IIII)I"⟩
abbrev cX5_reader : ByteArray := prog_7_method_23_code
def yX5_reader : MethodName := ⟨RX5, "reader", "(II)I"⟩
abbrev cX5_exchange : ByteArray := prog_7_method_24_code
def yX5_exchange : MethodName := ⟨RX5, "exchange", "(II)I"⟩
abbrev cX5_go : ByteArray := prog_7_method_25_code
def yX5_go : MethodName := ⟨RX5, "go", "(II)I"⟩
abbrev cX5_move : ByteArray := prog_7_method_26_code
def yX5_move : MethodName := ⟨RX5, "move", "(II)I"⟩
abbrev cX5_end : ByteArray := prog_7_method_27_code
def yX5_end : MethodName := ⟨RX5, "end", "(II)I"⟩
abbrev cX5_stretch : ByteArray := prog_7_method_28_code
def yX5_stretch : MethodName := ⟨RX5, "stretch", "(II)I"⟩
abbrev cX5_mark : ByteArray := prog_7_method_29_code
def yX5_mark : MethodName := ⟨RX5, "mark", "(I)I"⟩
abbrev cX5_back : ByteArray := prog_7_method_30_code
def yX5_back : MethodName := ⟨RX5, "back", "(I)I"⟩
abbrev cX5_begun : ByteArray := prog_7_method_31_code
def yX5_begun : MethodName := ⟨RX5, "begun", "([III)I"⟩
abbrev cX5_clear : ByteArray := prog_7_method_32_code
def yX5_clear : MethodName := ⟨RX5, "clear", "(I)I"⟩
abbrev cX5_flip : ByteArray := prog_7_method_33_code
def yX5_flip : MethodName := ⟨RX5, "flip", "(I)I"⟩
abbrev cX5_rewind : ByteArray := prog_7_method_34_code
def yX5_rewind : MethodName := ⟨RX5, "rewind", "(I)I"⟩
abbrev cX5_put : ByteArray := prog_7_method_35_code
def yX5_put : MethodName := ⟨RX5, "put", "(II)I"⟩
abbrev cX5_putAt : ByteArray := prog_7_method_36_code
def yX5_putAt : MethodName := ⟨RX5, "putAt", "(III)I"⟩
abbrev cX5_bring : ByteArray := prog_7_method_37_code
def yX5_bring : MethodName := ⟨RX5, "bring", "(IIII)I"⟩
abbrev cX5_fill : ByteArray := prog_7_method_38_code
def yX5_fill : MethodName := ⟨RX5, "fill", "(IIII)I"⟩
abbrev cX5_pack : ByteArray := prog_7_method_39_code
def yX5_pack : MethodName := ⟨RX5, "pack", "(I)I"⟩
abbrev cX5_pour : ByteArray := prog_7_method_40_code
def yX5_pour : MethodName := ⟨RX5, "pour", "(III)I"⟩
abbrev cX5_lay : ByteArray := prog_7_method_41_code
def yX5_lay : MethodName := ⟨RX5, "lay", "(II)I"⟩
abbrev cX5_reach : ByteArray := prog_7_method_42_code
def yX5_reach : MethodName := ⟨RX5, "reach", "(III)I"⟩
abbrev cX5_get : ByteArray := prog_7_method_43_code
def yX5_get : MethodName := ⟨RX5, "get", "(I)I"⟩
abbrev cX5_drain : ByteArray := prog_7_method_44_code
def yX5_drain : MethodName := ⟨RX5, "drain", "(II)I"⟩
abbrev cX5_pop : ByteArray := prog_7_method_45_code
def yX5_pop : MethodName := ⟨RX5, "pop", "(I)I"⟩
abbrev cX5_ofPane : ByteArray := prog_7_method_46_code
def yX5_ofPane : MethodName := ⟨RX5, "ofPane", "(II)I"⟩
abbrev cX5_at : ByteArray := prog_7_method_47_code
def yX5_at : MethodName := ⟨RX5, "at", "(II)I"⟩
abbrev cX5_peek : ByteArray := prog_7_method_48_code
def yX5_peek : MethodName := ⟨RX5, "peek", "(I)I"⟩
abbrev cX5_total : ByteArray := prog_7_method_49_code
def yX5_total : MethodName := ⟨RX5, "total", "(I)Ljava/lang/String;"⟩
abbrev cX5_joined : ByteArray := prog_7_method_50_code
def yX5_joined : MethodName := ⟨RX5, "joined", "(II)Ljava/lang/String;"⟩
abbrev cX5_text : ByteArray := prog_7_method_51_code
def yX5_text : MethodName := ⟨RX5, "text", "(I)Ljava/lang/String;"⟩
abbrev cX5_whole : ByteArray := prog_7_method_52_code
def yX5_whole : MethodName := ⟨RX5, "whole", "(I)Ljava/lang/String;"⟩
abbrev cX5_row : ByteArray := prog_7_method_53_code
def yX5_row : MethodName := ⟨RX5, "row", "()Ljava/lang/String;"⟩
abbrev cX5_areReaders : ByteArray := prog_7_method_54_code
def yX5_areReaders : MethodName := ⟨RX5, "areReaders", "(II)Z"⟩
abbrev cX5_isKin : ByteArray := prog_7_method_55_code
def yX5_isKin : MethodName := ⟨RX5, "isKin", "(II)I"⟩
abbrev cX5_sees : ByteArray := prog_7_method_56_code
def yX5_sees : MethodName := ⟨RX5, "sees", "(III)I"⟩
abbrev cX5_would : ByteArray := prog_7_method_57_code
def yX5_would : MethodName := ⟨RX5, "would", "(II)I"⟩
abbrev cX5_house : ByteArray := prog_7_method_58_code
def yX5_house : MethodName := ⟨RX5, "house", "(I)I"⟩
abbrev cX5_knock : ByteArray := prog_7_method_59_code
def yX5_knock : MethodName := ⟨RX5, "knock", "()I"⟩
abbrev cX5_isSound : ByteArray := prog_7_method_60_code
def yX5_isSound : MethodName := ⟨RX5, "isSound", "()Z"⟩
abbrev cX5_add : ByteArray := prog_7_method_61_code
def yX5_add : MethodName := ⟨RX5, "add", "(JJ)J"⟩
abbrev cX5_addSigns : ByteArray := prog_7_method_62_code
def yX5_addSigns : MethodName := ⟨RX5, "addSigns", "(JLjava/lang/String;)J"⟩
abbrev cX5_digest : ByteArray := prog_7_method_63_code
def yX5_digest : MethodName := ⟨RX5, "digest", "()J"⟩
def RJ5 : String := "java/lang/AbstractStringBuilder"
def TJ5 : u_T := fun k => match k with
  | _ => ("", "", "", false)
def tyJ5 : Nat → FieldType := fun k => match k with
  | _ => .int
theorem nmJ5 : ∀ a, a < 0 → ∀ b, b < 0 → a ≠ b → (TJ5 a).2.1 ≠ (TJ5 b).2.1 := by decide +kernel
theorem tyJ5_ok : ∀ k, k < 0 → parseFieldDescriptor (TJ5 k).2.2.1 = some (tyJ5 k) := by decide +kernel
abbrev cJ5_init_d00df : ByteArray := prog_8_method_2_code
def yJ5_init_d00df : MethodName := ⟨RJ5, "<init>", "(I)V"⟩
abbrev cJ5_length_8abf5 : ByteArray := prog_8_method_6_code
def yJ5_length_8abf5 : MethodName := ⟨RJ5, "length", "()I"⟩
abbrev cJ5_ensureCapacityInternal_d00df : ByteArray := prog_8_method_9_code
def yJ5_ensureCapacityInternal_d00df : MethodName := ⟨RJ5, "ensureCapacityInternal", "(I)V"⟩
abbrev cJ5_newCapacity_0f7a4 : ByteArray := prog_8_method_10_code
def yJ5_newCapacity_0f7a4 : MethodName := ⟨RJ5, "newCapacity", "(I)I"⟩
abbrev cJ5_inflate_da8c8 : ByteArray := prog_8_method_11_code
def yJ5_inflate_da8c8 : MethodName := ⟨RJ5, "inflate", "()V"⟩
abbrev cJ5_setLength_d00df : ByteArray := prog_8_method_13_code
def yJ5_setLength_d00df : MethodName := ⟨RJ5, "setLength", "(I)V"⟩
abbrev cJ5_charAt_5068e : ByteArray := prog_8_method_14_code
def yJ5_charAt_5068e : MethodName := ⟨RJ5, "charAt", "(I)C"⟩
abbrev cJ5_append_cf1ce : ByteArray := prog_8_method_22_code
def yJ5_append_cf1ce : MethodName := ⟨RJ5, "append", "(Ljava/lang/String;)Ljava/lang/AbstractStringBuilder;"⟩
abbrev cJ5_appendNull_278bc : ByteArray := prog_8_method_26_code
def yJ5_appendNull_278bc : MethodName := ⟨RJ5, "appendNull", "()Ljava/lang/AbstractStringBuilder;"⟩
abbrev cJ5_append_3fe6f : ByteArray := prog_8_method_31_code
def yJ5_append_3fe6f : MethodName := ⟨RJ5, "append", "(C)Ljava/lang/AbstractStringBuilder;"⟩
abbrev cJ5_append_c97b9 : ByteArray := prog_8_method_32_code
def yJ5_append_c97b9 : MethodName := ⟨RJ5, "append", "(I)Ljava/lang/AbstractStringBuilder;"⟩
abbrev cJ5_append_66267 : ByteArray := prog_8_method_33_code
def yJ5_append_66267 : MethodName := ⟨RJ5, "append", "(J)Ljava/lang/AbstractStringBuilder;"⟩
abbrev cJ5_getValue_6d5f1 : ByteArray := prog_8_method_64_code
def yJ5_getValue_6d5f1 : MethodName := ⟨RJ5, "getValue", "()[B"⟩
abbrev cJ5_isLatin1_aae02 : ByteArray := prog_8_method_68_code
def yJ5_isLatin1_aae02 : MethodName := ⟨RJ5, "isLatin1", "()Z"⟩
abbrev cJ5_inflateIfNeededFor_a7421 : ByteArray := prog_8_method_71_code
def yJ5_inflateIfNeededFor_a7421 : MethodName := ⟨RJ5, "inflateIfNeededFor", "(Ljava/lang/String;)V"⟩
abbrev cJ5_putStringAt_47b60 : ByteArray := prog_8_method_73_code
def yJ5_putStringAt_47b60 : MethodName := ⟨RJ5, "putStringAt", "(ILjava/lang/String;)V"⟩
def RJx00060 : String := "java/lang/ArrayIndexOutOfBoundsException"
def TJx00060 : u_T := fun k => match k with
  | 0 => ("java/lang/Throwable", "cause", "Ljava/lang/Throwable;", false)
  | 1 => ("java/lang/Throwable", "stackTrace", "[Ljava/lang/StackTraceElement;", false)
  | 2 => ("java/lang/Throwable", "suppressedExceptions", "Ljava/util/List;", false)
  | 3 => ("java/lang/Throwable", "detailMessage", "Ljava/lang/String;", false)
  | 4 => ("java/lang/Throwable", "backtrace", "Ljava/lang/Object;", false)
  | _ => ("java/lang/Throwable", "depth", "I", false)
def tyJx00060 : Nat → FieldType := fun k => match k with
  | 0 => .object "java/lang/Throwable"
  | 1 => .array (.object "java/lang/StackTraceElement")
  | 2 => .object "java/util/List"
  | 3 => .object "java/lang/String"
  | 4 => .object "java/lang/Object"
  | _ => .int
theorem nmJx00060 : ∀ a, a < 6 → ∀ b, b < 6 → a ≠ b → (TJx00060 a).2.1 ≠ (TJx00060 b).2.1 := by decide +kernel
theorem tyJx00060_ok : ∀ k, k < 6 → parseFieldDescriptor (TJx00060 k).2.2.1 = some (tyJx00060 k) := by decide +kernel
abbrev cJx00060_init_d00df : ByteArray := prog_9_method_3_code
def yJx00060_init_d00df : MethodName := ⟨RJx00060, "<init>", "(I)V"⟩
def RJx8e188 : String := "java/lang/Cloneable"
def TJx8e188 : u_T := fun k => match k with
  | _ => ("", "", "", false)
def tyJx8e188 : Nat → FieldType := fun k => match k with
  | _ => .int
theorem nmJx8e188 : ∀ a, a < 0 → ∀ b, b < 0 → a ≠ b → (TJx8e188 a).2.1 ≠ (TJx8e188 b).2.1 := by decide +kernel
theorem tyJx8e188_ok : ∀ k, k < 0 → parseFieldDescriptor (TJx8e188 k).2.2.1 = some (tyJx8e188 k) := by decide +kernel
def RJ6 : String := "java/lang/Integer"
def TJ6 : u_T := fun k => match k with
  | _ => ("", "", "", false)
def tyJ6 : Nat → FieldType := fun k => match k with
  | _ => .int
theorem nmJ6 : ∀ a, a < 0 → ∀ b, b < 0 → a ≠ b → (TJ6 a).2.1 ≠ (TJ6 b).2.1 := by decide +kernel
theorem tyJ6_ok : ∀ k, k < 0 → parseFieldDescriptor (TJ6 k).2.2.1 = some (tyJ6 k) := by decide +kernel
abbrev cJ6_getChars_ba4f3 : ByteArray := prog_14_method_12_code
def yJ6_getChars_ba4f3 : MethodName := ⟨RJ6, "getChars", "(II[B)I"⟩
abbrev cJ6_stringSize_0f7a4 : ByteArray := prog_14_method_13_code
def yJ6_stringSize_0f7a4 : MethodName := ⟨RJ6, "stringSize", "(I)I"⟩
def RJ13 : String := "java/lang/Long"
def TJ13 : u_T := fun k => match k with
  | _ => ("", "", "", false)
def tyJ13 : Nat → FieldType := fun k => match k with
  | _ => .int
theorem nmJ13 : ∀ a, a < 0 → ∀ b, b < 0 → a ≠ b → (TJ13 a).2.1 ≠ (TJ13 b).2.1 := by decide +kernel
theorem tyJ13_ok : ∀ k, k < 0 → parseFieldDescriptor (TJ13 k).2.2.1 = some (tyJ13 k) := by decide +kernel
abbrev cJ13_getChars_11360 : ByteArray := prog_15_method_14_code
def yJ13_getChars_11360 : MethodName := ⟨RJ13, "getChars", "(JI[B)I"⟩
abbrev cJ13_stringSize_95d88 : ByteArray := prog_15_method_15_code
def yJ13_stringSize_95d88 : MethodName := ⟨RJ13, "stringSize", "(J)I"⟩
def RJ9 : String := "java/lang/Math"
def TJ9 : u_T := fun k => match k with
  | _ => ("", "", "", false)
def tyJ9 : Nat → FieldType := fun k => match k with
  | _ => .int
theorem nmJ9 : ∀ a, a < 0 → ∀ b, b < 0 → a ≠ b → (TJ9 a).2.1 ≠ (TJ9 b).2.1 := by decide +kernel
theorem tyJ9_ok : ∀ k, k < 0 → parseFieldDescriptor (TJ9 k).2.2.1 = some (tyJ9 k) := by decide +kernel
abbrev cJ9_max_7cf53 : ByteArray := prog_16_method_65_code
def yJ9_max_7cf53 : MethodName := ⟨RJ9, "max", "(II)I"⟩
abbrev cJ9_min_7cf53 : ByteArray := prog_16_method_69_code
def yJ9_min_7cf53 : MethodName := ⟨RJ9, "min", "(II)I"⟩
def RJ0 : String := "java/lang/String"
def TJ0 : u_T := fun k => match k with
  | 0 => ("java/lang/String", "value", "[B", true)
  | 1 => ("java/lang/String", "coder", "B", true)
  | 2 => ("java/lang/String", "hash", "I", false)
  | _ => ("java/lang/String", "hashIsZero", "Z", false)
def tyJ0 : Nat → FieldType := fun k => match k with
  | 0 => .array .byte
  | 1 => .byte
  | 2 => .int
  | _ => .boolean
theorem nmJ0 : ∀ a, a < 4 → ∀ b, b < 4 → a ≠ b → (TJ0 a).2.1 ≠ (TJ0 b).2.1 := by decide +kernel
theorem tyJ0_ok : ∀ k, k < 4 → parseFieldDescriptor (TJ0 k).2.2.1 = some (tyJ0 k) := by decide +kernel
abbrev cJ0_init_81219 : ByteArray := prog_18_method_53_code
def yJ0_init_81219 : MethodName := ⟨RJ0, "<init>", "(Ljava/lang/StringBuilder;)V"⟩
abbrev cJ0_length_8abf5 : ByteArray := prog_18_method_54_code
def yJ0_length_8abf5 : MethodName := ⟨RJ0, "length", "()I"⟩
abbrev cJ0_charAt_5068e : ByteArray := prog_18_method_56_code
def yJ0_charAt_5068e : MethodName := ⟨RJ0, "charAt", "(I)C"⟩
abbrev cJ0_equals_9ea2d : ByteArray := prog_18_method_66_code
def yJ0_equals_9ea2d : MethodName := ⟨RJ0, "equals", "(Ljava/lang/Object;)Z"⟩
abbrev cJ0_getBytes_840e7 : ByteArray := prog_18_method_147_code
def yJ0_getBytes_840e7 : MethodName := ⟨RJ0, "getBytes", "([BIB)V"⟩
abbrev cJ0_init_db425 : ByteArray := prog_18_method_150_code
def yJ0_init_db425 : MethodName := ⟨RJ0, "<init>", "(Ljava/lang/AbstractStringBuilder;Ljava/lang/Void;)V"⟩
abbrev cJ0_coder_7d493 : ByteArray := prog_18_method_152_code
def yJ0_coder_7d493 : MethodName := ⟨RJ0, "coder", "()B"⟩
abbrev cJ0_isLatin1_aae02 : ByteArray := prog_18_method_154_code
def yJ0_isLatin1_aae02 : MethodName := ⟨RJ0, "isLatin1", "()Z"⟩
abbrev cJ0_checkIndex_df160 : ByteArray := prog_18_method_155_code
def yJ0_checkIndex_df160 : MethodName := ⟨RJ0, "checkIndex", "(II)V"⟩
abbrev cJ0_checkBoundsOffCount_cabcc : ByteArray := prog_18_method_157_code
def yJ0_checkBoundsOffCount_cabcc : MethodName := ⟨RJ0, "checkBoundsOffCount", "(III)I"⟩
abbrev cJ0_checkBoundsBeginEnd_23922 : ByteArray := prog_18_method_158_code
def yJ0_checkBoundsBeginEnd_23922 : MethodName := ⟨RJ0, "checkBoundsBeginEnd", "(III)V"⟩
def RJ4 : String := "java/lang/StringBuilder"
def TJ4 : u_T := fun k => match k with
  | 0 => ("java/lang/AbstractStringBuilder", "value", "[B", false)
  | 1 => ("java/lang/AbstractStringBuilder", "coder", "B", false)
  | 2 => ("java/lang/AbstractStringBuilder", "maybeLatin1", "Z", false)
  | _ => ("java/lang/AbstractStringBuilder", "count", "I", false)
def tyJ4 : Nat → FieldType := fun k => match k with
  | 0 => .array .byte
  | 1 => .byte
  | 2 => .boolean
  | _ => .int
theorem nmJ4 : ∀ a, a < 4 → ∀ b, b < 4 → a ≠ b → (TJ4 a).2.1 ≠ (TJ4 b).2.1 := by decide +kernel
theorem tyJ4_ok : ∀ k, k < 4 → parseFieldDescriptor (TJ4 k).2.2.1 = some (tyJ4 k) := by decide +kernel
abbrev cJ4_init_da8c8 : ByteArray := prog_19_method_1_code
def yJ4_init_da8c8 : MethodName := ⟨RJ4, "<init>", "()V"⟩
abbrev cJ4_append_15ec4 : ByteArray := prog_19_method_7_code
def yJ4_append_15ec4 : MethodName := ⟨RJ4, "append", "(Ljava/lang/String;)Ljava/lang/StringBuilder;"⟩
abbrev cJ4_append_cf468 : ByteArray := prog_19_method_14_code
def yJ4_append_cf468 : MethodName := ⟨RJ4, "append", "(C)Ljava/lang/StringBuilder;"⟩
abbrev cJ4_append_bf812 : ByteArray := prog_19_method_15_code
def yJ4_append_bf812 : MethodName := ⟨RJ4, "append", "(I)Ljava/lang/StringBuilder;"⟩
abbrev cJ4_append_f7089 : ByteArray := prog_19_method_16_code
def yJ4_append_f7089 : MethodName := ⟨RJ4, "append", "(J)Ljava/lang/StringBuilder;"⟩
abbrev cJ4_toString_0e30d : ByteArray := prog_19_method_42_code
def yJ4_toString_0e30d : MethodName := ⟨RJ4, "toString", "()Ljava/lang/String;"⟩
abbrev cJ4_charAt_5068e : ByteArray := prog_19_method_88_code
def yJ4_charAt_5068e : MethodName := ⟨RJ4, "charAt", "(I)C"⟩
abbrev cJ4_setLength_d00df : ByteArray := prog_19_method_89_code
def yJ4_setLength_d00df : MethodName := ⟨RJ4, "setLength", "(I)V"⟩
abbrev cJ4_length_8abf5 : ByteArray := prog_19_method_93_code
def yJ4_length_8abf5 : MethodName := ⟨RJ4, "length", "()I"⟩
def RJx7c733 : String := "java/lang/StringIndexOutOfBoundsException"
def TJx7c733 : u_T := fun k => match k with
  | 0 => ("java/lang/Throwable", "backtrace", "Ljava/lang/Object;", false)
  | 1 => ("java/lang/Throwable", "detailMessage", "Ljava/lang/String;", false)
  | 2 => ("java/lang/Throwable", "cause", "Ljava/lang/Throwable;", false)
  | 3 => ("java/lang/Throwable", "stackTrace", "[Ljava/lang/StackTraceElement;", false)
  | 4 => ("java/lang/Throwable", "depth", "I", false)
  | _ => ("java/lang/Throwable", "suppressedExceptions", "Ljava/util/List;", false)
def tyJx7c733 : Nat → FieldType := fun k => match k with
  | 0 => .object "java/lang/Object"
  | 1 => .object "java/lang/String"
  | 2 => .object "java/lang/Throwable"
  | 3 => .array (.object "java/lang/StackTraceElement")
  | 4 => .int
  | _ => .object "java/util/List"
theorem nmJx7c733 : ∀ a, a < 6 → ∀ b, b < 6 → a ≠ b → (TJx7c733 a).2.1 ≠ (TJx7c733 b).2.1 := by decide +kernel
theorem tyJx7c733_ok : ∀ k, k < 6 → parseFieldDescriptor (TJx7c733 k).2.2.1 = some (tyJx7c733 k) := by decide +kernel
abbrev cJx7c733_init_d00df : ByteArray := prog_20_method_3_code
def yJx7c733_init_d00df : MethodName := ⟨RJx7c733, "<init>", "(I)V"⟩
def RJ1 : String := "java/lang/StringLatin1"
def TJ1 : u_T := fun k => match k with
  | _ => ("", "", "", false)
def tyJ1 : Nat → FieldType := fun k => match k with
  | _ => .int
theorem nmJ1 : ∀ a, a < 0 → ∀ b, b < 0 → a ≠ b → (TJ1 a).2.1 ≠ (TJ1 b).2.1 := by decide +kernel
theorem tyJ1_ok : ∀ k, k < 0 → parseFieldDescriptor (TJ1 k).2.2.1 = some (tyJ1 k) := by decide +kernel
abbrev cJ1_charAt_3b067 : ByteArray := prog_21_method_2_code
def yJ1_charAt_3b067 : MethodName := ⟨RJ1, "charAt", "([BI)C"⟩
abbrev cJ1_canEncode_fc78d : ByteArray := prog_21_method_3_code
def yJ1_canEncode_fc78d : MethodName := ⟨RJ1, "canEncode", "(C)Z"⟩
abbrev cJ1_equals_b5fdf : ByteArray := prog_21_method_13_code
def yJ1_equals_b5fdf : MethodName := ⟨RJ1, "equals", "([B[B)Z"⟩
abbrev cJ1_fillNull_b72d1 : ByteArray := prog_21_method_48_code
def yJ1_fillNull_b72d1 : MethodName := ⟨RJ1, "fillNull", "([BII)V"⟩
abbrev cJ1_inflate_0e8fd : ByteArray := prog_21_method_50_code
def yJ1_inflate_0e8fd : MethodName := ⟨RJ1, "inflate", "([BI[BII)V"⟩
def RJ2 : String := "java/lang/StringUTF16"
def TJ2 : u_T := fun k => match k with
  | _ => ("", "", "", false)
def tyJ2 : Nat → FieldType := fun k => match k with
  | _ => .int
theorem nmJ2 : ∀ a, a < 0 → ∀ b, b < 0 → a ≠ b → (TJ2 a).2.1 ≠ (TJ2 b).2.1 := by decide +kernel
theorem tyJ2_ok : ∀ k, k < 0 → parseFieldDescriptor (TJ2 k).2.2.1 = some (tyJ2 k) := by decide +kernel
abbrev cJ2_newBytesFor_77867 : ByteArray := prog_22_method_2_code
def yJ2_newBytesFor_77867 : MethodName := ⟨RJ2, "newBytesFor", "(I)[B"⟩
abbrev cJ2_newBytesLength_0f7a4 : ByteArray := prog_22_method_3_code
def yJ2_newBytesLength_0f7a4 : MethodName := ⟨RJ2, "newBytesLength", "(I)I"⟩
abbrev cJ2_putChar_b72d1 : ByteArray := prog_22_method_4_code
def yJ2_putChar_b72d1 : MethodName := ⟨RJ2, "putChar", "([BII)V"⟩
abbrev cJ2_getChar_3b067 : ByteArray := prog_22_method_5_code
def yJ2_getChar_3b067 : MethodName := ⟨RJ2, "getChar", "([BI)C"⟩
abbrev cJ2_length_9d52b : ByteArray := prog_22_method_6_code
def yJ2_length_9d52b : MethodName := ⟨RJ2, "length", "([B)I"⟩
abbrev cJ2_coderFromArrayLen_85cad : ByteArray := prog_22_method_15_code
def yJ2_coderFromArrayLen_85cad : MethodName := ⟨RJ2, "coderFromArrayLen", "([BI)B"⟩
abbrev cJ2_compress_39247 : ByteArray := prog_22_method_17_code
def yJ2_compress_39247 : MethodName := ⟨RJ2, "compress", "([BII)[B"⟩
abbrev cJ2_compress_5af95 : ByteArray := prog_22_method_22_code
def yJ2_compress_5af95 : MethodName := ⟨RJ2, "compress", "([BI[BII)I"⟩
abbrev cJ2_fillNull_b72d1 : ByteArray := prog_22_method_70_code
def yJ2_fillNull_b72d1 : MethodName := ⟨RJ2, "fillNull", "([BII)V"⟩
abbrev cJ2_putCharSB_b72d1 : ByteArray := prog_22_method_71_code
def yJ2_putCharSB_b72d1 : MethodName := ⟨RJ2, "putCharSB", "([BII)V"⟩
abbrev cJ2_getChars_46870 : ByteArray := prog_22_method_77_code
def yJ2_getChars_46870 : MethodName := ⟨RJ2, "getChars", "(III[B)I"⟩
abbrev cJ2_getChars_1ba55 : ByteArray := prog_22_method_78_code
def yJ2_getChars_1ba55 : MethodName := ⟨RJ2, "getChars", "(JII[B)I"⟩
abbrev cJ2_putCharsAt_cd4e5 : ByteArray := prog_22_method_81_code
def yJ2_putCharsAt_cd4e5 : MethodName := ⟨RJ2, "putCharsAt", "([BICCCC)I"⟩
abbrev cJ2_charAt_3b067 : ByteArray := prog_22_method_83_code
def yJ2_charAt_3b067 : MethodName := ⟨RJ2, "charAt", "([BI)C"⟩
abbrev cJ2_inflate_0e8fd : ByteArray := prog_22_method_86_code
def yJ2_inflate_0e8fd : MethodName := ⟨RJ2, "inflate", "([BI[BII)V"⟩
abbrev cJ2_getChars_ba4f3 : ByteArray := prog_22_method_89_code
def yJ2_getChars_ba4f3 : MethodName := ⟨RJ2, "getChars", "(II[B)I"⟩
abbrev cJ2_getChars_11360 : ByteArray := prog_22_method_90_code
def yJ2_getChars_11360 : MethodName := ⟨RJ2, "getChars", "(JI[B)I"⟩
abbrev cJ2_checkIndex_2214a : ByteArray := prog_22_method_91_code
def yJ2_checkIndex_2214a : MethodName := ⟨RJ2, "checkIndex", "(I[B)V"⟩
abbrev cJ2_checkBoundsBeginEnd_d044e : ByteArray := prog_22_method_93_code
def yJ2_checkBoundsBeginEnd_d044e : MethodName := ⟨RJ2, "checkBoundsBeginEnd", "(II[B)V"⟩
abbrev cJ2_checkBoundsOffCount_d044e : ByteArray := prog_22_method_94_code
def yJ2_checkBoundsOffCount_d044e : MethodName := ⟨RJ2, "checkBoundsOffCount", "(II[B)V"⟩
def RJ10 : String := "java/lang/System"
def TJ10 : u_T := fun k => match k with
  | _ => ("", "", "", false)
def tyJ10 : Nat → FieldType := fun k => match k with
  | _ => .int
theorem nmJ10 : ∀ a, a < 0 → ∀ b, b < 0 → a ≠ b → (TJ10 a).2.1 ≠ (TJ10 b).2.1 := by decide +kernel
theorem tyJ10_ok : ∀ k, k < 0 → parseFieldDescriptor (TJ10 k).2.2.1 = some (tyJ10 k) := by decide +kernel
def RJ7 : String := "java/util/Arrays"
def TJ7 : u_T := fun k => match k with
  | _ => ("", "", "", false)
def tyJ7 : Nat → FieldType := fun k => match k with
  | _ => .int
theorem nmJ7 : ∀ a, a < 0 → ∀ b, b < 0 → a ≠ b → (TJ7 a).2.1 ≠ (TJ7 b).2.1 := by decide +kernel
theorem tyJ7_ok : ∀ k, k < 0 → parseFieldDescriptor (TJ7 k).2.2.1 = some (tyJ7 k) := by decide +kernel
abbrev cJ7_rangeCheck_23922 : ByteArray := prog_25_method_30_code
def yJ7_rangeCheck_23922 : MethodName := ⟨RJ7, "rangeCheck", "(III)V"⟩
abbrev cJ7_fill_eb02e : ByteArray := prog_25_method_110_code
def yJ7_fill_eb02e : MethodName := ⟨RJ7, "fill", "([BIIB)V"⟩
abbrev cJ7_copyOf_9075b : ByteArray := prog_25_method_121_code
def yJ7_copyOf_9075b : MethodName := ⟨RJ7, "copyOf", "([BI)[B"⟩
abbrev cJ7_checkLength_df160 : ByteArray := prog_25_method_131_code
def yJ7_checkLength_df160 : MethodName := ⟨RJ7, "checkLength", "(II)V"⟩
abbrev cJ7_copyOfRange_39247 : ByteArray := prog_25_method_132_code
def yJ7_copyOfRange_39247 : MethodName := ⟨RJ7, "copyOfRange", "([BII)[B"⟩
abbrev cJ7_copyOfRangeByte_39247 : ByteArray := prog_25_method_133_code
def yJ7_copyOfRangeByte_39247 : MethodName := ⟨RJ7, "copyOfRangeByte", "([BII)[B"⟩
def RJ8 : String := "jdk/internal/util/ArraysSupport"
def TJ8 : u_T := fun k => match k with
  | _ => ("", "", "", false)
def tyJ8 : Nat → FieldType := fun k => match k with
  | _ => .int
theorem nmJ8 : ∀ a, a < 0 → ∀ b, b < 0 → a ≠ b → (TJ8 a).2.1 ≠ (TJ8 b).2.1 := by decide +kernel
theorem tyJ8_ok : ∀ k, k < 0 → parseFieldDescriptor (TJ8 k).2.2.1 = some (tyJ8 k) := by decide +kernel
abbrev cJ8_newLength_cabcc : ByteArray := prog_26_method_27_code
def yJ8_newLength_cabcc : MethodName := ⟨RJ8, "newLength", "(III)I"⟩
abbrev cJ8_hugeLength_7cf53 : ByteArray := prog_26_method_28_code
def yJ8_hugeLength_7cf53 : MethodName := ⟨RJ8, "hugeLength", "(II)I"⟩
def RJ3 : String := "jdk/internal/util/Preconditions"
def TJ3 : u_T := fun k => match k with
  | _ => ("", "", "", false)
def tyJ3 : Nat → FieldType := fun k => match k with
  | _ => .int
theorem nmJ3 : ∀ a, a < 0 → ∀ b, b < 0 → a ≠ b → (TJ3 a).2.1 ≠ (TJ3 b).2.1 := by decide +kernel
theorem tyJ3_ok : ∀ k, k < 0 → parseFieldDescriptor (TJ3 k).2.2.1 = some (tyJ3 k) := by decide +kernel
abbrev cJ3_checkIndex_8e157 : ByteArray := prog_27_method_11_code
def yJ3_checkIndex_8e157 : MethodName := ⟨RJ3, "checkIndex", "(IILjava/util/function/BiFunction;)I"⟩
abbrev cJ3_checkFromToIndex_8c36e : ByteArray := prog_27_method_12_code
def yJ3_checkFromToIndex_8c36e : MethodName := ⟨RJ3, "checkFromToIndex", "(IIILjava/util/function/BiFunction;)I"⟩
abbrev cJ3_checkFromIndexSize_8c36e : ByteArray := prog_27_method_13_code
def yJ3_checkFromIndexSize_8c36e : MethodName := ⟨RJ3, "checkFromIndexSize", "(IIILjava/util/function/BiFunction;)I"⟩
def RL : String := "ManypanesLaw"
abbrev cL_wrap : ByteArray := method_2_code
def yL_wrap : MethodName := ⟨RL, "wrap", "(LManypanes;IIILManypanesLaw$Out;)I"⟩
abbrev cL_fresh : ByteArray := method_3_code
def yL_fresh : MethodName := ⟨RL, "fresh", "(LManypanes;IILManypanesLaw$Out;)I"⟩
abbrev cL_twin : ByteArray := method_4_code
def yL_twin : MethodName := ⟨RL, "twin", "(LManypanes;IILManypanesLaw$Out;)I"⟩
abbrev cL_rest : ByteArray := method_5_code
def yL_rest : MethodName := ⟨RL, "rest", "(LManypanes;IILManypanesLaw$Out;)I"⟩
abbrev cL_part : ByteArray := method_6_code
def yL_part : MethodName := ⟨RL, "part", "(LManypanes;IIIILManypanesLaw$Out;)I"⟩
abbrev cL_reader : ByteArray := method_7_code
def yL_reader : MethodName := ⟨RL, "reader", "(LManypanes;IILManypanesLaw$Out;)I"⟩
abbrev cL_exchange : ByteArray := method_8_code
def yL_exchange : MethodName := ⟨RL, "exchange", "(LManypanes;IILManypanesLaw$Out;)I"⟩
abbrev cL_go : ByteArray := method_9_code
def yL_go : MethodName := ⟨RL, "go", "(LManypanes;IILManypanesLaw$Out;)I"⟩
abbrev cL_move : ByteArray := method_10_code
def yL_move : MethodName := ⟨RL, "move", "(LManypanes;IILManypanesLaw$Out;)I"⟩
abbrev cL_end : ByteArray := method_11_code
def yL_end : MethodName := ⟨RL, "end", "(LManypanes;IILManypanesLaw$Out;)I"⟩
abbrev cL_stretch : ByteArray := method_12_code
def yL_stretch : MethodName := ⟨RL, "stretch", "(LManypanes;IILManypanesLaw$Out;)I"⟩
abbrev cL_mark : ByteArray := method_13_code
def yL_mark : MethodName := ⟨RL, "mark", "(LManypanes;ILManypanesLaw$Out;)I"⟩
abbrev cL_back : ByteArray := method_14_code
def yL_back : MethodName := ⟨RL, "back", "(LManypanes;ILManypanesLaw$Out;)I"⟩
abbrev cL_clear : ByteArray := method_15_code
def yL_clear : MethodName := ⟨RL, "clear", "(LManypanes;ILManypanesLaw$Out;)I"⟩
abbrev cL_flip : ByteArray := method_16_code
def yL_flip : MethodName := ⟨RL, "flip", "(LManypanes;ILManypanesLaw$Out;)I"⟩
abbrev cL_rewind : ByteArray := method_17_code
def yL_rewind : MethodName := ⟨RL, "rewind", "(LManypanes;ILManypanesLaw$Out;)I"⟩
abbrev cL_put : ByteArray := method_18_code
def yL_put : MethodName := ⟨RL, "put", "(LManypanes;IILManypanesLaw$Out;)I"⟩
abbrev cL_putAt : ByteArray := method_19_code
def yL_putAt : MethodName := ⟨RL, "putAt", "(LManypanes;IIILManypanesLaw$Out;)I"⟩
abbrev cL_bring : ByteArray := method_20_code
def yL_bring : MethodName := ⟨RL, "bring", "(LManypanes;IIIILManypanesLaw$Out;)I"⟩
abbrev cL_fill : ByteArray := method_21_code
def yL_fill : MethodName := ⟨RL, "fill", "(LManypanes;IIIILManypanesLaw$Out;)I"⟩
abbrev cL_pack : ByteArray := method_22_code
def yL_pack : MethodName := ⟨RL, "pack", "(LManypanes;ILManypanesLaw$Out;)I"⟩
abbrev cL_pour : ByteArray := method_23_code
def yL_pour : MethodName := ⟨RL, "pour", "(LManypanes;IIILManypanesLaw$Out;)I"⟩
abbrev cL_lay : ByteArray := method_24_code
def yL_lay : MethodName := ⟨RL, "lay", "(LManypanes;IILManypanesLaw$Out;)I"⟩
abbrev cL_reach : ByteArray := method_25_code
def yL_reach : MethodName := ⟨RL, "reach", "(LManypanes;IIILManypanesLaw$Out;)I"⟩
abbrev cL_get : ByteArray := method_26_code
def yL_get : MethodName := ⟨RL, "get", "(LManypanes;ILManypanesLaw$Out;)I"⟩
abbrev cL_drain : ByteArray := method_27_code
def yL_drain : MethodName := ⟨RL, "drain", "(LManypanes;IILManypanesLaw$Out;)I"⟩
abbrev cL_pop : ByteArray := method_28_code
def yL_pop : MethodName := ⟨RL, "pop", "(LManypanes;ILManypanesLaw$Out;)I"⟩
abbrev cL_ofPane : ByteArray := method_29_code
def yL_ofPane : MethodName := ⟨RL, "ofPane", "(LManypanes;IILManypanesLaw$Out;)I"⟩
abbrev cL_at : ByteArray := method_30_code
def yL_at : MethodName := ⟨RL, "at", "(LManypanes;IILManypanesLaw$Out;)I"⟩
abbrev cL_peek : ByteArray := method_31_code
def yL_peek : MethodName := ⟨RL, "peek", "(LManypanes;ILManypanesLaw$Out;)I"⟩
abbrev cL_total : ByteArray := method_32_code
def yL_total : MethodName := ⟨RL, "total", "(LManypanes;ILManypanesLaw$Out;)I"⟩
abbrev cL_text : ByteArray := method_33_code
def yL_text : MethodName := ⟨RL, "text", "(LManypanes;ILManypanesLaw$Out;)I"⟩
abbrev cL_whole : ByteArray := method_34_code
def yL_whole : MethodName := ⟨RL, "whole", "(LManypanes;ILManypanesLaw$Out;)I"⟩
abbrev cL_isKin : ByteArray := method_35_code
def yL_isKin : MethodName := ⟨RL, "isKin", "(LManypanes;IILManypanesLaw$Out;)I"⟩
abbrev cL_sees : ByteArray := method_36_code
def yL_sees : MethodName := ⟨RL, "sees", "(LManypanes;IIILManypanesLaw$Out;)I"⟩
abbrev cL_would : ByteArray := method_37_code
def yL_would : MethodName := ⟨RL, "would", "(LManypanes;IILManypanesLaw$Out;)I"⟩
abbrev cL_house : ByteArray := method_38_code
def yL_house : MethodName := ⟨RL, "house", "(LManypanes;ILManypanesLaw$Out;)I"⟩
abbrev cL_law : ByteArray := code
def yL_law : MethodName := ⟨RL, "law", "([I)Z"⟩
abbrev vwCl : List vw_C := [(RJ0, TJ0, 4), (RJ4, TJ4, 4), (RJx00060, TJx00060, 6), (RJx7c733, TJx7c733, 6), (RX0, TX0, 1), (RX1, TX1, 7), (RX2, TX2, 1), (RX3, TX3, 7), (RX4, TX4, 2), (RX5, TX5, 7)]
end
section
/-- the words that every method's contract may use: the tables' good words -/
def gw : List Cond := lw_tbl.filter goodWord
theorem gw_mem {w : Cond} (h : w ∈ lw_tbl) (g : goodWord w = true) : w ∈ gw := List.mem_filter.mpr ⟨h, g⟩
theorem gw_good : ∀ w ∈ gw, (w.onTables && w.keeps) = true ∨ ∃ ty, w = .arrayClass ty := fun _ h => good_of_word (List.mem_filter.mp h).2
theorem gw_p {i : Nat} {w : Cond} (h : (k2_sels lw_privs)[i]? = some w) (g : goodWord w = true) : w ∈ gw := gw_mem (List.mem_append_left _ (List.mem_of_getElem? h)) g
theorem gw_1 {i : Nat} {w : Cond} (h : tables_1_1[i]? = some w) (g : goodWord w = true) : w ∈ gw := gw_mem (List.mem_append_right _ (List.mem_append_left _ (List.mem_of_getElem? h))) g
theorem gw_2 {i : Nat} {w : Cond} (h : tables_1_2[i]? = some w) (g : goodWord w = true) : w ∈ gw := gw_mem (List.mem_append_right _ (List.mem_append_right _ (List.mem_append_left _ (List.mem_of_getElem? h)))) g
theorem gw_3 {i : Nat} {w : Cond} (h : tables_1_3[i]? = some w) (g : goodWord w = true) : w ∈ gw := gw_mem (List.mem_append_right _ (List.mem_append_right _ (List.mem_append_right _ (List.mem_append_left _ (List.mem_of_getElem? h))))) g
theorem gw_4 {i : Nat} {w : Cond} (h : tables_1_4[i]? = some w) (g : goodWord w = true) : w ∈ gw := gw_mem (List.mem_append_right _ (List.mem_append_right _ (List.mem_append_right _ (List.mem_append_right _ (List.mem_append_left _ (List.mem_of_getElem? h)))))) g
theorem gw_5 {i : Nat} {w : Cond} (h : tables_1_5[i]? = some w) (g : goodWord w = true) : w ∈ gw := gw_mem (List.mem_append_right _ (List.mem_append_right _ (List.mem_append_right _ (List.mem_append_right _ (List.mem_append_right _ (List.mem_append_left _ (List.mem_of_getElem? h))))))) g
theorem gw_6 {i : Nat} {w : Cond} (h : tables_1_6[i]? = some w) (g : goodWord w = true) : w ∈ gw := gw_mem (List.mem_append_right _ (List.mem_append_right _ (List.mem_append_right _ (List.mem_append_right _ (List.mem_append_right _ (List.mem_append_right _ (List.mem_of_getElem? h))))))) g
/-- a method: its name, its bytes, its locals, what it returns -/
abbrev zY : Type := MethodName × ByteArray × Nat × Option FieldType
def z_ws (q : zY) : List Cond := .code q.1 q.2.1 q.2.2.1 q.2.2.2 :: gw
def z_rm (d c s : Nat) : Room := { frames := d, cells := c, slots := s, locals := 64 * d }
theorem z_good {q : zY} (hq : Cond.code q.1 q.2.1 q.2.2.1 q.2.2.2 ∈ gw) : GoodIn gw (z_ws q) := fun w h => (List.mem_cons.mp h).elim (fun e => by rw [e]; exact ⟨hq, gw_good _ hq⟩) (fun h => ⟨h, gw_good _ h⟩)
/-! THE Z LAYER. A world is a partial map from addresses to cells (zM); a position in a method is a pure value: pc, the locals that are known (lv), the stack (st), the world, the room used. z_W says: from there the walk comes to its end. Contracts (z_Mi ..) speak of the world before and of the answer with the world behind. -/
abbrev zM : Type := Nat → Option va_E
abbrev zG : Type := va_G × ClassId × ClassId × ClassId × ClassId
def z_tys (G : zG) : List (ClassId × FieldType) := [(G.2.1, .byte), (G.2.2.1, .int), (G.2.2.2.1, .object RX1), (G.2.2.2.2, .array .int)]
def z_up (M : zM) (a : Nat) (e : va_E) : zM := fun q => if q = a then some e else M q
theorem z_up_s (M : zM) (a : Nat) (e : va_E) : z_up M a e a = some e := by simp [z_up]
theorem z_up_n (M : zM) {a b : Nat} (e : va_E) (h : b ≠ a) : z_up M a e b = M b := by simp [z_up, h]
def z_h (G : zG) (M : zM) (H : Heap) : Prop := ∀ (a : Nat) (e : va_E), M a = some e → va_at G.1 vwCl (a, e) H
def z_in (A : Nat → Prop) (M : zM) : Prop := ∀ (a : Nat) (e : va_E), M a = some e → A a
def z_A (M : zM) (sz : Nat) : Nat → Prop := fun q => (∃ e, M q = some e) ∨ sz ≤ q
def z_K (G : zG) (U : State) : Prop := va_K G.1 vwCl (z_tys G) U
theorem z_one {G : zG} {M : zM} {H : Heap} (h : z_h G M H) {a : Nat} {e : va_E} (ha : M a = some e) : va_P G.1 vwCl [(a, e)] H := fun k q hk => by
  cases k with
  | zero => cases hk; exact h a e ha
  | succ k => simp at hk
theorem z_h_up {G : zG} {M : zM} {H H1 : Heap} (h : z_h G M H) {a : Nat} {e : va_E} (he : va_at G.1 vwCl (a, e) H1) (oq : ∀ q : Nat, q ≠ a → H1[q]? = H[q]?) : z_h G (z_up M a e) H1 := by
  intro b f hb
  by_cases hba : b = a
  · subst hba
    rw [z_up_s] at hb
    cases hb
    exact he
  · rw [z_up_n _ _ hba] at hb
    exact (h b f hb).kept (oq b hba)
theorem z_h_lt {G : zG} {M : zM} {H : Heap} (h : z_h G M H) {a : Nat} {e : va_E} (ha : M a = some e) : a < H.size := (h a e ha).lt
theorem z_h_new {G : zG} {M : zM} {H H1 : Heap} (h : z_h G M H) {a : Nat} {e : va_E} (ha : a = H.size) (he : va_at G.1 vwCl (a, e) H1) (oq : ∀ q : Nat, q < H.size → H1[q]? = H[q]?) : z_h G (z_up M a e) H1 := by
  intro b f hb
  by_cases hba : b = a
  · subst hba
    rw [z_up_s] at hb
    cases hb
    exact he
  · rw [z_up_n _ _ hba] at hb
    exact (h b f hb).kept (oq b (z_h_lt h hb))
theorem z_h_no {G : zG} {M : zM} {H : Heap} (h : z_h G M H) {a : Nat} (ha : H.size ≤ a) : M a = none := by
  cases hb : M a with
  | none => rfl
  | some e => exact absurd (z_h_lt h hb) (by omega)
theorem z_in_up {A : Nat → Prop} {M : zM} (h : z_in A M) {a : Nat} {e : va_E} (ha : A a) : z_in A (z_up M a e) := by
  intro b f hb
  by_cases hba : b = a
  · rw [hba]; exact ha
  · rw [z_up_n _ _ hba] at hb
    exact h b f hb
def z_d1 (j : Nat) : Value := .int (nI (48 + j % 10))
def z_d10 (j : Nat) : Value := .int (nI (48 + j / 10))
def z_J (A : Nat → Prop) (U : State) (H : Heap) : Prop :=
  va_Z "java/lang/String" "COMPACT_STRINGS" "Z" (.int 1) A U H ∧ (∃ t : Nat, va_Z "java/lang/Integer" "DigitOnes" "[B" (.ref t) A U H ∧ va_T .byte t 100 z_d1 A U H) ∧ (∃ t : Nat, va_Z "java/lang/Integer" "DigitTens" "[B" (.ref t) A U H ∧ va_T .byte t 100 z_d10 A U H) ∧
  va_Zq "jdk/internal/util/Preconditions" "SIOOBE_FORMATTER" "Ljava/util/function/BiFunction;" A U H
theorem z_J_moved {A : Nat → Prop} {u U : State} {H : Heap} (hvm : u.vm.Alike U.vm) (h : z_J A u H) : z_J A U H := by
  obtain ⟨h1, ⟨t2, a2, b2⟩, ⟨t3, a3, b3⟩, h4⟩ := h
  exact ⟨h1.moved hvm, ⟨t2, a2.moved hvm, b2.moved hvm⟩, ⟨t3, a3.moved hvm, b3.moved hvm⟩, h4.moved hvm⟩
theorem z_J_kept {A : Nat → Prop} {U : State} {H H1 : Heap} (h : z_J A U H) (hq : ∀ a : Nat, a < H.size → ¬ A a → H1[a]? = H[a]?) : z_J A U H1 := by
  obtain ⟨h1, ⟨t2, a2, b2⟩, ⟨t3, a3, b3⟩, h4⟩ := h
  exact ⟨h1.kept hq, ⟨t2, a2.kept hq, b2.kept hq⟩, ⟨t3, a3.kept hq, b3.kept hq⟩, h4.kept hq⟩
theorem z_J_narrow {A B : Nat → Prop} {U : State} {H : Heap} (h : z_J A U H) (hAB : ∀ q, B q → A q) : z_J B U H := by
  obtain ⟨h1, ⟨t2, a2, b2⟩, ⟨t3, a3, b3⟩, h4⟩ := h
  exact ⟨h1.narrow hAB, ⟨t2, a2.narrow hAB, b2.narrow hAB⟩, ⟨t3, a3.narrow hAB, b3.narrow hAB⟩, h4.narrow hAB⟩
abbrev zX : Type := Program × Launch × Env × Room × State × MethodId × Array Value × List Frame × Method × Code × (State → Prop) × (Nat → Prop) × zG
abbrev z_p (X : zX) : Program := X.1
abbrev z_l (X : zX) : Launch := X.2.1
abbrev z_e (X : zX) : Env := X.2.2.1
abbrev z_R (X : zX) : Room := X.2.2.2.1
abbrev z_s (X : zX) : State := X.2.2.2.2.1
abbrev z_m (X : zX) : MethodId := X.2.2.2.2.2.1
abbrev z_a (X : zX) : Array Value := X.2.2.2.2.2.2.1
abbrev z_b (X : zX) : List Frame := X.2.2.2.2.2.2.2.1
abbrev z_me (X : zX) : Method := X.2.2.2.2.2.2.2.2.1
abbrev z_c (X : zX) : Code := X.2.2.2.2.2.2.2.2.2.1
abbrev z_Q (X : zX) : State → Prop := X.2.2.2.2.2.2.2.2.2.2.1
abbrev z_F (X : zX) : Nat → Prop := X.2.2.2.2.2.2.2.2.2.2.2.1
abbrev z_G (X : zX) : zG := X.2.2.2.2.2.2.2.2.2.2.2.2
def z_W (X : zX) (M : zM) (k n pc : Nat) (lv : List (Nat × Value)) (st : List Value) : Prop := ∀ (H : Heap) (locs : List Loc) (ls : Array Slot), z_h (z_G X) M H → z_in (z_F X) M → va_S (z_F X) (z_s X).heap H locs → lv_has ls (z_c X).maxLocals lv →
  W (z_p X) (z_l X) (z_e X) (z_R X) (z_s X) (z_m X) (z_a X) (z_b X) (z_me X) (z_c X) H locs k n (z_Q X) (F0 (z_m X) pc ls st)
/-- what is known of a walk's surroundings: the machine, the code, the locals' number, the class, the words, the classes known, the JDK's statics, what is free, the room -/
def z_C (X : zX) (cc : ByteArray) (own : String) (nL : Nat) (rm : Room) : Prop :=
  (z_p X).tables.exec = Jvm.exec ∧ (z_c X).code = cc ∧ (z_c X).maxLocals = nL ∧ (z_s X).vm.findClass own = some (z_m X).cls ∧ (∀ w ∈ gw, w.before (z_a X) (z_s X) = true) ∧ z_K (z_G X) (z_s X) ∧ z_J (z_F X) (z_s X) (z_s X).heap ∧ (∀ q : Nat, (z_s X).heap.size ≤ q → z_F X q) ∧ z_R X = rm
theorem z_tow {X : zX} {cc : ByteArray} {own : String} {nL : Nat} {rm : Room} (C : z_C X cc own nL rm) {w : Cond} (h : w ∈ gw) : w.before (z_a X) (z_s X) = true := C.2.2.2.2.1 w h
/-- what a callee is given, what it gives back -/
def z_B (G : zG) (M : zM) (sz : Nat) (U : State) : Prop := U.heap.size = sz ∧ z_h G M U.heap ∧ z_K G U ∧ z_J (z_A M sz) U U.heap
def z_E (G : zG) (M : zM) (sz : Nat) (M' : zM) (t : State) : Prop := z_h G M' t.heap ∧ z_in (z_A M sz) M'
def z_Mi (l : Launch) (G : zG) (q : zY) (rm : Room) (av : List Value) (M : zM) (post : Int32 → zM → Prop) : Prop := ∀ sz : Nat, Met l q.1 (z_ws q) rm (va_Pc av (z_B G M sz)) (va_Qi post (z_E G M sz) (z_A M sz)) rm.cells rm.slots (z_A M sz)
def z_Ml (l : Launch) (G : zG) (q : zY) (rm : Room) (av : List Value) (M : zM) (post : Int64 → zM → Prop) : Prop := ∀ sz : Nat, Met l q.1 (z_ws q) rm (va_Pc av (z_B G M sz)) (va_Ql post (z_E G M sz) (z_A M sz)) rm.cells rm.slots (z_A M sz)
def z_Mv (l : Launch) (G : zG) (q : zY) (rm : Room) (av : List Value) (M : zM) (post : zM → Prop) : Prop := ∀ sz : Nat, Met l q.1 (z_ws q) rm (va_Pc av (z_B G M sz)) (va_Qv post (z_E G M sz) (z_A M sz)) rm.cells rm.slots (z_A M sz)
/-- an answer that is a cell: (its address, the world) -/
def z_Mr (l : Launch) (G : zG) (q : zY) (rm : Room) (av : List Value) (M : zM) (post : Nat → zM → Prop) : Prop := ∀ sz : Nat, Met l q.1 (z_ws q) rm (va_Pc av (z_B G M sz)) (va_Qr (fun u : Nat × zM => post u.1 u.2) (fun u a t => a = u.1 ∧ z_E G M sz u.2 t) (z_A M sz)) rm.cells rm.slots (z_A M sz)
theorem z_blind {G : zG} {M : zM} {sz : Nat} {av : List Value} : FrameBlind (va_Pc av (z_B G M sz)) := fun a U g mk q => by
  obtain ⟨q0, q1, q2, q3, q4⟩ := q
  exact ⟨q0, q1, q2, va_K.moved (u := U) (U := U.calling g mk a) (Vm.Alike.refl U.vm) q3, z_J_moved (u := U) (U := U.calling g mk a) (Vm.Alike.refl U.vm) q4⟩
section ZC
variable {X : zX} {cc : ByteArray} {own : String} {nL : Nat} {rm : Room} {M : zM} {H : Heap} {locs : List Loc}
theorem z_sub (C : z_C X cc own nL rm) (h2 : z_in (z_F X) M) (h3 : va_S (z_F X) (z_s X).heap H locs) : ∀ q, z_A M H.size q → z_F X q := fun q h => h.elim (fun ⟨e, he⟩ => h2 q e he) (fun h => C.2.2.2.2.2.2.2.1 q (Nat.le_trans h3.1 h))
theorem z_pre (C : z_C X cc own nL rm) (h1 : z_h (z_G X) M H) (h2 : z_in (z_F X) M) (h3 : va_S (z_F X) (z_s X).heap H locs) {U : State} (hU : U.heap = H) (hW : (z_s X).WarmedH U.vm) : z_B (z_G X) M H.size U := by
  subst hU
  exact ⟨rfl, h1, va_K.moved hW.alike C.2.2.2.2.2.1, z_J_moved hW.alike (z_J_narrow (z_J_kept C.2.2.2.2.2.2.1 h3.2.1) (z_sub C h2 h3))⟩
theorem z_recv (C : z_C X cc own nL rm) (h1 : z_h (z_G X) M H) {b ci : Nat} {fs : List Value} {q : vw_C} (hb : M b = some (.inr (ci, fs))) (hc : vwCl[ci]? = some q) : ∃ cell : Cell, H[b]? = some cell ∧ cell.vm.isStatics = false ∧ (z_s X).vm.findClass q.1 = some cell.cls :=
  va_recv C.2.2.2.2.2.1 (z_one h1 hb) hc (q0 := 0) rfl
end ZC
section ZR
variable {X : zX} {cc : ByteArray} {own : String} {nL : Nat} {rm : Room} {M : zM} {k n pc : Nat} {lv lv' : List (Nat × Value)} {st : List Value}
theorem z_iconst (C : z_C X cc own nL rm) {i : Int} {v : Int32} (d : decode cc pc = .ok (.iconst i, 1)) (hv : Int32.ofInt i = v) (kk : z_W X M k n (pc + 1) lv (.int v :: st)) : z_W X M k n pc lv (st) :=
  fun H locs ls h1 h2 h3 h4 => lv_iconst C.1 C.2.1 d hv (kk H locs ls h1 h2 h3 h4)
theorem z_bipush (C : z_C X cc own nL rm) {i : Int} {v : Int32} (d : decode cc pc = .ok (.bipush i, 2)) (hv : (Int8.ofInt i).toInt32 = v) (kk : z_W X M k n (pc + 2) lv (.int v :: st)) : z_W X M k n pc lv (st) :=
  fun H locs ls h1 h2 h3 h4 => lv_bipush C.1 C.2.1 d hv (kk H locs ls h1 h2 h3 h4)
theorem z_sipush (C : z_C X cc own nL rm) {i : Int} {v : Int32} (d : decode cc pc = .ok (.sipush i, 3)) (hv : (Int16.ofInt i).toInt32 = v) (kk : z_W X M k n (pc + 3) lv (.int v :: st)) : z_W X M k n pc lv (st) :=
  fun H locs ls h1 h2 h3 h4 => lv_sipush C.1 C.2.1 d hv (kk H locs ls h1 h2 h3 h4)
theorem z_lconst (C : z_C X cc own nL rm) {i : Fin 2} {v : Int64} (d : decode cc pc = .ok (.lconst i, 1)) (hv : Int64.ofNat (i : Nat) = v) (kk : z_W X M k n (pc + 1) lv (.long v :: st)) : z_W X M k n pc lv (st) :=
  fun H locs ls h1 h2 h3 h4 => lv_lconst C.1 C.2.1 d hv (kk H locs ls h1 h2 h3 h4)
theorem z_iload_n (C : z_C X cc own nL rm) {j : Fin 4} {i : Nat} {x : Int32} (d : decode cc pc = .ok (.iload_n j, 1)) (hi : (j : Nat) = i) (q : Nat) (hl : lv[q]? = some (i, .int x)) (kk : z_W X M k n (pc + 1) lv (.int x :: st)) : z_W X M k n pc lv (st) :=
  fun H locs ls h1 h2 h3 h4 => lv_iload_n C.1 C.2.1 d hi (lv_at h4 q hl) (kk H locs ls h1 h2 h3 h4)
theorem z_iload (C : z_C X cc own nL rm) {i : Nat} {x : Int32} (d : decode cc pc = .ok (.iload i, 2)) (q : Nat) (hl : lv[q]? = some (i, .int x)) (kk : z_W X M k n (pc + 2) lv (.int x :: st)) : z_W X M k n pc lv (st) :=
  fun H locs ls h1 h2 h3 h4 => lv_iload C.1 C.2.1 d (lv_at h4 q hl) (kk H locs ls h1 h2 h3 h4)
theorem z_lload_n (C : z_C X cc own nL rm) {j : Fin 4} {i : Nat} {x : Int64} (d : decode cc pc = .ok (.lload_n j, 1)) (hi : (j : Nat) = i) (q : Nat) (hl : lv[q]? = some (i, .long x)) (kk : z_W X M k n (pc + 1) lv (.long x :: st)) : z_W X M k n pc lv (st) :=
  fun H locs ls h1 h2 h3 h4 => lv_lload_n C.1 C.2.1 d hi (lv_at h4 q hl) (kk H locs ls h1 h2 h3 h4)
theorem z_lload (C : z_C X cc own nL rm) {i : Nat} {x : Int64} (d : decode cc pc = .ok (.lload i, 2)) (q : Nat) (hl : lv[q]? = some (i, .long x)) (kk : z_W X M k n (pc + 2) lv (.long x :: st)) : z_W X M k n pc lv (st) :=
  fun H locs ls h1 h2 h3 h4 => lv_lload C.1 C.2.1 d (lv_at h4 q hl) (kk H locs ls h1 h2 h3 h4)
theorem z_aload_n (C : z_C X cc own nL rm) {j : Fin 4} {i : Nat} {x : Nat} (d : decode cc pc = .ok (.aload_n j, 1)) (hi : (j : Nat) = i) (q : Nat) (hl : lv[q]? = some (i, .ref x)) (kk : z_W X M k n (pc + 1) lv (.ref x :: st)) : z_W X M k n pc lv (st) :=
  fun H locs ls h1 h2 h3 h4 => lv_aload_n C.1 C.2.1 d hi (lv_at h4 q hl) (kk H locs ls h1 h2 h3 h4)
theorem z_aload (C : z_C X cc own nL rm) {i : Nat} {x : Nat} (d : decode cc pc = .ok (.aload i, 2)) (q : Nat) (hl : lv[q]? = some (i, .ref x)) (kk : z_W X M k n (pc + 2) lv (.ref x :: st)) : z_W X M k n pc lv (st) :=
  fun H locs ls h1 h2 h3 h4 => lv_aload C.1 C.2.1 d (lv_at h4 q hl) (kk H locs ls h1 h2 h3 h4)
theorem z_istore_n (C : z_C X cc own nL rm) {j : Fin 4} {i : Nat} {x : Int32} (d : decode cc pc = .ok (.istore_n j, 1)) (hi : (j : Nat) = i) (hn : i < nL) (hl : (i, Value.int x) :: lv.filter (fun q => !(q.1 == i) && !(q.1 + 1 == i && q.2.category == 2)) = lv') (kk : z_W X M k n (pc + 1) lv' st) : z_W X M k n pc lv (.int x :: st) :=
  fun H locs ls h1 h2 h3 h4 => lv_istore_n C.1 C.2.1 d hi h4 (by rw [C.2.2.1]; exact hn) hl (fun ls' h5 => kk H locs ls' h1 h2 h3 h5)
theorem z_istore (C : z_C X cc own nL rm) {i : Nat} {x : Int32} (d : decode cc pc = .ok (.istore i, 2)) (hn : i < nL) (hl : (i, Value.int x) :: lv.filter (fun q => !(q.1 == i) && !(q.1 + 1 == i && q.2.category == 2)) = lv') (kk : z_W X M k n (pc + 2) lv' st) : z_W X M k n pc lv (.int x :: st) :=
  fun H locs ls h1 h2 h3 h4 => lv_istore C.1 C.2.1 d h4 (by rw [C.2.2.1]; exact hn) hl (fun ls' h5 => kk H locs ls' h1 h2 h3 h5)
theorem z_lstore_n (C : z_C X cc own nL rm) {j : Fin 4} {i : Nat} {x : Int64} (d : decode cc pc = .ok (.lstore_n j, 1)) (hi : (j : Nat) = i) (hn : i + 1 < nL) (hl : (i, Value.long x) :: lv.filter (fun q => !(q.1 == i) && (!(q.1 == i + 1) && !(q.1 + 1 == i && q.2.category == 2))) = lv') (kk : z_W X M k n (pc + 1) lv' st) : z_W X M k n pc lv (.long x :: st) :=
  fun H locs ls h1 h2 h3 h4 => lv_lstore_n C.1 C.2.1 d hi h4 (by rw [C.2.2.1]; exact hn) hl (fun ls' h5 => kk H locs ls' h1 h2 h3 h5)
theorem z_lstore (C : z_C X cc own nL rm) {i : Nat} {x : Int64} (d : decode cc pc = .ok (.lstore i, 2)) (hn : i + 1 < nL) (hl : (i, Value.long x) :: lv.filter (fun q => !(q.1 == i) && (!(q.1 == i + 1) && !(q.1 + 1 == i && q.2.category == 2))) = lv') (kk : z_W X M k n (pc + 2) lv' st) : z_W X M k n pc lv (.long x :: st) :=
  fun H locs ls h1 h2 h3 h4 => lv_lstore C.1 C.2.1 d h4 (by rw [C.2.2.1]; exact hn) hl (fun ls' h5 => kk H locs ls' h1 h2 h3 h5)
theorem z_astore_n (C : z_C X cc own nL rm) {j : Fin 4} {i : Nat} {x : Nat} (d : decode cc pc = .ok (.astore_n j, 1)) (hi : (j : Nat) = i) (hn : i < nL) (hl : (i, Value.ref x) :: lv.filter (fun q => !(q.1 == i) && !(q.1 + 1 == i && q.2.category == 2)) = lv') (kk : z_W X M k n (pc + 1) lv' st) : z_W X M k n pc lv (.ref x :: st) :=
  fun H locs ls h1 h2 h3 h4 => lv_astore_n C.1 C.2.1 d hi h4 (by rw [C.2.2.1]; exact hn) hl (fun ls' h5 => kk H locs ls' h1 h2 h3 h5)
theorem z_astore (C : z_C X cc own nL rm) {i : Nat} {x : Nat} (d : decode cc pc = .ok (.astore i, 2)) (hn : i < nL) (hl : (i, Value.ref x) :: lv.filter (fun q => !(q.1 == i) && !(q.1 + 1 == i && q.2.category == 2)) = lv') (kk : z_W X M k n (pc + 2) lv' st) : z_W X M k n pc lv (.ref x :: st) :=
  fun H locs ls h1 h2 h3 h4 => lv_astore C.1 C.2.1 d h4 (by rw [C.2.2.1]; exact hn) hl (fun ls' h5 => kk H locs ls' h1 h2 h3 h5)
theorem z_iinc (C : z_C X cc own nL rm) {i : Nat} {j : Int} {x v : Int32} (d : decode cc pc = .ok (.iinc i j, 3)) (q : Nat) (hk : lv[q]? = some (i, .int x)) (hv : x + Int32.ofInt j = v) (hn : i < nL) (hl : (i, Value.int v) :: lv.filter (fun q => !(q.1 == i) && !(q.1 + 1 == i && q.2.category == 2)) = lv') (kk : z_W X M k n (pc + 3) lv' st) : z_W X M k n pc lv st :=
  fun H locs ls h1 h2 h3 h4 => lv_iinc C.1 C.2.1 d h4 hk hv (by rw [C.2.2.1]; exact hn) hl (fun ls' h5 => kk H locs ls' h1 h2 h3 h5)
theorem z_iadd (C : z_C X cc own nL rm) {x y : Int32} (d : decode cc pc = .ok (.iadd, 1)) (kk : z_W X M k n (pc + 1) lv (.int (x + y) :: st)) : z_W X M k n pc lv (.int y :: .int x :: st) :=
  fun H locs ls h1 h2 h3 h4 => lv_iadd C.1 C.2.1 d (kk H locs ls h1 h2 h3 h4)
theorem z_isub (C : z_C X cc own nL rm) {x y : Int32} (d : decode cc pc = .ok (.isub, 1)) (kk : z_W X M k n (pc + 1) lv (.int (x - y) :: st)) : z_W X M k n pc lv (.int y :: .int x :: st) :=
  fun H locs ls h1 h2 h3 h4 => lv_isub C.1 C.2.1 d (kk H locs ls h1 h2 h3 h4)
theorem z_imul (C : z_C X cc own nL rm) {x y : Int32} (d : decode cc pc = .ok (.imul, 1)) (kk : z_W X M k n (pc + 1) lv (.int (x * y) :: st)) : z_W X M k n pc lv (.int y :: .int x :: st) :=
  fun H locs ls h1 h2 h3 h4 => lv_imul C.1 C.2.1 d (kk H locs ls h1 h2 h3 h4)
theorem z_iand (C : z_C X cc own nL rm) {x y : Int32} (d : decode cc pc = .ok (.iand, 1)) (kk : z_W X M k n (pc + 1) lv (.int (x &&& y) :: st)) : z_W X M k n pc lv (.int y :: .int x :: st) :=
  fun H locs ls h1 h2 h3 h4 => lv_iand C.1 C.2.1 d (kk H locs ls h1 h2 h3 h4)
theorem z_irem (C : z_C X cc own nL rm) {x y : Int32} (d : decode cc pc = .ok (.irem, 1)) (hne : ¬ y = 0) (kk : z_W X M k n (pc + 1) lv (.int (x - x / y * y) :: st)) : z_W X M k n pc lv (.int y :: .int x :: st) :=
  fun H locs ls h1 h2 h3 h4 => lv_irem C.1 C.2.1 d hne (kk H locs ls h1 h2 h3 h4)
theorem z_idiv (C : z_C X cc own nL rm) {x y : Int32} (d : decode cc pc = .ok (.idiv, 1)) (hne : ¬ y = 0) (kk : z_W X M k n (pc + 1) lv (.int (x / y) :: st)) : z_W X M k n pc lv (.int y :: .int x :: st) :=
  fun H locs ls h1 h2 h3 h4 => lv_idiv C.1 C.2.1 d hne (kk H locs ls h1 h2 h3 h4)
theorem z_ladd (C : z_C X cc own nL rm) {x y : Int64} (d : decode cc pc = .ok (.ladd, 1)) (kk : z_W X M k n (pc + 1) lv (.long (x + y) :: st)) : z_W X M k n pc lv (.long y :: .long x :: st) :=
  fun H locs ls h1 h2 h3 h4 => lv_ladd C.1 C.2.1 d (kk H locs ls h1 h2 h3 h4)
theorem z_lsub (C : z_C X cc own nL rm) {x y : Int64} (d : decode cc pc = .ok (.lsub, 1)) (kk : z_W X M k n (pc + 1) lv (.long (x - y) :: st)) : z_W X M k n pc lv (.long y :: .long x :: st) :=
  fun H locs ls h1 h2 h3 h4 => lv_lsub C.1 C.2.1 d (kk H locs ls h1 h2 h3 h4)
theorem z_lmul (C : z_C X cc own nL rm) {x y : Int64} (d : decode cc pc = .ok (.lmul, 1)) (kk : z_W X M k n (pc + 1) lv (.long (x * y) :: st)) : z_W X M k n pc lv (.long y :: .long x :: st) :=
  fun H locs ls h1 h2 h3 h4 => lv_lmul C.1 C.2.1 d (kk H locs ls h1 h2 h3 h4)
theorem z_lrem (C : z_C X cc own nL rm) {x y : Int64} (d : decode cc pc = .ok (.lrem, 1)) (hne : ¬ y = 0) (kk : z_W X M k n (pc + 1) lv (.long (x - x / y * y) :: st)) : z_W X M k n pc lv (.long y :: .long x :: st) :=
  fun H locs ls h1 h2 h3 h4 => lv_lrem C.1 C.2.1 d hne (kk H locs ls h1 h2 h3 h4)
theorem z_ldiv (C : z_C X cc own nL rm) {x y : Int64} (d : decode cc pc = .ok (.ldiv, 1)) (hne : ¬ y = 0) (kk : z_W X M k n (pc + 1) lv (.long (x / y) :: st)) : z_W X M k n pc lv (.long y :: .long x :: st) :=
  fun H locs ls h1 h2 h3 h4 => lv_ldiv C.1 C.2.1 d hne (kk H locs ls h1 h2 h3 h4)
theorem z_i2l (C : z_C X cc own nL rm) {x : Int32} (d : decode cc pc = .ok (.i2l, 1)) (kk : z_W X M k n (pc + 1) lv (.long x.toInt64 :: st)) : z_W X M k n pc lv (.int x :: st) :=
  fun H locs ls h1 h2 h3 h4 => lv_i2l C.1 C.2.1 d rfl (kk H locs ls h1 h2 h3 h4)
theorem z_l2i (C : z_C X cc own nL rm) {x : Int64} (d : decode cc pc = .ok (.l2i, 1)) (kk : z_W X M k n (pc + 1) lv (.int x.toInt32 :: st)) : z_W X M k n pc lv (.long x :: st) :=
  fun H locs ls h1 h2 h3 h4 => lv_l2i C.1 C.2.1 d rfl (kk H locs ls h1 h2 h3 h4)
theorem z_i2c (C : z_C X cc own nL rm) {x : Int32} (d : decode cc pc = .ok (.i2c, 1)) (kk : z_W X M k n (pc + 1) lv (.int (x.toUInt32 % 65536).toInt32 :: st)) : z_W X M k n pc lv (.int x :: st) :=
  fun H locs ls h1 h2 h3 h4 => lv_i2c C.1 C.2.1 d rfl (kk H locs ls h1 h2 h3 h4)
theorem z_i2b (C : z_C X cc own nL rm) {x : Int32} (d : decode cc pc = .ok (.i2b, 1)) (kk : z_W X M k n (pc + 1) lv (.int x.toInt8.toInt32 :: st)) : z_W X M k n pc lv (.int x :: st) :=
  fun H locs ls h1 h2 h3 h4 => lv_i2b C.1 C.2.1 d rfl (kk H locs ls h1 h2 h3 h4)
theorem z_ineg (C : z_C X cc own nL rm) {x : Int32} (d : decode cc pc = .ok (.ineg, 1)) (kk : z_W X M k n (pc + 1) lv (.int (-x) :: st)) : z_W X M k n pc lv (.int x :: st) :=
  fun H locs ls h1 h2 h3 h4 => lv_ineg C.1 C.2.1 d (kk H locs ls h1 h2 h3 h4)
theorem z_ishl (C : z_C X cc own nL rm) {x y : Int32} (d : decode cc pc = .ok (.ishl, 1)) (kk : z_W X M k n (pc + 1) lv (.int (x <<< (y &&& 31)) :: st)) : z_W X M k n pc lv (.int y :: .int x :: st) :=
  fun H locs ls h1 h2 h3 h4 => lv_ishl C.1 C.2.1 d (kk H locs ls h1 h2 h3 h4)
theorem z_ishr (C : z_C X cc own nL rm) {x y : Int32} (d : decode cc pc = .ok (.ishr, 1)) (kk : z_W X M k n (pc + 1) lv (.int (x >>> (y &&& 31)) :: st)) : z_W X M k n pc lv (.int y :: .int x :: st) :=
  fun H locs ls h1 h2 h3 h4 => lv_ishr C.1 C.2.1 d (kk H locs ls h1 h2 h3 h4)
theorem z_dup (C : z_C X cc own nL rm) {va : Value} (d : decode cc pc = .ok (.dup, 1)) (hva : va.category = 1) (kk : z_W X M k n (pc + 1) lv (va :: va :: st)) : z_W X M k n pc lv (va :: st) :=
  fun H locs ls h1 h2 h3 h4 => lv_dup C.1 C.2.1 d hva (kk H locs ls h1 h2 h3 h4)
theorem z_pop (C : z_C X cc own nL rm) {va : Value} (d : decode cc pc = .ok (.pop, 1)) (hva : va.category = 1) (kk : z_W X M k n (pc + 1) lv (st)) : z_W X M k n pc lv (va :: st) :=
  fun H locs ls h1 h2 h3 h4 => lv_pop C.1 C.2.1 d hva (kk H locs ls h1 h2 h3 h4)
theorem z_dup_x1 (C : z_C X cc own nL rm) {va vb : Value} (d : decode cc pc = .ok (.dup_x1, 1)) (hva : va.category = 1) (hvb : vb.category = 1) (kk : z_W X M k n (pc + 1) lv (va :: vb :: va :: st)) : z_W X M k n pc lv (va :: vb :: st) :=
  fun H locs ls h1 h2 h3 h4 => lv_dup_x1 C.1 C.2.1 d hva hvb (kk H locs ls h1 h2 h3 h4)
theorem z_dup2 (C : z_C X cc own nL rm) {va vb : Value} (d : decode cc pc = .ok (.dup2, 1)) (hva : va.category = 1) (hvb : vb.category = 1) (kk : z_W X M k n (pc + 1) lv (va :: vb :: va :: vb :: st)) : z_W X M k n pc lv (va :: vb :: st) :=
  fun H locs ls h1 h2 h3 h4 => lv_dup2_11 C.1 C.2.1 d hva hvb (kk H locs ls h1 h2 h3 h4)
theorem z_lcmp (C : z_C X cc own nL rm) {x y : Int64} (d : decode cc pc = .ok (.lcmp, 1)) (kk : z_W X M k n (pc + 1) lv (.int (lg_cmp x y) :: st)) : z_W X M k n pc lv (.long y :: .long x :: st) :=
  fun H locs ls h1 h2 h3 h4 => W.lcmp C.1 C.2.1 d (kk H locs ls h1 h2 h3 h4)
theorem z_if_eq (C : z_C X cc own nL rm) {x : Int32} {off : Int} {tgt : Nat} (d : decode cc pc = .ok (.ifCond .eq off, 3)) (ht : (pc : Int) + off = (tgt : Int)) (kt : x = 0 → z_W X M k n tgt lv st) (kf : ¬ x = 0 → z_W X M k n (pc + 3) lv st) : z_W X M k n pc lv (.int x :: st) :=
  fun H locs ls h1 h2 h3 h4 => lv_if_eq C.1 C.2.1 d ht (fun q => kt q H locs ls h1 h2 h3 h4) (fun q => kf q H locs ls h1 h2 h3 h4)
theorem z_if_ne (C : z_C X cc own nL rm) {x : Int32} {off : Int} {tgt : Nat} (d : decode cc pc = .ok (.ifCond .ne off, 3)) (ht : (pc : Int) + off = (tgt : Int)) (kt : ¬ x = 0 → z_W X M k n tgt lv st) (kf : x = 0 → z_W X M k n (pc + 3) lv st) : z_W X M k n pc lv (.int x :: st) :=
  fun H locs ls h1 h2 h3 h4 => lv_if_ne C.1 C.2.1 d ht (fun q => kt q H locs ls h1 h2 h3 h4) (fun q => kf q H locs ls h1 h2 h3 h4)
theorem z_if_lt (C : z_C X cc own nL rm) {x : Int32} {off : Int} {tgt : Nat} (d : decode cc pc = .ok (.ifCond .lt off, 3)) (ht : (pc : Int) + off = (tgt : Int)) (kt : x < 0 → z_W X M k n tgt lv st) (kf : ¬ x < 0 → z_W X M k n (pc + 3) lv st) : z_W X M k n pc lv (.int x :: st) :=
  fun H locs ls h1 h2 h3 h4 => lv_if_lt C.1 C.2.1 d ht (fun q => kt q H locs ls h1 h2 h3 h4) (fun q => kf q H locs ls h1 h2 h3 h4)
theorem z_if_ge (C : z_C X cc own nL rm) {x : Int32} {off : Int} {tgt : Nat} (d : decode cc pc = .ok (.ifCond .ge off, 3)) (ht : (pc : Int) + off = (tgt : Int)) (kt : 0 ≤ x → z_W X M k n tgt lv st) (kf : ¬ 0 ≤ x → z_W X M k n (pc + 3) lv st) : z_W X M k n pc lv (.int x :: st) :=
  fun H locs ls h1 h2 h3 h4 => lv_if_ge C.1 C.2.1 d ht (fun q => kt q H locs ls h1 h2 h3 h4) (fun q => kf q H locs ls h1 h2 h3 h4)
theorem z_if_gt (C : z_C X cc own nL rm) {x : Int32} {off : Int} {tgt : Nat} (d : decode cc pc = .ok (.ifCond .gt off, 3)) (ht : (pc : Int) + off = (tgt : Int)) (kt : 0 < x → z_W X M k n tgt lv st) (kf : ¬ 0 < x → z_W X M k n (pc + 3) lv st) : z_W X M k n pc lv (.int x :: st) :=
  fun H locs ls h1 h2 h3 h4 => lv_if_gt C.1 C.2.1 d ht (fun q => kt q H locs ls h1 h2 h3 h4) (fun q => kf q H locs ls h1 h2 h3 h4)
theorem z_if_le (C : z_C X cc own nL rm) {x : Int32} {off : Int} {tgt : Nat} (d : decode cc pc = .ok (.ifCond .le off, 3)) (ht : (pc : Int) + off = (tgt : Int)) (kt : x ≤ 0 → z_W X M k n tgt lv st) (kf : ¬ x ≤ 0 → z_W X M k n (pc + 3) lv st) : z_W X M k n pc lv (.int x :: st) :=
  fun H locs ls h1 h2 h3 h4 => lv_if_le C.1 C.2.1 d ht (fun q => kt q H locs ls h1 h2 h3 h4) (fun q => kf q H locs ls h1 h2 h3 h4)
theorem z_icmp_eq (C : z_C X cc own nL rm) {x y : Int32} {off : Int} {tgt : Nat} (d : decode cc pc = .ok (.if_icmp .eq off, 3)) (ht : (pc : Int) + off = (tgt : Int)) (kt : x = y → z_W X M k n tgt lv st) (kf : ¬ x = y → z_W X M k n (pc + 3) lv st) : z_W X M k n pc lv (.int y :: .int x :: st) :=
  fun H locs ls h1 h2 h3 h4 => lv_icmp_eq C.1 C.2.1 d ht (fun q => kt q H locs ls h1 h2 h3 h4) (fun q => kf q H locs ls h1 h2 h3 h4)
theorem z_icmp_ne (C : z_C X cc own nL rm) {x y : Int32} {off : Int} {tgt : Nat} (d : decode cc pc = .ok (.if_icmp .ne off, 3)) (ht : (pc : Int) + off = (tgt : Int)) (kt : ¬ x = y → z_W X M k n tgt lv st) (kf : x = y → z_W X M k n (pc + 3) lv st) : z_W X M k n pc lv (.int y :: .int x :: st) :=
  fun H locs ls h1 h2 h3 h4 => lv_icmp_ne C.1 C.2.1 d ht (fun q => kt q H locs ls h1 h2 h3 h4) (fun q => kf q H locs ls h1 h2 h3 h4)
theorem z_icmp_lt (C : z_C X cc own nL rm) {x y : Int32} {off : Int} {tgt : Nat} (d : decode cc pc = .ok (.if_icmp .lt off, 3)) (ht : (pc : Int) + off = (tgt : Int)) (kt : x < y → z_W X M k n tgt lv st) (kf : ¬ x < y → z_W X M k n (pc + 3) lv st) : z_W X M k n pc lv (.int y :: .int x :: st) :=
  fun H locs ls h1 h2 h3 h4 => lv_icmp_lt C.1 C.2.1 d ht (fun q => kt q H locs ls h1 h2 h3 h4) (fun q => kf q H locs ls h1 h2 h3 h4)
theorem z_icmp_ge (C : z_C X cc own nL rm) {x y : Int32} {off : Int} {tgt : Nat} (d : decode cc pc = .ok (.if_icmp .ge off, 3)) (ht : (pc : Int) + off = (tgt : Int)) (kt : y ≤ x → z_W X M k n tgt lv st) (kf : ¬ y ≤ x → z_W X M k n (pc + 3) lv st) : z_W X M k n pc lv (.int y :: .int x :: st) :=
  fun H locs ls h1 h2 h3 h4 => lv_icmp_ge C.1 C.2.1 d ht (fun q => kt q H locs ls h1 h2 h3 h4) (fun q => kf q H locs ls h1 h2 h3 h4)
theorem z_icmp_gt (C : z_C X cc own nL rm) {x y : Int32} {off : Int} {tgt : Nat} (d : decode cc pc = .ok (.if_icmp .gt off, 3)) (ht : (pc : Int) + off = (tgt : Int)) (kt : y < x → z_W X M k n tgt lv st) (kf : ¬ y < x → z_W X M k n (pc + 3) lv st) : z_W X M k n pc lv (.int y :: .int x :: st) :=
  fun H locs ls h1 h2 h3 h4 => lv_icmp_gt C.1 C.2.1 d ht (fun q => kt q H locs ls h1 h2 h3 h4) (fun q => kf q H locs ls h1 h2 h3 h4)
theorem z_icmp_le (C : z_C X cc own nL rm) {x y : Int32} {off : Int} {tgt : Nat} (d : decode cc pc = .ok (.if_icmp .le off, 3)) (ht : (pc : Int) + off = (tgt : Int)) (kt : x ≤ y → z_W X M k n tgt lv st) (kf : ¬ x ≤ y → z_W X M k n (pc + 3) lv st) : z_W X M k n pc lv (.int y :: .int x :: st) :=
  fun H locs ls h1 h2 h3 h4 => lv_icmp_le C.1 C.2.1 d ht (fun q => kt q H locs ls h1 h2 h3 h4) (fun q => kf q H locs ls h1 h2 h3 h4)
theorem z_acmp_eq (C : z_C X cc own nL rm) {rx ry : Option Nat} {off : Int} {tgt : Nat} (d : decode cc pc = .ok (.if_acmp .eq off, 3)) (ht : (pc : Int) + off = (tgt : Int)) (kt : rx = ry → z_W X M k n tgt lv st) (kf : ¬ rx = ry → z_W X M k n (pc + 3) lv st) : z_W X M k n pc lv (va_rf ry :: va_rf rx :: st) :=
  fun H locs ls h1 h2 h3 h4 => lv_acmp_eq C.1 C.2.1 d ht (fun q => kt q H locs ls h1 h2 h3 h4) (fun q => kf q H locs ls h1 h2 h3 h4)
theorem z_acmp_ne (C : z_C X cc own nL rm) {rx ry : Option Nat} {off : Int} {tgt : Nat} (d : decode cc pc = .ok (.if_acmp .ne off, 3)) (ht : (pc : Int) + off = (tgt : Int)) (kt : ¬ rx = ry → z_W X M k n tgt lv st) (kf : rx = ry → z_W X M k n (pc + 3) lv st) : z_W X M k n pc lv (va_rf ry :: va_rf rx :: st) :=
  fun H locs ls h1 h2 h3 h4 => lv_acmp_ne C.1 C.2.1 d ht (fun q => kt q H locs ls h1 h2 h3 h4) (fun q => kf q H locs ls h1 h2 h3 h4)
theorem z_goto (C : z_C X cc own nL rm) {off : Int} {tgt : Nat} (d : decode cc pc = .ok (.goto off, 3)) (ht : (pc : Int) + off = (tgt : Int)) (kk : z_W X M k n tgt lv st) : z_W X M k n pc lv st :=
  fun H locs ls h1 h2 h3 h4 => lv_goto C.1 C.2.1 d ht (kk H locs ls h1 h2 h3 h4)
end ZR
section ZH
variable {X : zX} {cc : ByteArray} {own : String} {nL : Nat} {rm : Room} {M : zM} {k n pc : Nat} {lv : List (Nat × Value)} {st : List Value}
theorem z_ldc (C : z_C X cc own nL rm) {index : Nat} {v : Int32} (hw : Cond.constant own index v ∈ gw) (d : decode cc pc = .ok (.ldc index, 2)) (kk : z_W X M k n (pc + 2) lv (.int v :: st)) : z_W X M k n pc lv st :=
  fun H locs ls h1 h2 h3 h4 => lv_ldc C.1 C.2.1 C.2.2.2.1 (z_tow C hw) d (kk H locs ls h1 h2 h3 h4)
theorem z_ldc2 (C : z_C X cc own nL rm) {index : Nat} {v : Int64} (hw : Cond.constantLong own index v ∈ gw) (d : decode cc pc = .ok (.ldc2_w index, 3)) (kk : z_W X M k n (pc + 3) lv (.long v :: st)) : z_W X M k n pc lv st :=
  fun H locs ls h1 h2 h3 h4 => lv_ldc2 C.1 C.2.1 C.2.2.2.1 (z_tow C hw) d (kk H locs ls h1 h2 h3 h4)
theorem z_topi {x : Int32} (kk : ∀ y : Int32, y = x → z_W X M k n pc lv (.int y :: st)) : z_W X M k n pc lv (.int x :: st) := kk x rfl
theorem z_topl {x : Int64} (kk : ∀ y : Int64, y = x → z_W X M k n pc lv (.long y :: st)) : z_W X M k n pc lv (.long x :: st) := kk x rfl
theorem z_at {M' : zM} {lv' : List (Nat × Value)} {st' : List Value} (h1 : M' = M) (h2 : lv' = lv) (h3 : st' = st) (kk : z_W X M' k n pc lv' st') : z_W X M k n pc lv st := by subst h1; subst h2; subst h3; exact kk
theorem z_fewer {lv' : List (Nat × Value)} (ks : List Nat) (hl : lv_pick lv ks = lv') (kk : z_W X M k n pc lv' st) : z_W X M k n pc lv st := fun H locs ls h1 h2 h3 h4 => kk H locs ls h1 h2 h3 (lv_sub h4 ks hl)
theorem z_widen {k' n' : Nat} (h1 : k ≤ k') (h2 : n ≤ n') (kk : z_W X M k' n' pc lv st) : z_W X M k n pc lv st := fun H locs ls g1 g2 g3 g4 => W.widen h1 h2 (kk H locs ls g1 g2 g3 g4)
theorem z_get (C : z_C X cc own nL rm) {C' : String} {T : u_T} {N ci index a : Nat} {fs : List Value} {v : Value} (hc : vwCl[ci]? = some (C', T, N)) (hin : ∀ w ∈ u_ws C' T N, w ∈ gw) (j : Nat) (hj : j < N) (hw : Cond.fieldLink own index (T j).1 (T j).2.1 (T j).2.2.1 ∈ gw) (hM : M a = some (.inr (ci, fs))) (hv : fs[j]? = some v) (d : decode cc pc = .ok (.getfield index, 3))
    (kk : z_W X M k n (pc + 3) lv (v :: st)) : z_W X M k n pc lv (.ref a :: st) :=
  fun H locs ls h1 h2 h3 h4 => va_get (D := (z_G X).1) (cl := vwCl) C.1 C.2.1 C.2.2.2.2.1 hin C.2.2.2.1 C.2.2.2.2.2.1 (z_one h1 hM) 0 rfl hc j hj (z_tow C hw) (fun _ h => h) hv d (kk H locs ls h1 h2 h3 h4)
theorem z_getN (C : z_C X cc own nL rm) {C' host : String} {T : u_T} {N ci index a : Nat} {fs : List Value} {v : Value} (hc : vwCl[ci]? = some (C', T, N)) (hin : ∀ w ∈ u_ws C' T N, w ∈ gw) (j : Nat) (hj : j < N) (hw : Cond.fieldLinkNest own index (T j).1 (T j).2.1 (T j).2.2.1 host ∈ gw) (hM : M a = some (.inr (ci, fs))) (hv : fs[j]? = some v) (d : decode cc pc = .ok (.getfield index, 3))
    (kk : z_W X M k n (pc + 3) lv (v :: st)) : z_W X M k n pc lv (.ref a :: st) :=
  fun H locs ls h1 h2 h3 h4 => va_getN (D := (z_G X).1) (cl := vwCl) C.1 C.2.1 C.2.2.2.2.1 hin C.2.2.2.1 C.2.2.2.2.2.1 (z_one h1 hM) 0 rfl hc j hj (z_tow C hw) (fun _ h => h) hv d (kk H locs ls h1 h2 h3 h4)
/-- a field's cell, written: what the heap's row gives is what the world's row wants -/
theorem z_put (C : z_C X cc own nL rm) {C' : String} {T : u_T} {N ci index a : Nat} {fs : List Value} {ty : FieldType} {v : Value} (hc : vwCl[ci]? = some (C', T, N)) (hin : ∀ w ∈ u_ws C' T N, w ∈ gw) (ty0 : Nat → FieldType) (hty : ∀ k, k < N → parseFieldDescriptor (T k).2.2.1 = some (ty0 k)) (hnm : ∀ a, a < N → ∀ b, b < N → a ≠ b → (T a).2.1 ≠ (T b).2.1) (j : Nat) (hj : j < N) (hw : Cond.fieldLink own index (T j).1 (T j).2.1 (T j).2.2.1 ∈ gw) (hfin : (T j).2.2.2 = false) (hd : parseFieldDescriptor (T j).2.2.1 = some ty) (hM : M a = some (.inr (ci, fs))) (hl : j < fs.length) (hn : narrow ty v = v) (hfit : fits ty v = true) (d : decode cc pc = .ok (.putfield index, 3))
    (kk : z_W X (z_up M a (.inr (ci, fs.set j v))) k n (pc + 3) lv st) : z_W X M k n pc lv (v :: .ref a :: st) := by
  intro H locs ls h1 h2 h3 h4
  have hap := va_apart (own := own) C.2.2.2.2.1 hin ty0 hty hnm C.2.2.2.2.2.1 hc
  obtain ⟨r, g1, cell, q1, q2, q3, q4⟩ := h1 a _ hM
  have hr : r = (C', T, N) := Option.some.inj (g1.symm.trans hc)
  subst hr
  obtain ⟨hS, hfc, kC, hkC, hkind⟩ := C.2.2.2.2.2.1.1 ci _ hc
  obtain ⟨cf, kf, fi, f, hi, hsl⟩ := hS j hj
  have hlay := C.2.2.2.2.1 _ (hin _ (u_in_lay hj))
  unfold u_lay at hlay
  rw [if_neg (by rw [hfin]; decide)] at hlay
  have hst := (u_facts hfc hkC (u_lays C.2.2.2.2.1 hin hj) hi).1
  have h6 := u_store hfc hkC hkind hlay hi hd hn hfit
  refine W.putK C.1 C.2.1 (f := f) ⟨C.2.2.2.1, z_tow C hw, ⟨_, _, _, hi⟩, hst⟩ (by rw [q2]; exact h6) q1 q3 (by rw [hsl]; exact k2_hasslot (q4 j hj)) rfl rfl d fun H' e1 e2 e3 => ?_
  rw [hsl] at e1 ⊢
  exact kk H' _ ls (z_h_up h1 ⟨_, hc, t_OB.to (V := updV (vp_V fs) j v) ⟨_, e1, q2, q3, t_set q4 hap hj v⟩ (fun i _ => vp_updV_set hl v i)⟩ e3) (z_in_up h2 (h2 a _ hM)) (h3.put e2 e3 (h2 a _ hM)) h4
theorem z_putF (C : z_C X cc own nL rm) {C' : String} {T : u_T} {N ci index a : Nat} {fs : List Value} {ty : FieldType} {v : Value} (hini : (z_me X).name = "<init>") (hc : vwCl[ci]? = some (C', T, N)) (hin : ∀ w ∈ u_ws C' T N, w ∈ gw) (ty0 : Nat → FieldType) (hty : ∀ k, k < N → parseFieldDescriptor (T k).2.2.1 = some (ty0 k)) (hnm : ∀ a, a < N → ∀ b, b < N → a ≠ b → (T a).2.1 ≠ (T b).2.1) (j : Nat) (hj : j < N) (hw : Cond.fieldLink own index (T j).1 (T j).2.1 (T j).2.2.1 ∈ gw) (hfin : (T j).2.2.2 = true) (hdecl : (T j).1 = own) (hd : parseFieldDescriptor (T j).2.2.1 = some ty) (hM : M a = some (.inr (ci, fs))) (hl : j < fs.length) (hn : narrow ty v = v) (hfit : fits ty v = true) (d : decode cc pc = .ok (.putfield index, 3))
    (kk : z_W X (z_up M a (.inr (ci, fs.set j v))) k n (pc + 3) lv st) : z_W X M k n pc lv (v :: .ref a :: st) := by
  intro H locs ls h1 h2 h3 h4
  have hap := va_apart (own := own) C.2.2.2.2.1 hin ty0 hty hnm C.2.2.2.2.2.1 hc
  obtain ⟨r, g1, cell, q1, q2, q3, q4⟩ := h1 a _ hM
  have hr : r = (C', T, N) := Option.some.inj (g1.symm.trans hc)
  subst hr
  obtain ⟨hS, hfc, kC, hkC, hkind⟩ := C.2.2.2.2.2.1.1 ci _ hc
  obtain ⟨cf, kf, fi, f, hi, hsl⟩ := hS j hj
  have hlay := C.2.2.2.2.1 _ (hin _ (u_in_lay hj))
  unfold u_lay at hlay
  rw [if_pos hfin] at hlay
  have hst := (u_facts hfc hkC (u_lays C.2.2.2.2.1 hin hj) hi).1
  have hcf : (z_m X).cls = cf := by
    obtain ⟨_, _, c', _, _, _, -, -, hf', -, -, -, hown2, -⟩ := Cond.laysFinal_spec hlay
    have e1 : c' = cf := by have := hi.symm.trans hf'; simp at this; exact this.1.symm
    rw [hdecl] at hown2
    rw [← e1]; exact Option.some.inj (C.2.2.2.1.symm.trans hown2)
  have h6 := u_fits hfc hkC hkind (Or.inr hlay) hi hd hn hfit
  refine W.putFinK C.1 C.2.1 C.2.2.2.1 (z_tow C hw) hi hst hcf hini (by rw [q2]; exact h6) q1 q3 (by rw [hsl]; exact k2_hasslot (q4 j hj)) rfl rfl d fun H' e1 e2 e3 => ?_
  rw [hsl] at e1 ⊢
  exact kk H' _ ls (z_h_up h1 ⟨_, hc, t_OB.to (V := updV (vp_V fs) j v) ⟨_, e1, q2, q3, t_set q4 hap hj v⟩ (fun i _ => vp_updV_set hl v i)⟩ e3) (z_in_up h2 (h2 a _ hM)) (h3.put e2 e3 (h2 a _ hM)) h4
theorem z_iald (C : z_C X cc own nL rm) {a N : Nat} {f : Nat → Int32} {i : Int32} (hM : M a = some (.inl ((z_G X).2.2.1, N, .inl f))) (hin : vp_in i N) (d : decode cc pc = .ok (.iaload, 1)) (kk : z_W X M k n (pc + 1) lv (.int (f i.toNatClampNeg) :: st)) : z_W X M k n pc lv (.int i :: .ref a :: st) :=
  fun H locs ls h1 h2 h3 h4 => va_iald C.1 C.2.1 C.2.2.2.2.2.1 (z_one h1 hM) 0 1 rfl rfl hin d (kk H locs ls h1 h2 h3 h4)
theorem z_bald (C : z_C X cc own nL rm) {a N : Nat} {f : Nat → Int32} {i : Int32} (hM : M a = some (.inl ((z_G X).2.1, N, .inl f))) (hin : vp_in i N) (d : decode cc pc = .ok (.baload, 1)) (kk : z_W X M k n (pc + 1) lv (.int (f i.toNatClampNeg) :: st)) : z_W X M k n pc lv (.int i :: .ref a :: st) :=
  fun H locs ls h1 h2 h3 h4 => va_bald C.1 C.2.1 C.2.2.2.2.2.1 (z_one h1 hM) 0 0 rfl rfl hin d (kk H locs ls h1 h2 h3 h4)
theorem z_aaldP (C : z_C X cc own nL rm) {a N : Nat} {f : Nat → Option Nat} {i : Int32} (hM : M a = some (.inl ((z_G X).2.2.2.1, N, .inr (.inr (.inr (.inr f)))))) (hin : vp_in i N) (d : decode cc pc = .ok (.aaload, 1)) (kk : z_W X M k n (pc + 1) lv (va_rf (f i.toNatClampNeg) :: st)) : z_W X M k n pc lv (.int i :: .ref a :: st) :=
  fun H locs ls h1 h2 h3 h4 => va_aldq C.1 C.2.1 C.2.2.2.2.2.1 (z_one h1 hM) 0 2 rfl rfl hin d (kk H locs ls h1 h2 h3 h4)
theorem z_aaldI (C : z_C X cc own nL rm) {a N : Nat} {f : Nat → Option Nat} {i : Int32} (hM : M a = some (.inl ((z_G X).2.2.2.2, N, .inr (.inr (.inr (.inr f)))))) (hin : vp_in i N) (d : decode cc pc = .ok (.aaload, 1)) (kk : z_W X M k n (pc + 1) lv (va_rf (f i.toNatClampNeg) :: st)) : z_W X M k n pc lv (.int i :: .ref a :: st) := by
  intro H locs ls h1 h2 h3 h4
  have hlt : i.toNatClampNeg < N := Nat.not_le.mp fun q => hin (Or.inr q)
  exact W.aald (v := va_rf (f i.toNatClampNeg)) (ty := .array .int) C.1 C.2.1 (h1 a _ hM) ((C.2.2.2.2.2.1.2 3 _ rfl).1 N (fun j => va_rf (f j))) rfl (fun q => by cases q) (by show ¬ (i < 0 ∨ (arrV _ _ _).slots.size ≤ _); rw [arrV_size]; exact hin) (by show (arrV _ _ _).slots[_]? = _; rw [arrV_read _ _ hlt]) rfl rfl d (kk H locs ls h1 h2 h3 h4)
theorem z_alenI (C : z_C X cc own nL rm) {a N : Nat} {f : Nat → Int32} {v : Int32} (hM : M a = some (.inl ((z_G X).2.2.1, N, .inl f))) (hv : Int32.ofNat N = v) (d : decode cc pc = .ok (.arraylength, 1)) (kk : z_W X M k n (pc + 1) lv (.int v :: st)) : z_W X M k n pc lv (.ref a :: st) :=
  fun H locs ls h1 h2 h3 h4 => va_alen C.1 C.2.1 C.2.2.2.2.2.1 (z_one h1 hM) 0 1 rfl rfl hv d (kk H locs ls h1 h2 h3 h4)
theorem z_alenB (C : z_C X cc own nL rm) {a N : Nat} {f : Nat → Int32} {v : Int32} (hM : M a = some (.inl ((z_G X).2.1, N, .inl f))) (hv : Int32.ofNat N = v) (d : decode cc pc = .ok (.arraylength, 1)) (kk : z_W X M k n (pc + 1) lv (.int v :: st)) : z_W X M k n pc lv (.ref a :: st) :=
  fun H locs ls h1 h2 h3 h4 => va_alen C.1 C.2.1 C.2.2.2.2.2.1 (z_one h1 hM) 0 0 rfl rfl hv d (kk H locs ls h1 h2 h3 h4)
theorem z_alenP (C : z_C X cc own nL rm) {a N : Nat} {f : Nat → Option Nat} {v : Int32} (hM : M a = some (.inl ((z_G X).2.2.2.1, N, .inr (.inr (.inr (.inr f)))))) (hv : Int32.ofNat N = v) (d : decode cc pc = .ok (.arraylength, 1)) (kk : z_W X M k n (pc + 1) lv (.int v :: st)) : z_W X M k n pc lv (.ref a :: st) :=
  fun H locs ls h1 h2 h3 h4 => va_alen C.1 C.2.1 C.2.2.2.2.2.1 (z_one h1 hM) 0 2 rfl rfl hv d (kk H locs ls h1 h2 h3 h4)
theorem z_alenII (C : z_C X cc own nL rm) {a N : Nat} {f : Nat → Option Nat} {v : Int32} (hM : M a = some (.inl ((z_G X).2.2.2.2, N, .inr (.inr (.inr (.inr f)))))) (hv : Int32.ofNat N = v) (d : decode cc pc = .ok (.arraylength, 1)) (kk : z_W X M k n (pc + 1) lv (.int v :: st)) : z_W X M k n pc lv (.ref a :: st) :=
  fun H locs ls h1 h2 h3 h4 => va_alen C.1 C.2.1 C.2.2.2.2.2.1 (z_one h1 hM) 0 3 rfl rfl hv d (kk H locs ls h1 h2 h3 h4)
theorem z_iast (C : z_C X cc own nL rm) {a N : Nat} {f : Nat → Int32} {i x : Int32} (hM : M a = some (.inl ((z_G X).2.2.1, N, .inl f))) (hin : vp_in i N) (d : decode cc pc = .ok (.iastore, 1)) (kk : z_W X (z_up M a (.inl ((z_G X).2.2.1, N, .inl (upd f i.toNatClampNeg x)))) k n (pc + 1) lv st) : z_W X M k n pc lv (.int x :: .int i :: .ref a :: st) := by
  intro H locs ls h1 h2 h3 h4
  refine W.iast C.1 C.2.1 (h1 a _ hM) ((C.2.2.2.2.2.1.2 1 _ rfl).1 N (fun j => .int (f j))) (fun q => by cases q) (by show ¬ (i < 0 ∨ (arrV _ _ _).slots.size ≤ _); rw [arrV_size]; exact hin) rfl rfl d fun H1 e z oq => ?_
  refine kk H1 _ ls (z_h_up h1 ?_ oq) (z_in_up h2 (h2 a _ hM)) (h3.put z oq (h2 a _ hM)) h4
  show H1[a]? = some (vp_cell _ _)
  rw [e]
  rw [vp_cell_i, vp_cell_i, arrV_store]
  congr 2
  funext q
  by_cases hq : q = i.toNatClampNeg
  · subst hq
    simp [updV, upd]
  · simp [updV, upd, hq]
theorem z_bast (C : z_C X cc own nL rm) {a N : Nat} {f : Nat → Int32} {i x : Int32} (hM : M a = some (.inl ((z_G X).2.1, N, .inl f))) (hin : vp_in i N) (d : decode cc pc = .ok (.bastore, 1)) (kk : z_W X (z_up M a (.inl ((z_G X).2.1, N, .inl (upd f i.toNatClampNeg (vp_nar .byte x))))) k n (pc + 1) lv st) : z_W X M k n pc lv (.int x :: .int i :: .ref a :: st) := by
  intro H locs ls h1 h2 h3 h4
  refine W.bast C.1 C.2.1 (h1 a _ hM) ((C.2.2.2.2.2.1.2 0 _ rfl).1 N (fun j => .int (f j))) (fun q => by cases q) (by show ¬ (i < 0 ∨ (arrV _ _ _).slots.size ≤ _); rw [arrV_size]; exact hin) rfl rfl d fun H1 e z oq => ?_
  refine kk H1 _ ls (z_h_up h1 ?_ oq) (z_in_up h2 (h2 a _ hM)) (h3.put z oq (h2 a _ hM)) h4
  show H1[a]? = some (vp_cell _ _)
  rw [e]
  rw [vp_cell_i, vp_cell_i, arrV_store]
  congr 2
  funext q
  by_cases hq : q = i.toNatClampNeg
  · subst hq
    simp [updV, upd, vp_nar]
    try rfl
  · simp [updV, upd, hq]
/-- a new object -/
theorem z_new (C : z_C X cc own nL rm) {C' : String} {T : u_T} {N ci index : Nat} {fs : List Value} (hc : vwCl[ci]? = some (C', T, N)) (hin : ∀ w ∈ u_ws C' T N, w ∈ gw) (ty : Nat → FieldType) (hty : ∀ k, k < N → parseFieldDescriptor (T k).2.2.1 = some (ty k)) (hcl : Cond.classLink own index C' ∈ gw) (hinst : Cond.instantiable C' N ∈ gw) (hini : Cond.initialized C' ∈ gw) (hfs : ∀ j, j < N → defaultValue (ty j) = vp_V fs j) (hk : k + 1 ≤ rm.cells) (hn : n + N ≤ rm.slots) (d : decode cc pc = .ok (.new index, 3))
    (kk : ∀ q : Nat, M q = none → z_W X (z_up M q (.inr (ci, fs))) (k + 1) (n + N) (pc + 3) lv (.ref q :: st)) : z_W X M k n pc lv st := by
  intro H locs ls h1 h2 h3 h4
  have hKn := C.2.2.2.2.2.1.1 ci _ hc
  refine W.newcK C.1 C.2.1 C.2.2.2.1 (z_tow C hcl) (z_tow C hinst) (z_tow C hini) rfl d (by rw [C.2.2.2.2.2.2.2.2]; exact hk) (by rw [C.2.2.2.2.2.2.2.2]; exact hn) hKn.2.1 rfl fun H1 kC hkC e1 z1 o1 => ?_
  exact kk H.size (z_h_no h1 (Nat.le_refl _)) H1 locs ls (z_h_new h1 rfl ⟨_, hc, (u_born ty C.2.2.2.2.1 hin hKn hkC e1 hty).to hfs⟩ o1) (z_in_up h2 (C.2.2.2.2.2.2.2.1 _ h3.1)) ⟨Nat.le_trans h3.1 (by omega), fun x g1 g2 => (o1 x (Nat.lt_of_lt_of_le g1 h3.1)).trans (h3.2.1 x g1 g2), h3.2.2⟩ h4
/-- a new row of ints -/
theorem z_newI (C : z_C X cc own nL rm) {i : Int32} {N : Nat} (hw : Cond.arrayClass .int ∈ gw) (h0 : ¬ i < 0) (hN : i.toNatClampNeg = N) (hb : N * 4 ≤ 536870912) (hk : k + 1 ≤ rm.cells) (hn : n + N ≤ rm.slots) (d : decode cc pc = .ok (.newarray .int, 2))
    (kk : ∀ q : Nat, M q = none → z_W X (z_up M q (.inl ((z_G X).2.2.1, N, .inl (fun _ => 0)))) (k + 1) (n + N) (pc + 2) lv (.ref q :: st)) : z_W X M k n pc lv (.int i :: st) := by
  intro H locs ls h1 h2 h3 h4
  refine va_newaK C.1 C.2.1 (atype := .int) (z_tow C hw) rfl d rfl h0 hN hb (by rw [C.2.2.2.2.2.2.2.2]; exact hk) (by rw [C.2.2.2.2.2.2.2.2]; exact hn) rfl fun H1 cA e1 z1 o1 hAr hNm => ?_
  have e : cA = (z_G X).2.2.1 := Option.some.inj (hNm.symm.trans (C.2.2.2.2.2.1.2 1 _ rfl).2)
  subst e
  refine kk H.size (z_h_no h1 (Nat.le_refl _)) H1 locs ls (z_h_new h1 rfl ?_ o1) (z_in_up h2 (C.2.2.2.2.2.2.2.1 _ h3.1)) ⟨Nat.le_trans h3.1 (by omega), fun x g1 g2 => (o1 x (Nat.lt_of_lt_of_le g1 h3.1)).trans (h3.2.1 x g1 g2), h3.2.2⟩ h4
  show H1[H.size]? = some (vp_cell _ _)
  rw [vp_cell_i]
  exact e1
theorem z_newB (C : z_C X cc own nL rm) {i : Int32} {N : Nat} (hw : Cond.arrayClass .byte ∈ gw) (h0 : ¬ i < 0) (hN : i.toNatClampNeg = N) (hb : N * 1 ≤ 536870912) (hk : k + 1 ≤ rm.cells) (hn : n + N ≤ rm.slots) (d : decode cc pc = .ok (.newarray .byte, 2))
    (kk : ∀ q : Nat, M q = none → z_W X (z_up M q (.inl ((z_G X).2.1, N, .inl (fun _ => 0)))) (k + 1) (n + N) (pc + 2) lv (.ref q :: st)) : z_W X M k n pc lv (.int i :: st) := by
  intro H locs ls h1 h2 h3 h4
  refine va_newaK C.1 C.2.1 (atype := .byte) (z_tow C hw) rfl d rfl h0 hN hb (by rw [C.2.2.2.2.2.2.2.2]; exact hk) (by rw [C.2.2.2.2.2.2.2.2]; exact hn) rfl fun H1 cA e1 z1 o1 hAr hNm => ?_
  have e : cA = (z_G X).2.1 := Option.some.inj (hNm.symm.trans (C.2.2.2.2.2.1.2 0 _ rfl).2)
  subst e
  refine kk H.size (z_h_no h1 (Nat.le_refl _)) H1 locs ls (z_h_new h1 rfl ?_ o1) (z_in_up h2 (C.2.2.2.2.2.2.2.1 _ h3.1)) ⟨Nat.le_trans h3.1 (by omega), fun x g1 g2 => (o1 x (Nat.lt_of_lt_of_le g1 h3.1)).trans (h3.2.1 x g1 g2), h3.2.2⟩ h4
  show H1[H.size]? = some (vp_cell _ _)
  rw [vp_cell_i]
  exact e1
end ZH
/-! the ends and the entries of a method -/
section ZE
variable {l : Launch} {G : zG} {q : zY} {rm : Room} {av : List Value} {M : zM}
/-- a method's surroundings, at its entry -/
theorem z_Mi_of {ty : FieldType} (post : Int32 → zM → Prop) (hy : plainName q.1.cls = true) (hr : q.2.2.2 = some ty) (hargs : (lg_sl av).length ≤ q.2.2.1)
    (body : ∀ X : zX, z_l X = l → z_G X = G → (z_me X).name = q.1.name → z_C X q.2.1 q.1.cls q.2.2.1 rm → (∀ {M' : zM} {r : Int32} {k n pc : Nat} {lv : List (Nat × Value)}, decode q.2.1 pc = .ok (.ireturn, 1) → narrow ty (.int r) = .int r → post r M' → k ≤ rm.cells → n ≤ rm.slots → z_W X M' k n pc lv [.int r]) → z_W X M 0 0 0 (lv_args 0 av) []) : z_Mi l G q rm av M post := by
  intro sz
  refine Met.ofW (cc := q.2.1) (maxL := q.2.2.1) (ret := q.2.2.2) hy rfl ?_
  intro p e s m args below meth c s₁ B hml hv
  obtain ⟨rfl, hsz, hh, hK, hJ⟩ := hv
  subst hsz
  have hl := lv_entry av (n := q.2.2.1) hargs
  rw [lg_entry_eq]
  have hts : ∀ w ∈ gw, w.before av.toArray s = true := fun w h => atoms_spec (ws := z_ws q) B.pre w (List.mem_cons_of_mem _ h)
  exact body (p, l, e, rm, s, m, av.toArray, below, meth, c, MQ below (va_Qi post (z_E G M s.heap.size) (z_A M s.heap.size)) av.toArray s rm.cells rm.slots (z_A M s.heap.size), z_A M s.heap.size, G) rfl rfl (name_of_methodNamed B.named B.method).1
    ⟨B.exec, B.bytes, hml, findClass_of_methodNamed B.named, hts, hK, hJ, fun q h => Or.inr h, rfl⟩
    (fun d hn hp hk hs H locs ls h1 h2 h3 h4 => W.widen hk hs (W.zret B.exec B.bytes (B.returns.trans hr) hn (fun t ht hW => ⟨⟨_, _, rfl, hp, by rw [ht]; exact h1, h2⟩, h3.F ht⟩) h3.2.2 d B.notSynchronized))
    s.heap [] _ hh (fun a e h => Or.inl ⟨e, h⟩) va_S.rf (by rw [show (z_c (p, l, e, rm, s, m, av.toArray, below, meth, c, _, _, G)).maxLocals = q.2.2.1 from hml]; exact hl)
theorem z_Mv_of (post : zM → Prop) (hy : plainName q.1.cls = true) (hr : q.2.2.2 = none) (hargs : (lg_sl av).length ≤ q.2.2.1)
    (body : ∀ X : zX, z_l X = l → z_G X = G → (z_me X).name = q.1.name → z_C X q.2.1 q.1.cls q.2.2.1 rm → (∀ {M' : zM} {k n pc : Nat} {lv : List (Nat × Value)}, decode q.2.1 pc = .ok (.return_, 1) → post M' → k ≤ rm.cells → n ≤ rm.slots → z_W X M' k n pc lv []) → z_W X M 0 0 0 (lv_args 0 av) []) : z_Mv l G q rm av M post := by
  intro sz
  refine Met.ofW (cc := q.2.1) (maxL := q.2.2.1) (ret := q.2.2.2) hy rfl ?_
  intro p e s m args below meth c s₁ B hml hv
  obtain ⟨rfl, hsz, hh, hK, hJ⟩ := hv
  subst hsz
  have hl := lv_entry av (n := q.2.2.1) hargs
  rw [lg_entry_eq]
  have hts : ∀ w ∈ gw, w.before av.toArray s = true := fun w h => atoms_spec (ws := z_ws q) B.pre w (List.mem_cons_of_mem _ h)
  exact body (p, l, e, rm, s, m, av.toArray, below, meth, c, MQ below (va_Qv post (z_E G M s.heap.size) (z_A M s.heap.size)) av.toArray s rm.cells rm.slots (z_A M s.heap.size), z_A M s.heap.size, G) rfl rfl (name_of_methodNamed B.named B.method).1
    ⟨B.exec, B.bytes, hml, findClass_of_methodNamed B.named, hts, hK, hJ, fun q h => Or.inr h, rfl⟩
    (fun d hp hk hs H locs ls h1 h2 h3 h4 => W.widen hk hs (W.vret B.exec B.bytes (B.returns.trans hr) (fun t ht hW => ⟨⟨_, rfl, hp, by rw [ht]; exact h1, h2⟩, h3.F ht⟩) h3.2.2 d B.notSynchronized))
    s.heap [] _ hh (fun a e h => Or.inl ⟨e, h⟩) va_S.rf (by rw [show (z_c (p, l, e, rm, s, m, av.toArray, below, meth, c, _, _, G)).maxLocals = q.2.2.1 from hml]; exact hl)
theorem z_Mr_of {ty : FieldType} (post : Nat → zM → Prop) (hy : plainName q.1.cls = true) (hr : q.2.2.2 = some ty) (hty : (∃ n, ty = .object n) ∨ ∃ t, ty = .array t) (hargs : (lg_sl av).length ≤ q.2.2.1)
    (body : ∀ X : zX, z_l X = l → z_G X = G → (z_me X).name = q.1.name → z_C X q.2.1 q.1.cls q.2.2.1 rm → (∀ {M' : zM} {a k n pc : Nat} {lv : List (Nat × Value)}, decode q.2.1 pc = .ok (.areturn, 1) → post a M' → k ≤ rm.cells → n ≤ rm.slots → z_W X M' k n pc lv [.ref a]) → z_W X M 0 0 0 (lv_args 0 av) []) : z_Mr l G q rm av M post := by
  intro sz
  refine Met.ofW (cc := q.2.1) (maxL := q.2.2.1) (ret := q.2.2.2) hy rfl ?_
  intro p e s m args below meth c s₁ B hml hv
  obtain ⟨rfl, hsz, hh, hK, hJ⟩ := hv
  subst hsz
  have hl := lv_entry av (n := q.2.2.1) hargs
  rw [lg_entry_eq]
  have hts : ∀ w ∈ gw, w.before av.toArray s = true := fun w h => atoms_spec (ws := z_ws q) B.pre w (List.mem_cons_of_mem _ h)
  exact body (p, l, e, rm, s, m, av.toArray, below, meth, c, MQ below (va_Qr (fun u : Nat × zM => post u.1 u.2) (fun u a t => a = u.1 ∧ z_E G M s.heap.size u.2 t) (z_A M s.heap.size)) av.toArray s rm.cells rm.slots (z_A M s.heap.size), z_A M s.heap.size, G) rfl rfl (name_of_methodNamed B.named B.method).1
    ⟨B.exec, B.bytes, hml, findClass_of_methodNamed B.named, hts, hK, hJ, fun q h => Or.inr h, rfl⟩
    (fun {M' a k n pc lv} d hp hk hs H locs ls h1 h2 h3 h4 => W.widen hk hs (W.aret B.exec B.bytes (B.returns.trans hr) hty (Or.inr ⟨a, rfl⟩) (fun t ht hW => ⟨⟨(a, M'), a, rfl, hp, rfl, by rw [ht]; exact h1, h2⟩, h3.F ht⟩) h3.2.2 d B.notSynchronized))
    s.heap [] _ hh (fun a e h => Or.inl ⟨e, h⟩) va_S.rf (by rw [show (z_c (p, l, e, rm, s, m, av.toArray, below, meth, c, _, _, G)).maxLocals = q.2.2.1 from hml]; exact hl)
end ZE
/-! the calls -/
section ZK
variable {X : zX} {cc : ByteArray} {own : String} {nL : Nat} {rm : Room} {M : zM} {k n pc : Nat} {lv : List (Nat × Value)} {st rest : List Value} {q : zY} {rmc : Room} {index b ci N : Nat} {fs : List Value} {r : vw_C} {As : List Value}
theorem z_cwV (C : z_C X cc own nL rm) (hq : Cond.code q.1 q.2.1 q.2.2.1 q.2.2.2 ∈ gw) (hl : Cond.methodLink own index q.1 ∈ gw) (hi : Cond.instanceMethod q.1 ∈ gw) (hs : Cond.selects q.1.cls q.1 q.1 ∈ gw) (hc : Cond.initialized q.1.cls ∈ gw) (hd : q.1.cls ≠ "java/lang/invoke/MethodHandle" ∧ q.1.cls ≠ "java/lang/invoke/VarHandle" ∧ (parseMethodDescriptor q.1.desc).map (fun d => d.parameters.length) = some N) (hR : rmc.frames + 1 ≤ rm.frames ∧ 8 + (q.2.2.1 + 11) + rmc.locals ≤ rm.locals) :
    CallW (z_R X) (z_s X) (z_a X) own q.1.cls index q.1 q.2.1 q.2.2.1 q.2.2.2 (z_ws q) rmc rmc.cells rmc.slots N :=
  cwV N C.2.2.2.2.1 (fun w h => by
    rcases List.mem_append.mp h with h | h
    · have : w ∈ gw := by
        rcases List.mem_cons.mp h with rfl | h
        · exact hl
        rcases List.mem_cons.mp h with rfl | h
        · exact hi
        rcases List.mem_cons.mp h with rfl | h
        · exact hs
        rcases List.mem_cons.mp h with rfl | h
        · exact hc
        exact absurd h List.not_mem_nil
      exact ⟨this, gw_good _ this⟩
    · exact z_good hq w h) rfl rfl rfl ⟨rfl, hd⟩ (by rw [C.2.2.2.2.2.2.2.2]; exact hR)
theorem z_cwS (C : z_C X cc own nL rm) (hq : Cond.code q.1 q.2.1 q.2.2.1 q.2.2.2 ∈ gw) (hl : Cond.methodLink own index q.1 ∈ gw) (hs : Cond.static q.1 ∈ gw) (hc : Cond.initialized q.1.cls ∈ gw) (hd : q.1.cls ≠ "java/lang/invoke/MethodHandle" ∧ q.1.cls ≠ "java/lang/invoke/VarHandle" ∧ (parseMethodDescriptor q.1.desc).map (fun d => d.parameters.length) = some N) (hR : rmc.frames + 1 ≤ rm.frames ∧ 8 + (q.2.2.1 + 11) + rmc.locals ≤ rm.locals) :
    CallB (z_R X) (z_s X) (z_a X) own index q.1 q.2.1 q.2.2.1 q.2.2.2 (z_ws q) rmc rmc.cells rmc.slots N ∧ (Cond.static q.1).before (z_a X) (z_s X) = true :=
  ⟨callB_of N C.2.2.2.2.1 (z_good hq) rfl rfl rfl (z_tow C hc) (z_tow C hl) hd (by rw [C.2.2.2.2.2.2.2.2]; exact hR), z_tow C hs⟩
theorem z_cwI (C : z_C X cc own nL rm) (hq : Cond.code q.1 q.2.1 q.2.2.1 q.2.2.2 ∈ gw) (hr : q.2.2.2 = none) (hl : Cond.methodLink own index q.1 ∈ gw) (hi : Cond.instanceMethod q.1 ∈ gw) (hc : Cond.initialized q.1.cls ∈ gw) (hn : q.1.name = "<init>") (hd : q.1.cls ≠ "java/lang/invoke/MethodHandle" ∧ q.1.cls ≠ "java/lang/invoke/VarHandle" ∧ (parseMethodDescriptor q.1.desc).map (fun d => d.parameters.length) = some N) (hR : rmc.frames + 1 ≤ rm.frames ∧ 8 + (q.2.2.1 + 11) + rmc.locals ≤ rm.locals) :
    CallB (z_R X) (z_s X) (z_a X) own index q.1 q.2.1 q.2.2.1 none (z_ws q) rmc rmc.cells rmc.slots N ∧ q.1.name = "<init>" ∧ (Cond.instanceMethod q.1).before (z_a X) (z_s X) = true :=
  ⟨by have h := callB_of (R := z_R X) (rm := rmc) (bytes := q.2.1) (maxL := q.2.2.1) (ret := q.2.2.2) (index := index) (own := own) N C.2.2.2.2.1 (z_good hq) rfl rfl rfl (z_tow C hc) (z_tow C hl) hd (by rw [C.2.2.2.2.2.2.2.2]; exact hR); rw [hr] at h; exact h, hn, z_tow C hi⟩
theorem z_callVi {post : Int32 → zM → Prop} (C : z_C X cc own nL rm) (hM : z_Mi (z_l X) (z_G X) q rmc (.ref b :: As) M post) (cw : CallW (z_R X) (z_s X) (z_a X) own q.1.cls index q.1 q.2.1 q.2.2.1 q.2.2.2 (z_ws q) rmc rmc.cells rmc.slots N) (hb : M b = some (.inr (ci, fs))) (hc : vwCl[ci]? = some r) (hr : r.1 = q.1.cls) (hN : As.length = N) (hst : st = As.reverse ++ .ref b :: rest) (hcat : (rest.map fun v => v.category).sum ≤ 8) (hk : k + rmc.cells ≤ rm.cells) (hn : n + rmc.slots ≤ rm.slots) (d : decode cc pc = .ok (.invokevirtual index, 3))
    (kk : ∀ (x : Int32) (M' : zM), post x M' → z_W X M' (k + rmc.cells) (n + rmc.slots) (pc + 3) lv (.int x :: rest)) : z_W X M k n pc lv st := by
  subst hst
  intro H locs ls h1 h2 h3 h4
  have hs := z_sub C h2 h3
  exact va_calli (va_runV ⟨C.1, C.2.1, rfl, C.2.2.2.1, C.2.2.2.2.1⟩ (hM H.size) cw ⟨z_blind, by rw [← hr]; exact z_recv C h1 hb hc, fun U hU hW => ⟨rfl, z_pre C h1 h2 h3 hU hW⟩⟩ rfl hN h4.1 rfl (lv_room hcat) d (by rw [C.2.2.2.2.2.2.2.2]; exact ⟨hk, hn⟩)) h3 (fun q _ h => hs q h) hs
    (fun x M' t H1 locs1 ht hvm hp hB hz hk1 hS => kk x M' hp H1 locs1 ls (by rw [← ht]; exact hB.1) (fun a e h => hs a (hB.2 a e h)) hS h4)
theorem z_callVv {post : zM → Prop} (C : z_C X cc own nL rm) (hM : z_Mv (z_l X) (z_G X) q rmc (.ref b :: As) M post) (cw : CallW (z_R X) (z_s X) (z_a X) own q.1.cls index q.1 q.2.1 q.2.2.1 q.2.2.2 (z_ws q) rmc rmc.cells rmc.slots N) (hb : M b = some (.inr (ci, fs))) (hc : vwCl[ci]? = some r) (hr : r.1 = q.1.cls) (hN : As.length = N) (hst : st = As.reverse ++ .ref b :: rest) (hcat : (rest.map fun v => v.category).sum ≤ 8) (hk : k + rmc.cells ≤ rm.cells) (hn : n + rmc.slots ≤ rm.slots) (d : decode cc pc = .ok (.invokevirtual index, 3))
    (kk : ∀ (M' : zM), post M' → z_W X M' (k + rmc.cells) (n + rmc.slots) (pc + 3) lv rest) : z_W X M k n pc lv st := by
  subst hst
  intro H locs ls h1 h2 h3 h4
  have hs := z_sub C h2 h3
  exact va_callv (va_runV ⟨C.1, C.2.1, rfl, C.2.2.2.1, C.2.2.2.2.1⟩ (hM H.size) cw ⟨z_blind, by rw [← hr]; exact z_recv C h1 hb hc, fun U hU hW => ⟨rfl, z_pre C h1 h2 h3 hU hW⟩⟩ rfl hN h4.1 rfl (lv_room hcat) d (by rw [C.2.2.2.2.2.2.2.2]; exact ⟨hk, hn⟩)) h3 (fun q _ h => hs q h) hs
    (fun M' t H1 locs1 ht hvm hp hB hz hk1 hS => kk M' hp H1 locs1 ls (by rw [← ht]; exact hB.1) (fun a e h => hs a (hB.2 a e h)) hS h4)
theorem z_callVr {post : Nat → zM → Prop} (C : z_C X cc own nL rm) (hM : z_Mr (z_l X) (z_G X) q rmc (.ref b :: As) M post) (cw : CallW (z_R X) (z_s X) (z_a X) own q.1.cls index q.1 q.2.1 q.2.2.1 q.2.2.2 (z_ws q) rmc rmc.cells rmc.slots N) (hb : M b = some (.inr (ci, fs))) (hc : vwCl[ci]? = some r) (hr : r.1 = q.1.cls) (hN : As.length = N) (hst : st = As.reverse ++ .ref b :: rest) (hcat : (rest.map fun v => v.category).sum ≤ 8) (hk : k + rmc.cells ≤ rm.cells) (hn : n + rmc.slots ≤ rm.slots) (d : decode cc pc = .ok (.invokevirtual index, 3))
    (kk : ∀ (a : Nat) (M' : zM), post a M' → z_W X M' (k + rmc.cells) (n + rmc.slots) (pc + 3) lv (.ref a :: rest)) : z_W X M k n pc lv st := by
  subst hst
  intro H locs ls h1 h2 h3 h4
  have hs := z_sub C h2 h3
  exact va_callr (va_runV ⟨C.1, C.2.1, rfl, C.2.2.2.1, C.2.2.2.2.1⟩ (hM H.size) cw ⟨z_blind, by rw [← hr]; exact z_recv C h1 hb hc, fun U hU hW => ⟨rfl, z_pre C h1 h2 h3 hU hW⟩⟩ rfl hN h4.1 rfl (lv_room hcat) d (by rw [C.2.2.2.2.2.2.2.2]; exact ⟨hk, hn⟩)) h3 (fun q _ h => hs q h) hs
    (fun u a t H1 locs1 ht hvm hp hB hz hk1 hS => by rw [hB.1]; exact kk u.1 u.2 hp H1 locs1 ls (by rw [← ht]; exact hB.2.1) (fun a e h => hs a (hB.2.2 a e h)) hS h4)
theorem z_callSi {post : Int32 → zM → Prop} (C : z_C X cc own nL rm) (hM : z_Mi (z_l X) (z_G X) q rmc As M post) (cw : CallB (z_R X) (z_s X) (z_a X) own index q.1 q.2.1 q.2.2.1 q.2.2.2 (z_ws q) rmc rmc.cells rmc.slots N ∧ (Cond.static q.1).before (z_a X) (z_s X) = true) (hN : As.length = N) (hst : st = As.reverse ++ rest) (hcat : (rest.map fun v => v.category).sum ≤ 8) (hk : k + rmc.cells ≤ rm.cells) (hn : n + rmc.slots ≤ rm.slots) (d : decode cc pc = .ok (.invokestatic index, 3))
    (kk : ∀ (x : Int32) (M' : zM), post x M' → z_W X M' (k + rmc.cells) (n + rmc.slots) (pc + 3) lv (.int x :: rest)) : z_W X M k n pc lv st := by
  subst hst
  intro H locs ls h1 h2 h3 h4
  have hs := z_sub C h2 h3
  exact va_calli (va_runS ⟨C.1, C.2.1, rfl, C.2.2.2.1, C.2.2.2.2.1⟩ (hM H.size) cw ⟨z_blind, fun U hU hW => ⟨rfl, z_pre C h1 h2 h3 hU hW⟩⟩ rfl hN h4.1 rfl (lv_room hcat) d (by rw [C.2.2.2.2.2.2.2.2]; exact ⟨hk, hn⟩)) h3 (fun q _ h => hs q h) hs
    (fun x M' t H1 locs1 ht hvm hp hB hz hk1 hS => kk x M' hp H1 locs1 ls (by rw [← ht]; exact hB.1) (fun a e h => hs a (hB.2 a e h)) hS h4)
theorem z_callSr {post : Nat → zM → Prop} (C : z_C X cc own nL rm) (hM : z_Mr (z_l X) (z_G X) q rmc As M post) (cw : CallB (z_R X) (z_s X) (z_a X) own index q.1 q.2.1 q.2.2.1 q.2.2.2 (z_ws q) rmc rmc.cells rmc.slots N ∧ (Cond.static q.1).before (z_a X) (z_s X) = true) (hN : As.length = N) (hst : st = As.reverse ++ rest) (hcat : (rest.map fun v => v.category).sum ≤ 8) (hk : k + rmc.cells ≤ rm.cells) (hn : n + rmc.slots ≤ rm.slots) (d : decode cc pc = .ok (.invokestatic index, 3))
    (kk : ∀ (a : Nat) (M' : zM), post a M' → z_W X M' (k + rmc.cells) (n + rmc.slots) (pc + 3) lv (.ref a :: rest)) : z_W X M k n pc lv st := by
  subst hst
  intro H locs ls h1 h2 h3 h4
  have hs := z_sub C h2 h3
  exact va_callr (va_runS ⟨C.1, C.2.1, rfl, C.2.2.2.1, C.2.2.2.2.1⟩ (hM H.size) cw ⟨z_blind, fun U hU hW => ⟨rfl, z_pre C h1 h2 h3 hU hW⟩⟩ rfl hN h4.1 rfl (lv_room hcat) d (by rw [C.2.2.2.2.2.2.2.2]; exact ⟨hk, hn⟩)) h3 (fun q _ h => hs q h) hs
    (fun u a t H1 locs1 ht hvm hp hB hz hk1 hS => by rw [hB.1]; exact kk u.1 u.2 hp H1 locs1 ls (by rw [← ht]; exact hB.2.1) (fun a e h => hs a (hB.2.2 a e h)) hS h4)
theorem z_callI {post : zM → Prop} (C : z_C X cc own nL rm) (hM : z_Mv (z_l X) (z_G X) q rmc (.ref b :: As) M post) (cw : CallB (z_R X) (z_s X) (z_a X) own index q.1 q.2.1 q.2.2.1 none (z_ws q) rmc rmc.cells rmc.slots N ∧ q.1.name = "<init>" ∧ (Cond.instanceMethod q.1).before (z_a X) (z_s X) = true) (hN : As.length = N) (hst : st = As.reverse ++ .ref b :: rest) (hcat : (rest.map fun v => v.category).sum ≤ 8) (hk : k + rmc.cells ≤ rm.cells) (hn : n + rmc.slots ≤ rm.slots) (d : decode cc pc = .ok (.invokespecial index, 3))
    (kk : ∀ (M' : zM), post M' → z_W X M' (k + rmc.cells) (n + rmc.slots) (pc + 3) lv rest) : z_W X M k n pc lv st := by
  subst hst
  intro H locs ls h1 h2 h3 h4
  have hs := z_sub C h2 h3
  exact va_callv (va_runI ⟨C.1, C.2.1, rfl, C.2.2.2.1, C.2.2.2.2.1⟩ (hM H.size) cw ⟨z_blind, fun U hU hW => ⟨rfl, z_pre C h1 h2 h3 hU hW⟩⟩ rfl hN h4.1 rfl (lv_room hcat) d (by rw [C.2.2.2.2.2.2.2.2]; exact ⟨hk, hn⟩)) h3 (fun q _ h => hs q h) hs
    (fun M' t H1 locs1 ht hvm hp hB hz hk1 hS => kk M' hp H1 locs1 ls (by rw [← ht]; exact hB.1) (fun a e h => hs a (hB.2 a e h)) hS h4)
end ZK
end
