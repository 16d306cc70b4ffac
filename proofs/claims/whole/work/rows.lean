section
-- ===== PART A: goes FIRST, ahead of the names: the tables' words, and 'selects' of the private methods out of them =====
/-- a private method of a class that the tables say can be made, by its rows of tables_1 -/
def lw_okq (q : MethodName × Nat) : Prop := (q.1.cls ≠ "java/lang/invoke/MethodHandle" ∧ q.1.cls ≠ "java/lang/invoke/VarHandle") ∧ Cond.instantiable q.1.cls q.2 ∈ tables_1 ∧ Cond.privateMethod q.1 ∈ tables_1 ∧ Cond.instanceMethod q.1 ∈ tables_1
theorem lw_p0 : lw_okq (⟨"ShuffledDays", "counted", "(I)I"⟩, 13) := ⟨⟨by decide +kernel, by decide +kernel⟩, List.mem_of_getElem? (i := 20) (by decide +kernel), List.mem_of_getElem? (i := 310) (by decide +kernel), List.mem_of_getElem? (i := 311) (by decide +kernel)⟩
theorem lw_p1 : lw_okq (⟨"ShuffledDays", "badAs", "(I)I"⟩, 13) := ⟨⟨by decide +kernel, by decide +kernel⟩, List.mem_of_getElem? (i := 20) (by decide +kernel), List.mem_of_getElem? (i := 365) (by decide +kernel), List.mem_of_getElem? (i := 366) (by decide +kernel)⟩
theorem lw_p2 : lw_okq (⟨"ShuffledDays$Text", "nextToken", "()V"⟩, 8) := ⟨⟨by decide +kernel, by decide +kernel⟩, List.mem_of_getElem? (i := 111) (by decide +kernel), List.mem_of_getElem? (i := 423) (by decide +kernel), List.mem_of_getElem? (i := 424) (by decide +kernel)⟩
theorem lw_p3 : lw_okq (⟨"ShuffledDays$Text", "isLetter", "(I)Z"⟩, 8) := ⟨⟨by decide +kernel, by decide +kernel⟩, List.mem_of_getElem? (i := 111) (by decide +kernel), List.mem_of_getElem? (i := 427) (by decide +kernel), List.mem_of_getElem? (i := 428) (by decide +kernel)⟩
theorem lw_p4 : lw_okq (⟨"ShuffledDays$Text", "passLetters", "()V"⟩, 8) := ⟨⟨by decide +kernel, by decide +kernel⟩, List.mem_of_getElem? (i := 111) (by decide +kernel), List.mem_of_getElem? (i := 431) (by decide +kernel), List.mem_of_getElem? (i := 432) (by decide +kernel)⟩
theorem lw_p5 : lw_okq (⟨"ShuffledDays$Text", "spells", "(Ljava/lang/String;)Z"⟩, 8) := ⟨⟨by decide +kernel, by decide +kernel⟩, List.mem_of_getElem? (i := 111) (by decide +kernel), List.mem_of_getElem? (i := 445) (by decide +kernel), List.mem_of_getElem? (i := 446) (by decide +kernel)⟩
theorem lw_p6 : lw_okq (⟨"ShuffledDays$Text", "isFigure", "(I)Z"⟩, 8) := ⟨⟨by decide +kernel, by decide +kernel⟩, List.mem_of_getElem? (i := 111) (by decide +kernel), List.mem_of_getElem? (i := 497) (by decide +kernel), List.mem_of_getElem? (i := 498) (by decide +kernel)⟩
theorem lw_p7 : lw_okq (⟨"ShuffledDays$Text", "passFigures", "()V"⟩, 8) := ⟨⟨by decide +kernel, by decide +kernel⟩, List.mem_of_getElem? (i := 111) (by decide +kernel), List.mem_of_getElem? (i := 501) (by decide +kernel), List.mem_of_getElem? (i := 502) (by decide +kernel)⟩
theorem lw_p8 : lw_okq (⟨"ShuffledDays$Text", "takeItem", "()Z"⟩, 8) := ⟨⟨by decide +kernel, by decide +kernel⟩, List.mem_of_getElem? (i := 111) (by decide +kernel), List.mem_of_getElem? (i := 505) (by decide +kernel), List.mem_of_getElem? (i := 506) (by decide +kernel)⟩
theorem lw_p9 : lw_okq (⟨"ShuffledDays", "follow", "(I)V"⟩, 13) := ⟨⟨by decide +kernel, by decide +kernel⟩, List.mem_of_getElem? (i := 20) (by decide +kernel), List.mem_of_getElem? (i := 531) (by decide +kernel), List.mem_of_getElem? (i := 532) (by decide +kernel)⟩
theorem lw_p10 : lw_okq (⟨"ShuffledDays$Course", "placeDays", "()V"⟩, 11) := ⟨⟨by decide +kernel, by decide +kernel⟩, List.mem_of_getElem? (i := 147) (by decide +kernel), List.mem_of_getElem? (i := 600) (by decide +kernel), List.mem_of_getElem? (i := 601) (by decide +kernel)⟩
theorem lw_p11 : lw_okq (⟨"ShuffledDays", "hangsTogether", "()Z"⟩, 13) := ⟨⟨by decide +kernel, by decide +kernel⟩, List.mem_of_getElem? (i := 20) (by decide +kernel), List.mem_of_getElem? (i := 650) (by decide +kernel), List.mem_of_getElem? (i := 651) (by decide +kernel)⟩
theorem lw_p12 : lw_okq (⟨"ShuffledDays", "livesAsTold", "()Z"⟩, 13) := ⟨⟨by decide +kernel, by decide +kernel⟩, List.mem_of_getElem? (i := 20) (by decide +kernel), List.mem_of_getElem? (i := 654) (by decide +kernel), List.mem_of_getElem? (i := 655) (by decide +kernel)⟩
theorem lw_p13 : lw_okq (⟨"ShuffledDays$Course", "swap", "(II)V"⟩, 11) := ⟨⟨by decide +kernel, by decide +kernel⟩, List.mem_of_getElem? (i := 147) (by decide +kernel), List.mem_of_getElem? (i := 666) (by decide +kernel), List.mem_of_getElem? (i := 667) (by decide +kernel)⟩
theorem lw_p14 : lw_okq (⟨"ShuffledDays$NoteSearch", "keepRows", "(LShuffledDays$Life;LShuffledDays$Course;)V"⟩, 5) := ⟨⟨by decide +kernel, by decide +kernel⟩, List.mem_of_getElem? (i := 194) (by decide +kernel), List.mem_of_getElem? (i := 694) (by decide +kernel), List.mem_of_getElem? (i := 695) (by decide +kernel)⟩
theorem lw_p15 : lw_okq (⟨"ShuffledDays$NoteSearch", "allWell", "(LShuffledDays$Course;)Z"⟩, 5) := ⟨⟨by decide +kernel, by decide +kernel⟩, List.mem_of_getElem? (i := 194) (by decide +kernel), List.mem_of_getElem? (i := 701) (by decide +kernel), List.mem_of_getElem? (i := 702) (by decide +kernel)⟩
def lw_privs_1 : List (MethodName × Nat) := [(⟨"ShuffledDays", "counted", "(I)I"⟩, 13), (⟨"ShuffledDays", "badAs", "(I)I"⟩, 13), (⟨"ShuffledDays$Text", "nextToken", "()V"⟩, 8), (⟨"ShuffledDays$Text", "isLetter", "(I)Z"⟩, 8), (⟨"ShuffledDays$Text", "passLetters", "()V"⟩, 8), (⟨"ShuffledDays$Text", "spells", "(Ljava/lang/String;)Z"⟩, 8), (⟨"ShuffledDays$Text", "isFigure", "(I)Z"⟩, 8), (⟨"ShuffledDays$Text", "passFigures", "()V"⟩, 8), (⟨"ShuffledDays$Text", "takeItem", "()Z"⟩, 8), (⟨"ShuffledDays", "follow", "(I)V"⟩, 13), (⟨"ShuffledDays$Course", "placeDays", "()V"⟩, 11), (⟨"ShuffledDays", "hangsTogether", "()Z"⟩, 13), (⟨"ShuffledDays", "livesAsTold", "()Z"⟩, 13), (⟨"ShuffledDays$Course", "swap", "(II)V"⟩, 11), (⟨"ShuffledDays$NoteSearch", "keepRows", "(LShuffledDays$Life;LShuffledDays$Course;)V"⟩, 5), (⟨"ShuffledDays$NoteSearch", "allWell", "(LShuffledDays$Course;)Z"⟩, 5)]
theorem lw_r1 : ∀ q ∈ lw_privs_1, lw_okq q := List.forall_mem_cons.mpr ⟨lw_p0, List.forall_mem_cons.mpr ⟨lw_p1, List.forall_mem_cons.mpr ⟨lw_p2, List.forall_mem_cons.mpr ⟨lw_p3, List.forall_mem_cons.mpr ⟨lw_p4, List.forall_mem_cons.mpr ⟨lw_p5, List.forall_mem_cons.mpr ⟨lw_p6, List.forall_mem_cons.mpr ⟨lw_p7, List.forall_mem_cons.mpr ⟨lw_p8, List.forall_mem_cons.mpr ⟨lw_p9, List.forall_mem_cons.mpr ⟨lw_p10, List.forall_mem_cons.mpr ⟨lw_p11, List.forall_mem_cons.mpr ⟨lw_p12, List.forall_mem_cons.mpr ⟨lw_p13, List.forall_mem_cons.mpr ⟨lw_p14, List.forall_mem_cons.mpr ⟨lw_p15, fun _ h => absurd h List.not_mem_nil⟩⟩⟩⟩⟩⟩⟩⟩⟩⟩⟩⟩⟩⟩⟩⟩
theorem lw_p16 : lw_okq (⟨"ShuffledDays$NoteSearch", "findOne", "(LShuffledDays$Course;)Z"⟩, 5) := ⟨⟨by decide +kernel, by decide +kernel⟩, List.mem_of_getElem? (i := 194) (by decide +kernel), List.mem_of_getElem? (i := 707) (by decide +kernel), List.mem_of_getElem? (i := 708) (by decide +kernel)⟩
theorem lw_p17 : lw_okq (⟨"ShuffledDays$NoteSearch", "wellWith", "(LShuffledDays$Course;II)Z"⟩, 5) := ⟨⟨by decide +kernel, by decide +kernel⟩, List.mem_of_getElem? (i := 194) (by decide +kernel), List.mem_of_getElem? (i := 711) (by decide +kernel), List.mem_of_getElem? (i := 712) (by decide +kernel)⟩
theorem lw_p18 : lw_okq (⟨"ShuffledDays$NoteSearch", "findTwo", "(LShuffledDays$Course;)Z"⟩, 5) := ⟨⟨by decide +kernel, by decide +kernel⟩, List.mem_of_getElem? (i := 194) (by decide +kernel), List.mem_of_getElem? (i := 718) (by decide +kernel), List.mem_of_getElem? (i := 719) (by decide +kernel)⟩
theorem lw_p19 : lw_okq (⟨"ShuffledDays", "setFraction", "(JJ)V"⟩, 13) := ⟨⟨by decide +kernel, by decide +kernel⟩, List.mem_of_getElem? (i := 20) (by decide +kernel), List.mem_of_getElem? (i := 726) (by decide +kernel), List.mem_of_getElem? (i := 727) (by decide +kernel)⟩
theorem lw_p20 : lw_okq (⟨"ShuffledDays", "shareKnown", "()V"⟩, 13) := ⟨⟨by decide +kernel, by decide +kernel⟩, List.mem_of_getElem? (i := 20) (by decide +kernel), List.mem_of_getElem? (i := 778) (by decide +kernel), List.mem_of_getElem? (i := 779) (by decide +kernel)⟩
theorem lw_p21 : lw_okq (⟨"ShuffledDays", "bestNaming", "(I)I"⟩, 13) := ⟨⟨by decide +kernel, by decide +kernel⟩, List.mem_of_getElem? (i := 20) (by decide +kernel), List.mem_of_getElem? (i := 791) (by decide +kernel), List.mem_of_getElem? (i := 792) (by decide +kernel)⟩
theorem lw_p22 : lw_okq (⟨"ShuffledDays", "leadByNaming", "(II)I"⟩, 13) := ⟨⟨by decide +kernel, by decide +kernel⟩, List.mem_of_getElem? (i := 20) (by decide +kernel), List.mem_of_getElem? (i := 795) (by decide +kernel), List.mem_of_getElem? (i := 796) (by decide +kernel)⟩
theorem lw_p23 : lw_okq (⟨"ShuffledDays", "countOf", "(I)I"⟩, 13) := ⟨⟨by decide +kernel, by decide +kernel⟩, List.mem_of_getElem? (i := 20) (by decide +kernel), List.mem_of_getElem? (i := 845) (by decide +kernel), List.mem_of_getElem? (i := 846) (by decide +kernel)⟩
theorem lw_p24 : lw_okq (⟨"ShuffledDaysModel", "begins", "(I)V"⟩, 39) := ⟨⟨by decide +kernel, by decide +kernel⟩, List.mem_of_getElem? (i := 865) (by decide +kernel), List.mem_of_getElem? (i := 871) (by decide +kernel), List.mem_of_getElem? (i := 872) (by decide +kernel)⟩
theorem lw_p25 : lw_okq (⟨"ShuffledDaysModel", "bad", "(I)I"⟩, 39) := ⟨⟨by decide +kernel, by decide +kernel⟩, List.mem_of_getElem? (i := 865) (by decide +kernel), List.mem_of_getElem? (i := 1001) (by decide +kernel), List.mem_of_getElem? (i := 1002) (by decide +kernel)⟩
theorem lw_p26 : lw_okq (⟨"ShuffledDaysModel", "isDay", "(I)Z"⟩, 39) := ⟨⟨by decide +kernel, by decide +kernel⟩, List.mem_of_getElem? (i := 865) (by decide +kernel), List.mem_of_getElem? (i := 1009) (by decide +kernel), List.mem_of_getElem? (i := 1010) (by decide +kernel)⟩
theorem lw_p27 : lw_okq (⟨"ShuffledDaysModel", "no", "()I"⟩, 39) := ⟨⟨by decide +kernel, by decide +kernel⟩, List.mem_of_getElem? (i := 865) (by decide +kernel), List.mem_of_getElem? (i := 1021) (by decide +kernel), List.mem_of_getElem? (i := 1022) (by decide +kernel)⟩
theorem lw_p28 : lw_okq (⟨"ShuffledDaysModel", "isNote", "(II)Z"⟩, 39) := ⟨⟨by decide +kernel, by decide +kernel⟩, List.mem_of_getElem? (i := 865) (by decide +kernel), List.mem_of_getElem? (i := 1029) (by decide +kernel), List.mem_of_getElem? (i := 1030) (by decide +kernel)⟩
theorem lw_p29 : lw_okq (⟨"ShuffledDaysModel", "full", "()I"⟩, 39) := ⟨⟨by decide +kernel, by decide +kernel⟩, List.mem_of_getElem? (i := 865) (by decide +kernel), List.mem_of_getElem? (i := 1033) (by decide +kernel), List.mem_of_getElem? (i := 1034) (by decide +kernel)⟩
theorem lw_p30 : lw_okq (⟨"ShuffledDaysModel", "diaries", "()I"⟩, 39) := ⟨⟨by decide +kernel, by decide +kernel⟩, List.mem_of_getElem? (i := 865) (by decide +kernel), List.mem_of_getElem? (i := 1050) (by decide +kernel), List.mem_of_getElem? (i := 1051) (by decide +kernel)⟩
theorem lw_p31 : lw_okq (⟨"ShuffledDaysModel", "isRank", "(I)Z"⟩, 39) := ⟨⟨by decide +kernel, by decide +kernel⟩, List.mem_of_getElem? (i := 865) (by decide +kernel), List.mem_of_getElem? (i := 1058) (by decide +kernel), List.mem_of_getElem? (i := 1059) (by decide +kernel)⟩
def lw_privs_2 : List (MethodName × Nat) := [(⟨"ShuffledDays$NoteSearch", "findOne", "(LShuffledDays$Course;)Z"⟩, 5), (⟨"ShuffledDays$NoteSearch", "wellWith", "(LShuffledDays$Course;II)Z"⟩, 5), (⟨"ShuffledDays$NoteSearch", "findTwo", "(LShuffledDays$Course;)Z"⟩, 5), (⟨"ShuffledDays", "setFraction", "(JJ)V"⟩, 13), (⟨"ShuffledDays", "shareKnown", "()V"⟩, 13), (⟨"ShuffledDays", "bestNaming", "(I)I"⟩, 13), (⟨"ShuffledDays", "leadByNaming", "(II)I"⟩, 13), (⟨"ShuffledDays", "countOf", "(I)I"⟩, 13), (⟨"ShuffledDaysModel", "begins", "(I)V"⟩, 39), (⟨"ShuffledDaysModel", "bad", "(I)I"⟩, 39), (⟨"ShuffledDaysModel", "isDay", "(I)Z"⟩, 39), (⟨"ShuffledDaysModel", "no", "()I"⟩, 39), (⟨"ShuffledDaysModel", "isNote", "(II)Z"⟩, 39), (⟨"ShuffledDaysModel", "full", "()I"⟩, 39), (⟨"ShuffledDaysModel", "diaries", "()I"⟩, 39), (⟨"ShuffledDaysModel", "isRank", "(I)Z"⟩, 39)]
theorem lw_r2 : ∀ q ∈ lw_privs_2, lw_okq q := List.forall_mem_cons.mpr ⟨lw_p16, List.forall_mem_cons.mpr ⟨lw_p17, List.forall_mem_cons.mpr ⟨lw_p18, List.forall_mem_cons.mpr ⟨lw_p19, List.forall_mem_cons.mpr ⟨lw_p20, List.forall_mem_cons.mpr ⟨lw_p21, List.forall_mem_cons.mpr ⟨lw_p22, List.forall_mem_cons.mpr ⟨lw_p23, List.forall_mem_cons.mpr ⟨lw_p24, List.forall_mem_cons.mpr ⟨lw_p25, List.forall_mem_cons.mpr ⟨lw_p26, List.forall_mem_cons.mpr ⟨lw_p27, List.forall_mem_cons.mpr ⟨lw_p28, List.forall_mem_cons.mpr ⟨lw_p29, List.forall_mem_cons.mpr ⟨lw_p30, List.forall_mem_cons.mpr ⟨lw_p31, fun _ h => absurd h List.not_mem_nil⟩⟩⟩⟩⟩⟩⟩⟩⟩⟩⟩⟩⟩⟩⟩⟩
theorem lw_p32 : lw_okq (⟨"ShuffledDaysModel", "orders", "()I"⟩, 39) := ⟨⟨by decide +kernel, by decide +kernel⟩, List.mem_of_getElem? (i := 865) (by decide +kernel), List.mem_of_getElem? (i := 1062) (by decide +kernel), List.mem_of_getElem? (i := 1063) (by decide +kernel)⟩
theorem lw_p33 : lw_okq (⟨"ShuffledDaysModel", "rankOf", "([I)I"⟩, 39) := ⟨⟨by decide +kernel, by decide +kernel⟩, List.mem_of_getElem? (i := 865) (by decide +kernel), List.mem_of_getElem? (i := 1066) (by decide +kernel), List.mem_of_getElem? (i := 1067) (by decide +kernel)⟩
theorem lw_p34 : lw_okq (⟨"ShuffledDaysModel", "rowOf", "(I[I)V"⟩, 39) := ⟨⟨by decide +kernel, by decide +kernel⟩, List.mem_of_getElem? (i := 865) (by decide +kernel), List.mem_of_getElem? (i := 1070) (by decide +kernel), List.mem_of_getElem? (i := 1071) (by decide +kernel)⟩
theorem lw_p35 : lw_okq (⟨"ShuffledDaysModel", "lives", "([I)V"⟩, 39) := ⟨⟨by decide +kernel, by decide +kernel⟩, List.mem_of_getElem? (i := 865) (by decide +kernel), List.mem_of_getElem? (i := 1082) (by decide +kernel), List.mem_of_getElem? (i := 1083) (by decide +kernel)⟩
theorem lw_p36 : lw_okq (⟨"ShuffledDaysModel", "learns", "(I)I"⟩, 39) := ⟨⟨by decide +kernel, by decide +kernel⟩, List.mem_of_getElem? (i := 865) (by decide +kernel), List.mem_of_getElem? (i := 1086) (by decide +kernel), List.mem_of_getElem? (i := 1087) (by decide +kernel)⟩
theorem lw_p37 : lw_okq (⟨"ShuffledDaysModel", "asks", "(I)I"⟩, 39) := ⟨⟨by decide +kernel, by decide +kernel⟩, List.mem_of_getElem? (i := 865) (by decide +kernel), List.mem_of_getElem? (i := 1090) (by decide +kernel), List.mem_of_getElem? (i := 1091) (by decide +kernel)⟩
theorem lw_p38 : lw_okq (⟨"ShuffledDaysModel", "doesHang", "()Z"⟩, 39) := ⟨⟨by decide +kernel, by decide +kernel⟩, List.mem_of_getElem? (i := 865) (by decide +kernel), List.mem_of_getElem? (i := 1117) (by decide +kernel), List.mem_of_getElem? (i := 1118) (by decide +kernel)⟩
theorem lw_p39 : lw_okq (⟨"ShuffledDaysModel", "isTold", "()Z"⟩, 39) := ⟨⟨by decide +kernel, by decide +kernel⟩, List.mem_of_getElem? (i := 865) (by decide +kernel), List.mem_of_getElem? (i := 1121) (by decide +kernel), List.mem_of_getElem? (i := 1122) (by decide +kernel)⟩
theorem lw_p40 : lw_okq (⟨"ShuffledDaysModel", "turns", "([I)V"⟩, 39) := ⟨⟨by decide +kernel, by decide +kernel⟩, List.mem_of_getElem? (i := 865) (by decide +kernel), List.mem_of_getElem? (i := 1125) (by decide +kernel), List.mem_of_getElem? (i := 1126) (by decide +kernel)⟩
theorem lw_p41 : lw_okq (⟨"ShuffledDaysModel", "fewest", "()I"⟩, 39) := ⟨⟨by decide +kernel, by decide +kernel⟩, List.mem_of_getElem? (i := 865) (by decide +kernel), List.mem_of_getElem? (i := 1142) (by decide +kernel), List.mem_of_getElem? (i := 1143) (by decide +kernel)⟩
theorem lw_p42 : lw_okq (⟨"ShuffledDaysModel", "areWell", "()Z"⟩, 39) := ⟨⟨by decide +kernel, by decide +kernel⟩, List.mem_of_getElem? (i := 865) (by decide +kernel), List.mem_of_getElem? (i := 1146) (by decide +kernel), List.mem_of_getElem? (i := 1147) (by decide +kernel)⟩
theorem lw_p43 : lw_okq (⟨"ShuffledDaysModel", "adds", "(I)Z"⟩, 39) := ⟨⟨by decide +kernel, by decide +kernel⟩, List.mem_of_getElem? (i := 865) (by decide +kernel), List.mem_of_getElem? (i := 1150) (by decide +kernel), List.mem_of_getElem? (i := 1151) (by decide +kernel)⟩
theorem lw_p44 : lw_okq (⟨"ShuffledDaysModel", "tells", "(JJ)V"⟩, 39) := ⟨⟨by decide +kernel, by decide +kernel⟩, List.mem_of_getElem? (i := 865) (by decide +kernel), List.mem_of_getElem? (i := 1158) (by decide +kernel), List.mem_of_getElem? (i := 1159) (by decide +kernel)⟩
theorem lw_p45 : lw_okq (⟨"ShuffledDaysModel", "both", "()V"⟩, 39) := ⟨⟨by decide +kernel, by decide +kernel⟩, List.mem_of_getElem? (i := 865) (by decide +kernel), List.mem_of_getElem? (i := 1192) (by decide +kernel), List.mem_of_getElem? (i := 1193) (by decide +kernel)⟩
theorem lw_p46 : lw_okq (⟨"ShuffledDaysModel", "named", "(II)I"⟩, 39) := ⟨⟨by decide +kernel, by decide +kernel⟩, List.mem_of_getElem? (i := 865) (by decide +kernel), List.mem_of_getElem? (i := 1204) (by decide +kernel), List.mem_of_getElem? (i := 1205) (by decide +kernel)⟩
theorem lw_p47 : lw_okq (⟨"ShuffledDaysModel", "skips", "()V"⟩, 39) := ⟨⟨by decide +kernel, by decide +kernel⟩, List.mem_of_getElem? (i := 865) (by decide +kernel), List.mem_of_getElem? (i := 1236) (by decide +kernel), List.mem_of_getElem? (i := 1237) (by decide +kernel)⟩
def lw_privs_3 : List (MethodName × Nat) := [(⟨"ShuffledDaysModel", "orders", "()I"⟩, 39), (⟨"ShuffledDaysModel", "rankOf", "([I)I"⟩, 39), (⟨"ShuffledDaysModel", "rowOf", "(I[I)V"⟩, 39), (⟨"ShuffledDaysModel", "lives", "([I)V"⟩, 39), (⟨"ShuffledDaysModel", "learns", "(I)I"⟩, 39), (⟨"ShuffledDaysModel", "asks", "(I)I"⟩, 39), (⟨"ShuffledDaysModel", "doesHang", "()Z"⟩, 39), (⟨"ShuffledDaysModel", "isTold", "()Z"⟩, 39), (⟨"ShuffledDaysModel", "turns", "([I)V"⟩, 39), (⟨"ShuffledDaysModel", "fewest", "()I"⟩, 39), (⟨"ShuffledDaysModel", "areWell", "()Z"⟩, 39), (⟨"ShuffledDaysModel", "adds", "(I)Z"⟩, 39), (⟨"ShuffledDaysModel", "tells", "(JJ)V"⟩, 39), (⟨"ShuffledDaysModel", "both", "()V"⟩, 39), (⟨"ShuffledDaysModel", "named", "(II)I"⟩, 39), (⟨"ShuffledDaysModel", "skips", "()V"⟩, 39)]
theorem lw_r3 : ∀ q ∈ lw_privs_3, lw_okq q := List.forall_mem_cons.mpr ⟨lw_p32, List.forall_mem_cons.mpr ⟨lw_p33, List.forall_mem_cons.mpr ⟨lw_p34, List.forall_mem_cons.mpr ⟨lw_p35, List.forall_mem_cons.mpr ⟨lw_p36, List.forall_mem_cons.mpr ⟨lw_p37, List.forall_mem_cons.mpr ⟨lw_p38, List.forall_mem_cons.mpr ⟨lw_p39, List.forall_mem_cons.mpr ⟨lw_p40, List.forall_mem_cons.mpr ⟨lw_p41, List.forall_mem_cons.mpr ⟨lw_p42, List.forall_mem_cons.mpr ⟨lw_p43, List.forall_mem_cons.mpr ⟨lw_p44, List.forall_mem_cons.mpr ⟨lw_p45, List.forall_mem_cons.mpr ⟨lw_p46, List.forall_mem_cons.mpr ⟨lw_p47, fun _ h => absurd h List.not_mem_nil⟩⟩⟩⟩⟩⟩⟩⟩⟩⟩⟩⟩⟩⟩⟩⟩
theorem lw_p48 : lw_okq (⟨"ShuffledDaysModel", "readItem", "()V"⟩, 39) := ⟨⟨by decide +kernel, by decide +kernel⟩, List.mem_of_getElem? (i := 865) (by decide +kernel), List.mem_of_getElem? (i := 1240) (by decide +kernel), List.mem_of_getElem? (i := 1241) (by decide +kernel)⟩
theorem lw_p49 : lw_okq (⟨"ShuffledDaysModel", "word", "()I"⟩, 39) := ⟨⟨by decide +kernel, by decide +kernel⟩, List.mem_of_getElem? (i := 865) (by decide +kernel), List.mem_of_getElem? (i := 1244) (by decide +kernel), List.mem_of_getElem? (i := 1245) (by decide +kernel)⟩
theorem lw_p50 : lw_okq (⟨"ShuffledDaysModel", "figure", "()I"⟩, 39) := ⟨⟨by decide +kernel, by decide +kernel⟩, List.mem_of_getElem? (i := 865) (by decide +kernel), List.mem_of_getElem? (i := 1258) (by decide +kernel), List.mem_of_getElem? (i := 1259) (by decide +kernel)⟩
theorem lw_p51 : lw_okq (⟨"ShuffledDaysModel", "isFigure", "(I)Z"⟩, 39) := ⟨⟨by decide +kernel, by decide +kernel⟩, List.mem_of_getElem? (i := 865) (by decide +kernel), List.mem_of_getElem? (i := 1262) (by decide +kernel), List.mem_of_getElem? (i := 1263) (by decide +kernel)⟩
theorem lw_p52 : lw_okq (⟨"ShuffledDaysModel", "keeps", "(I)V"⟩, 39) := ⟨⟨by decide +kernel, by decide +kernel⟩, List.mem_of_getElem? (i := 865) (by decide +kernel), List.mem_of_getElem? (i := 1268) (by decide +kernel), List.mem_of_getElem? (i := 1269) (by decide +kernel)⟩
theorem lw_p53 : lw_okq (⟨"ShuffledDaysModel", "lay", "([III)I"⟩, 39) := ⟨⟨by decide +kernel, by decide +kernel⟩, List.mem_of_getElem? (i := 865) (by decide +kernel), List.mem_of_getElem? (i := 1272) (by decide +kernel), List.mem_of_getElem? (i := 1273) (by decide +kernel)⟩
theorem lw_p54 : lw_okq (⟨"ShuffledDaysModel", "toldAside", "(IZ)V"⟩, 39) := ⟨⟨by decide +kernel, by decide +kernel⟩, List.mem_of_getElem? (i := 865) (by decide +kernel), List.mem_of_getElem? (i := 1276) (by decide +kernel), List.mem_of_getElem? (i := 1277) (by decide +kernel)⟩
theorem lw_p55 : lw_okq (⟨"ShuffledDaysModel", "does", "(I)Z"⟩, 39) := ⟨⟨by decide +kernel, by decide +kernel⟩, List.mem_of_getElem? (i := 865) (by decide +kernel), List.mem_of_getElem? (i := 1280) (by decide +kernel), List.mem_of_getElem? (i := 1281) (by decide +kernel)⟩
theorem lw_p56 : lw_okq (⟨"ShuffledDaysModel", "goesOn", "(I)V"⟩, 39) := ⟨⟨by decide +kernel, by decide +kernel⟩, List.mem_of_getElem? (i := 865) (by decide +kernel), List.mem_of_getElem? (i := 1290) (by decide +kernel), List.mem_of_getElem? (i := 1291) (by decide +kernel)⟩
theorem lw_p57 : lw_okq (⟨"ShuffledDaysModel", "gives", "(I[II)I"⟩, 39) := ⟨⟨by decide +kernel, by decide +kernel⟩, List.mem_of_getElem? (i := 865) (by decide +kernel), List.mem_of_getElem? (i := 1294) (by decide +kernel), List.mem_of_getElem? (i := 1295) (by decide +kernel)⟩
theorem lw_p58 : lw_okq (⟨"ShuffledDaysModel", "counts", "(I)I"⟩, 39) := ⟨⟨by decide +kernel, by decide +kernel⟩, List.mem_of_getElem? (i := 865) (by decide +kernel), List.mem_of_getElem? (i := 1319) (by decide +kernel), List.mem_of_getElem? (i := 1320) (by decide +kernel)⟩
theorem lw_p59 : lw_okq (⟨"ShuffledDaysModel", "hashes", "(J)V"⟩, 39) := ⟨⟨by decide +kernel, by decide +kernel⟩, List.mem_of_getElem? (i := 865) (by decide +kernel), List.mem_of_getElem? (i := 1328) (by decide +kernel), List.mem_of_getElem? (i := 1329) (by decide +kernel)⟩
def lw_privs_4 : List (MethodName × Nat) := [(⟨"ShuffledDaysModel", "readItem", "()V"⟩, 39), (⟨"ShuffledDaysModel", "word", "()I"⟩, 39), (⟨"ShuffledDaysModel", "figure", "()I"⟩, 39), (⟨"ShuffledDaysModel", "isFigure", "(I)Z"⟩, 39), (⟨"ShuffledDaysModel", "keeps", "(I)V"⟩, 39), (⟨"ShuffledDaysModel", "lay", "([III)I"⟩, 39), (⟨"ShuffledDaysModel", "toldAside", "(IZ)V"⟩, 39), (⟨"ShuffledDaysModel", "does", "(I)Z"⟩, 39), (⟨"ShuffledDaysModel", "goesOn", "(I)V"⟩, 39), (⟨"ShuffledDaysModel", "gives", "(I[II)I"⟩, 39), (⟨"ShuffledDaysModel", "counts", "(I)I"⟩, 39), (⟨"ShuffledDaysModel", "hashes", "(J)V"⟩, 39)]
theorem lw_r4 : ∀ q ∈ lw_privs_4, lw_okq q := List.forall_mem_cons.mpr ⟨lw_p48, List.forall_mem_cons.mpr ⟨lw_p49, List.forall_mem_cons.mpr ⟨lw_p50, List.forall_mem_cons.mpr ⟨lw_p51, List.forall_mem_cons.mpr ⟨lw_p52, List.forall_mem_cons.mpr ⟨lw_p53, List.forall_mem_cons.mpr ⟨lw_p54, List.forall_mem_cons.mpr ⟨lw_p55, List.forall_mem_cons.mpr ⟨lw_p56, List.forall_mem_cons.mpr ⟨lw_p57, List.forall_mem_cons.mpr ⟨lw_p58, List.forall_mem_cons.mpr ⟨lw_p59, fun _ h => absurd h List.not_mem_nil⟩⟩⟩⟩⟩⟩⟩⟩⟩⟩⟩⟩
def lw_privs : List (MethodName × Nat) := lw_privs_1 ++ (lw_privs_2 ++ (lw_privs_3 ++ (lw_privs_4)))
def lw_tbl : List Cond := k2_sels lw_privs ++ tables_1
theorem lw_privs_ok : ∀ q ∈ lw_privs, lw_okq q := by
  show ∀ q ∈ lw_privs_1 ++ (lw_privs_2 ++ (lw_privs_3 ++ (lw_privs_4))), lw_okq q
  exact List.forall_mem_append.mpr ⟨lw_r1, List.forall_mem_append.mpr ⟨lw_r2, List.forall_mem_append.mpr ⟨lw_r3, lw_r4⟩⟩⟩
end
section
def RX0 : String := "ShuffledDays$BusyDay"
def TX0 : u_T := fun k => match k with
  | _ => ("", "", "", false)
def tyX0 : Nat → FieldType := fun k => match k with
  | _ => .int
abbrev wsX00 : List Cond := u_ws RX0 TX0 0
theorem nmX0 : ∀ a, a < 0 → ∀ b, b < 0 → a ≠ b → (TX0 a).2.1 ≠ (TX0 b).2.1 := by decide +kernel
theorem tyX0_ok : ∀ k, k < 0 → parseFieldDescriptor (TX0 k).2.2.1 = some (tyX0 k) := by decide +kernel
abbrev cX0_init : ByteArray := prog_2_method_1_code
def yX0_init : MethodName := ⟨RX0, "<init>", "()V"⟩
abbrev cX0_canWrite : ByteArray := prog_2_method_2_code
def yX0_canWrite : MethodName := ⟨RX0, "canWrite", "()Z"⟩
def RX1 : String := "ShuffledDays$ChildDay"
def TX1 : u_T := fun k => match k with
  | _ => ("", "", "", false)
def tyX1 : Nat → FieldType := fun k => match k with
  | _ => .int
abbrev wsX10 : List Cond := u_ws RX1 TX1 0
theorem nmX1 : ∀ a, a < 0 → ∀ b, b < 0 → a ≠ b → (TX1 a).2.1 ≠ (TX1 b).2.1 := by decide +kernel
theorem tyX1_ok : ∀ k, k < 0 → parseFieldDescriptor (TX1 k).2.2.1 = some (tyX1 k) := by decide +kernel
abbrev cX1_init : ByteArray := prog_3_method_1_code
def yX1_init : MethodName := ⟨RX1, "<init>", "()V"⟩
abbrev cX1_canRead : ByteArray := prog_3_method_2_code
def yX1_canRead : MethodName := ⟨RX1, "canRead", "()Z"⟩
def RX2 : String := "ShuffledDays$Course"
def TX2 : u_T := fun k => match k with
  | 0 => ("ShuffledDays$Course", "days", "I", false)
  | 1 => ("ShuffledDays$Course", "order", "[I", true)
  | 2 => ("ShuffledDays$Course", "place", "[I", true)
  | 3 => ("ShuffledDays$Course", "reading", "[Z", true)
  | 4 => ("ShuffledDays$Course", "writing", "[Z", true)
  | 5 => ("ShuffledDays$Course", "learnt", "[I", true)
  | 6 => ("ShuffledDays$Course", "needed", "[I", true)
  | 7 => ("ShuffledDays$Course", "noted", "[I", true)
  | 8 => ("ShuffledDays$Course", "before", "[I", true)
  | 9 => ("ShuffledDays$Course", "found", "[I", true)
  | _ => ("ShuffledDays$Course", "known", "[I", true)
def tyX2 : Nat → FieldType := fun k => match k with
  | 0 => .int
  | 1 => .array .int
  | 2 => .array .int
  | 3 => .array .boolean
  | 4 => .array .boolean
  | 5 => .array .int
  | 6 => .array .int
  | 7 => .array .int
  | 8 => .array .int
  | 9 => .array .int
  | _ => .array .int
abbrev wsX20 : List Cond := u_ws RX2 TX2 11
theorem nmX2 : ∀ a, a < 11 → ∀ b, b < 11 → a ≠ b → (TX2 a).2.1 ≠ (TX2 b).2.1 := by decide +kernel
theorem tyX2_ok : ∀ k, k < 11 → parseFieldDescriptor (TX2 k).2.2.1 = some (tyX2 k) := by decide +kernel
abbrev cX2_init : ByteArray := prog_4_method_1_code
def yX2_init : MethodName := ⟨RX2, "<init>", "()V"⟩
abbrev cX2_lookAt : ByteArray := prog_4_method_2_code
def yX2_lookAt : MethodName := ⟨RX2, "lookAt", "(LShuffledDays$Life;[LShuffledDays$PlainDay;)V"⟩
abbrev cX2_teachToo : ByteArray := prog_4_method_3_code
def yX2_teachToo : MethodName := ⟨RX2, "teachToo", "(LShuffledDays$Life;[LShuffledDays$PlainDay;II)V"⟩
abbrev cX2_kindOf : ByteArray := prog_4_method_4_code
def yX2_kindOf : MethodName := ⟨RX2, "kindOf", "(LShuffledDays$Life;[LShuffledDays$PlainDay;I)LShuffledDays$PlainDay;"⟩
abbrev cX2_goTo : ByteArray := prog_4_method_5_code
def yX2_goTo : MethodName := ⟨RX2, "goTo", "(I)V"⟩
abbrev cX2_goOn : ByteArray := prog_4_method_6_code
def yX2_goOn : MethodName := ⟨RX2, "goOn", "()V"⟩
abbrev cX2_swap : ByteArray := prog_4_method_7_code
def yX2_swap : MethodName := ⟨RX2, "swap", "(II)V"⟩
abbrev cX2_placeDays : ByteArray := prog_4_method_8_code
def yX2_placeDays : MethodName := ⟨RX2, "placeDays", "()V"⟩
abbrev cX2_liveThrough : ByteArray := prog_4_method_9_code
def yX2_liveThrough : MethodName := ⟨RX2, "liveThrough", "()V"⟩
abbrev cX2_readByDate : ByteArray := prog_4_method_10_code
def yX2_readByDate : MethodName := ⟨RX2, "readByDate", "([I)V"⟩
abbrev cX2_lacking : ByteArray := prog_4_method_11_code
def yX2_lacking : MethodName := ⟨RX2, "lacking", "(I)I"⟩
abbrev cX2_firstFailing : ByteArray := prog_4_method_12_code
def yX2_firstFailing : MethodName := ⟨RX2, "firstFailing", "()I"⟩
abbrev cX2_wellAmong : ByteArray := prog_4_method_13_code
def yX2_wellAmong : MethodName := ⟨RX2, "wellAmong", "(I)I"⟩
abbrev cX2_learntAmong : ByteArray := prog_4_method_14_code
def yX2_learntAmong : MethodName := ⟨RX2, "learntAmong", "(I)I"⟩
abbrev cX2_daysAheadOf : ByteArray := prog_4_method_15_code
def yX2_daysAheadOf : MethodName := ⟨RX2, "daysAheadOf", "(I)I"⟩
abbrev cX2_keepsTold : ByteArray := prog_4_method_16_code
def yX2_keepsTold : MethodName := ⟨RX2, "keepsTold", "(LShuffledDays$Life;)Z"⟩
abbrev cX2_fitsDiary : ByteArray := prog_4_method_17_code
def yX2_fitsDiary : MethodName := ⟨RX2, "fitsDiary", "([I)Z"⟩
def RX3 : String := "ShuffledDays$DreamDay"
def TX3 : u_T := fun k => match k with
  | _ => ("", "", "", false)
def tyX3 : Nat → FieldType := fun k => match k with
  | _ => .int
abbrev wsX30 : List Cond := u_ws RX3 TX3 0
theorem nmX3 : ∀ a, a < 0 → ∀ b, b < 0 → a ≠ b → (TX3 a).2.1 ≠ (TX3 b).2.1 := by decide +kernel
theorem tyX3_ok : ∀ k, k < 0 → parseFieldDescriptor (TX3 k).2.2.1 = some (tyX3 k) := by decide +kernel
abbrev cX3_init : ByteArray := prog_5_method_1_code
def yX3_init : MethodName := ⟨RX3, "<init>", "()V"⟩
abbrev cX3_canWrite : ByteArray := prog_5_method_2_code
def yX3_canWrite : MethodName := ⟨RX3, "canWrite", "()Z"⟩
abbrev cX3_neededOf : ByteArray := prog_5_method_3_code
def yX3_neededOf : MethodName := ⟨RX3, "neededOf", "(I)I"⟩
def RX4 : String := "ShuffledDays$IllDay"
def TX4 : u_T := fun k => match k with
  | _ => ("", "", "", false)
def tyX4 : Nat → FieldType := fun k => match k with
  | _ => .int
abbrev wsX40 : List Cond := u_ws RX4 TX4 0
theorem nmX4 : ∀ a, a < 0 → ∀ b, b < 0 → a ≠ b → (TX4 a).2.1 ≠ (TX4 b).2.1 := by decide +kernel
theorem tyX4_ok : ∀ k, k < 0 → parseFieldDescriptor (TX4 k).2.2.1 = some (tyX4 k) := by decide +kernel
abbrev cX4_init : ByteArray := prog_6_method_1_code
def yX4_init : MethodName := ⟨RX4, "<init>", "()V"⟩
abbrev cX4_learntOf : ByteArray := prog_6_method_2_code
def yX4_learntOf : MethodName := ⟨RX4, "learntOf", "(II)I"⟩
def RX5 : String := "ShuffledDays$Life"
def TX5 : u_T := fun k => match k with
  | 0 => ("ShuffledDays$Life", "days", "I", false)
  | 1 => ("ShuffledDays$Life", "notes", "I", false)
  | 2 => ("ShuffledDays$Life", "pairs", "I", false)
  | 3 => ("ShuffledDays$Life", "toldOrders", "I", false)
  | 4 => ("ShuffledDays$Life", "rank", "I", false)
  | 5 => ("ShuffledDays$Life", "otherRank", "I", false)
  | 6 => ("ShuffledDays$Life", "lived", "I", false)
  | 7 => ("ShuffledDays$Life", "kind", "[I", true)
  | 8 => ("ShuffledDays$Life", "needs", "[I", true)
  | 9 => ("ShuffledDays$Life", "teaches", "[I", true)
  | 10 => ("ShuffledDays$Life", "toldAt", "[I", true)
  | 11 => ("ShuffledDays$Life", "diary", "[I", true)
  | 12 => ("ShuffledDays$Life", "noteDay", "[I", true)
  | 13 => ("ShuffledDays$Life", "noteFact", "[I", true)
  | 14 => ("ShuffledDays$Life", "pairFirst", "[I", true)
  | 15 => ("ShuffledDays$Life", "pairSecond", "[I", true)
  | _ => ("ShuffledDays$Life", "toldRank", "[I", true)
def tyX5 : Nat → FieldType := fun k => match k with
  | 0 => .int
  | 1 => .int
  | 2 => .int
  | 3 => .int
  | 4 => .int
  | 5 => .int
  | 6 => .int
  | 7 => .array .int
  | 8 => .array .int
  | 9 => .array .int
  | 10 => .array .int
  | 11 => .array .int
  | 12 => .array .int
  | 13 => .array .int
  | 14 => .array .int
  | 15 => .array .int
  | _ => .array .int
abbrev wsX50 : List Cond := u_ws RX5 TX5 17
theorem nmX5 : ∀ a, a < 17 → ∀ b, b < 17 → a ≠ b → (TX5 a).2.1 ≠ (TX5 b).2.1 := by decide +kernel
theorem tyX5_ok : ∀ k, k < 17 → parseFieldDescriptor (TX5 k).2.2.1 = some (tyX5 k) := by decide +kernel
abbrev cX5_init : ByteArray := prog_7_method_1_code
def yX5_init : MethodName := ⟨RX5, "<init>", "()V"⟩
abbrev cX5_startAnew : ByteArray := prog_7_method_2_code
def yX5_startAnew : MethodName := ⟨RX5, "startAnew", "(I)V"⟩
abbrev cX5_copyFrom : ByteArray := prog_7_method_3_code
def yX5_copyFrom : MethodName := ⟨RX5, "copyFrom", "(LShuffledDays$Life;)V"⟩
abbrev cX5_hasDay : ByteArray := prog_7_method_4_code
def yX5_hasDay : MethodName := ⟨RX5, "hasDay", "(I)Z"⟩
abbrev cX5_orders : ByteArray := prog_7_method_5_code
def yX5_orders : MethodName := ⟨RX5, "orders", "()I"⟩
abbrev cX5_hasRank : ByteArray := prog_7_method_6_code
def yX5_hasRank : MethodName := ⟨RX5, "hasRank", "(I)Z"⟩
abbrev cX5_tellDays : ByteArray := prog_7_method_7_code
def yX5_tellDays : MethodName := ⟨RX5, "tellDays", "(I)I"⟩
abbrev cX5_tellKind : ByteArray := prog_7_method_8_code
def yX5_tellKind : MethodName := ⟨RX5, "tellKind", "(II)I"⟩
abbrev cX5_tellFact : ByteArray := prog_7_method_9_code
def yX5_tellFact : MethodName := ⟨RX5, "tellFact", "(IIIZ)I"⟩
abbrev cX5_tellNote : ByteArray := prog_7_method_10_code
def yX5_tellNote : MethodName := ⟨RX5, "tellNote", "(II)I"⟩
abbrev cX5_tellPair : ByteArray := prog_7_method_11_code
def yX5_tellPair : MethodName := ⟨RX5, "tellPair", "(II)I"⟩
abbrev cX5_tellPlace : ByteArray := prog_7_method_12_code
def yX5_tellPlace : MethodName := ⟨RX5, "tellPlace", "(II)I"⟩
abbrev cX5_tellDiary : ByteArray := prog_7_method_13_code
def yX5_tellDiary : MethodName := ⟨RX5, "tellDiary", "(II)I"⟩
abbrev cX5_tellOrder : ByteArray := prog_7_method_14_code
def yX5_tellOrder : MethodName := ⟨RX5, "tellOrder", "(I)I"⟩
abbrev cX5_tellOther : ByteArray := prog_7_method_15_code
def yX5_tellOther : MethodName := ⟨RX5, "tellOther", "(I)I"⟩
abbrev cX5_tellForNotes : ByteArray := prog_7_method_16_code
def yX5_tellForNotes : MethodName := ⟨RX5, "tellForNotes", "(I)I"⟩
abbrev cX5_tearOut : ByteArray := prog_7_method_17_code
def yX5_tearOut : MethodName := ⟨RX5, "tearOut", "(I)I"⟩
abbrev cX5_tellItem : ByteArray := prog_7_method_18_code
def yX5_tellItem : MethodName := ⟨RX5, "tellItem", "(I)I"⟩
abbrev cX5_notedOn : ByteArray := prog_7_method_19_code
def yX5_notedOn : MethodName := ⟨RX5, "notedOn", "(I)I"⟩
abbrev cX5_taughtBy : ByteArray := prog_7_method_20_code
def yX5_taughtBy : MethodName := ⟨RX5, "taughtBy", "(I)I"⟩
abbrev cX5_countOfRow : ByteArray := prog_7_method_21_code
def yX5_countOfRow : MethodName := ⟨RX5, "countOfRow", "(I)I"⟩
abbrev cX5_toldInDiary : ByteArray := prog_7_method_22_code
def yX5_toldInDiary : MethodName := ⟨RX5, "toldInDiary", "()I"⟩
abbrev cX5_digestOfDays : ByteArray := prog_7_method_23_code
def yX5_digestOfDays : MethodName := ⟨RX5, "digestOfDays", "(J)J"⟩
abbrev cX5_digestOfRows : ByteArray := prog_7_method_24_code
def yX5_digestOfRows : MethodName := ⟨RX5, "digestOfRows", "(J)J"⟩
def RX6 : String := "ShuffledDays$NoteSearch"
def TX6 : u_T := fun k => match k with
  | 0 => ("ShuffledDays$NoteSearch", "fewest", "I", false)
  | 1 => ("ShuffledDays$NoteSearch", "lesser", "I", false)
  | 2 => ("ShuffledDays$NoteSearch", "greater", "I", false)
  | 3 => ("ShuffledDays$NoteSearch", "rows", "I", false)
  | _ => ("ShuffledDays$NoteSearch", "learntBefore", "[[I", true)
def tyX6 : Nat → FieldType := fun k => match k with
  | 0 => .int
  | 1 => .int
  | 2 => .int
  | 3 => .int
  | _ => .array (.array .int)
abbrev wsX60 : List Cond := u_ws RX6 TX6 5
theorem nmX6 : ∀ a, a < 5 → ∀ b, b < 5 → a ≠ b → (TX6 a).2.1 ≠ (TX6 b).2.1 := by decide +kernel
theorem tyX6_ok : ∀ k, k < 5 → parseFieldDescriptor (TX6 k).2.2.1 = some (tyX6 k) := by decide +kernel
abbrev cX6_init : ByteArray := prog_8_method_1_code
def yX6_init : MethodName := ⟨RX6, "<init>", "()V"⟩
abbrev cX6_find : ByteArray := prog_8_method_2_code
def yX6_find : MethodName := ⟨RX6, "find", "(LShuffledDays$Life;LShuffledDays$Course;)V"⟩
abbrev cX6_keepRows : ByteArray := prog_8_method_3_code
def yX6_keepRows : MethodName := ⟨RX6, "keepRows", "(LShuffledDays$Life;LShuffledDays$Course;)V"⟩
abbrev cX6_allWell : ByteArray := prog_8_method_4_code
def yX6_allWell : MethodName := ⟨RX6, "allWell", "(LShuffledDays$Course;)Z"⟩
abbrev cX6_findOne : ByteArray := prog_8_method_5_code
def yX6_findOne : MethodName := ⟨RX6, "findOne", "(LShuffledDays$Course;)Z"⟩
abbrev cX6_findTwo : ByteArray := prog_8_method_6_code
def yX6_findTwo : MethodName := ⟨RX6, "findTwo", "(LShuffledDays$Course;)Z"⟩
abbrev cX6_wellWith : ByteArray := prog_8_method_7_code
def yX6_wellWith : MethodName := ⟨RX6, "wellWith", "(LShuffledDays$Course;II)Z"⟩
abbrev cX6_named : ByteArray := prog_8_method_8_code
def yX6_named : MethodName := ⟨RX6, "named", "(I)I"⟩
def RX7 : String := "ShuffledDays$PlainDay"
def TX7 : u_T := fun k => match k with
  | _ => ("", "", "", false)
def tyX7 : Nat → FieldType := fun k => match k with
  | _ => .int
abbrev wsX70 : List Cond := u_ws RX7 TX7 0
theorem nmX7 : ∀ a, a < 0 → ∀ b, b < 0 → a ≠ b → (TX7 a).2.1 ≠ (TX7 b).2.1 := by decide +kernel
theorem tyX7_ok : ∀ k, k < 0 → parseFieldDescriptor (TX7 k).2.2.1 = some (tyX7 k) := by decide +kernel
abbrev cX7_init : ByteArray := prog_9_method_1_code
def yX7_init : MethodName := ⟨RX7, "<init>", "()V"⟩
abbrev cX7_canRead : ByteArray := prog_9_method_2_code
def yX7_canRead : MethodName := ⟨RX7, "canRead", "()Z"⟩
abbrev cX7_canWrite : ByteArray := prog_9_method_3_code
def yX7_canWrite : MethodName := ⟨RX7, "canWrite", "()Z"⟩
abbrev cX7_learntOf : ByteArray := prog_9_method_4_code
def yX7_learntOf : MethodName := ⟨RX7, "learntOf", "(II)I"⟩
abbrev cX7_neededOf : ByteArray := prog_9_method_5_code
def yX7_neededOf : MethodName := ⟨RX7, "neededOf", "(I)I"⟩
def RX8 : String := "ShuffledDays$SchoolDay"
def TX8 : u_T := fun k => match k with
  | _ => ("", "", "", false)
def tyX8 : Nat → FieldType := fun k => match k with
  | _ => .int
abbrev wsX80 : List Cond := u_ws RX8 TX8 0
theorem nmX8 : ∀ a, a < 0 → ∀ b, b < 0 → a ≠ b → (TX8 a).2.1 ≠ (TX8 b).2.1 := by decide +kernel
theorem tyX8_ok : ∀ k, k < 0 → parseFieldDescriptor (TX8 k).2.2.1 = some (tyX8 k) := by decide +kernel
abbrev cX8_init : ByteArray := prog_10_method_1_code
def yX8_init : MethodName := ⟨RX8, "<init>", "()V"⟩
abbrev cX8_learntOf : ByteArray := prog_10_method_2_code
def yX8_learntOf : MethodName := ⟨RX8, "learntOf", "(II)I"⟩
def RX9 : String := "ShuffledDays$Text"
def TX9 : u_T := fun k => match k with
  | 0 => ("ShuffledDays$Text", "length", "I", false)
  | 1 => ("ShuffledDays$Text", "items", "I", false)
  | 2 => ("ShuffledDays$Text", "item", "[I", true)
  | 3 => ("ShuffledDays$Text", "bytes", "[B", true)
  | 4 => ("ShuffledDays$Text", "next", "I", false)
  | 5 => ("ShuffledDays$Text", "start", "I", false)
  | 6 => ("ShuffledDays$Text", "token", "I", false)
  | _ => ("ShuffledDays$Text", "figure", "I", false)
def tyX9 : Nat → FieldType := fun k => match k with
  | 0 => .int
  | 1 => .int
  | 2 => .array .int
  | 3 => .array .byte
  | 4 => .int
  | 5 => .int
  | 6 => .int
  | _ => .int
abbrev wsX90 : List Cond := u_ws RX9 TX9 8
theorem nmX9 : ∀ a, a < 8 → ∀ b, b < 8 → a ≠ b → (TX9 a).2.1 ≠ (TX9 b).2.1 := by decide +kernel
theorem tyX9_ok : ∀ k, k < 8 → parseFieldDescriptor (TX9 k).2.2.1 = some (tyX9 k) := by decide +kernel
abbrev cX9_init : ByteArray := prog_11_method_1_code
def yX9_init : MethodName := ⟨RX9, "<init>", "()V"⟩
abbrev cX9_take : ByteArray := prog_11_method_2_code
def yX9_take : MethodName := ⟨RX9, "take", "(I)I"⟩
abbrev cX9_findFault : ByteArray := prog_11_method_3_code
def yX9_findFault : MethodName := ⟨RX9, "findFault", "()I"⟩
abbrev cX9_takeItem : ByteArray := prog_11_method_4_code
def yX9_takeItem : MethodName := ⟨RX9, "takeItem", "()Z"⟩
abbrev cX9_nextToken : ByteArray := prog_11_method_5_code
def yX9_nextToken : MethodName := ⟨RX9, "nextToken", "()V"⟩
abbrev cX9_passLetters : ByteArray := prog_11_method_6_code
def yX9_passLetters : MethodName := ⟨RX9, "passLetters", "()V"⟩
abbrev cX9_passFigures : ByteArray := prog_11_method_7_code
def yX9_passFigures : MethodName := ⟨RX9, "passFigures", "()V"⟩
abbrev cX9_isLetter : ByteArray := prog_11_method_8_code
def yX9_isLetter : MethodName := ⟨RX9, "isLetter", "(I)Z"⟩
abbrev cX9_isFigure : ByteArray := prog_11_method_9_code
def yX9_isFigure : MethodName := ⟨RX9, "isFigure", "(I)Z"⟩
abbrev cX9_spells : ByteArray := prog_11_method_10_code
def yX9_spells : MethodName := ⟨RX9, "spells", "(Ljava/lang/String;)Z"⟩
abbrev cX9_word : ByteArray := prog_11_method_11_code
def yX9_word : MethodName := ⟨RX9, "word", "(I)Ljava/lang/String;"⟩
def RX10 : String := "ShuffledDays"
def TX10 : u_T := fun k => match k with
  | 0 => ("ShuffledDays", "kinds", "[LShuffledDays$PlainDay;", true)
  | 1 => ("ShuffledDays", "now", "LShuffledDays$Life;", true)
  | 2 => ("ShuffledDays", "spare", "LShuffledDays$Life;", true)
  | 3 => ("ShuffledDays", "images", "[LShuffledDays$Life;", true)
  | 4 => ("ShuffledDays", "kept", "[Z", true)
  | 5 => ("ShuffledDays", "text", "LShuffledDays$Text;", true)
  | 6 => ("ShuffledDays", "course", "LShuffledDays$Course;", true)
  | 7 => ("ShuffledDays", "search", "LShuffledDays$NoteSearch;", true)
  | 8 => ("ShuffledDays", "shared", "[I", true)
  | 9 => ("ShuffledDays", "leads", "[I", true)
  | 10 => ("ShuffledDays", "refusals", "[I", true)
  | 11 => ("ShuffledDays", "above", "J", false)
  | _ => ("ShuffledDays", "below", "J", false)
def tyX10 : Nat → FieldType := fun k => match k with
  | 0 => .array (.object "ShuffledDays$PlainDay")
  | 1 => .object "ShuffledDays$Life"
  | 2 => .object "ShuffledDays$Life"
  | 3 => .array (.object "ShuffledDays$Life")
  | 4 => .array .boolean
  | 5 => .object "ShuffledDays$Text"
  | 6 => .object "ShuffledDays$Course"
  | 7 => .object "ShuffledDays$NoteSearch"
  | 8 => .array .int
  | 9 => .array .int
  | 10 => .array .int
  | 11 => .long
  | _ => .long
abbrev wsX100 : List Cond := u_ws RX10 TX10 13
theorem nmX10 : ∀ a, a < 13 → ∀ b, b < 13 → a ≠ b → (TX10 a).2.1 ≠ (TX10 b).2.1 := by decide +kernel
theorem tyX10_ok : ∀ k, k < 13 → parseFieldDescriptor (TX10 k).2.2.1 = some (tyX10 k) := by decide +kernel
abbrev cX10_init : ByteArray := prog_1_method_1_code
def yX10_init : MethodName := ⟨RX10, "<init>", "()V"⟩
abbrev cX10_life : ByteArray := prog_1_method_2_code
def yX10_life : MethodName := ⟨RX10, "life", "(I)I"⟩
abbrev cX10_day : ByteArray := prog_1_method_3_code
def yX10_day : MethodName := ⟨RX10, "day", "(II)I"⟩
abbrev cX10_fact : ByteArray := prog_1_method_4_code
def yX10_fact : MethodName := ⟨RX10, "fact", "(IIIZ)I"⟩
abbrev cX10_note : ByteArray := prog_1_method_5_code
def yX10_note : MethodName := ⟨RX10, "note", "(II)I"⟩
abbrev cX10_ahead : ByteArray := prog_1_method_6_code
def yX10_ahead : MethodName := ⟨RX10, "ahead", "(II)I"⟩
abbrev cX10_at : ByteArray := prog_1_method_7_code
def yX10_at : MethodName := ⟨RX10, "at", "(II)I"⟩
abbrev cX10_tear : ByteArray := prog_1_method_8_code
def yX10_tear : MethodName := ⟨RX10, "tear", "(I)I"⟩
abbrev cX10_order : ByteArray := prog_1_method_9_code
def yX10_order : MethodName := ⟨RX10, "order", "(I)I"⟩
abbrev cX10_type : ByteArray := prog_1_method_10_code
def yX10_type : MethodName := ⟨RX10, "type", "(I)I"⟩
abbrev cX10_clear : ByteArray := prog_1_method_11_code
def yX10_clear : MethodName := ⟨RX10, "clear", "()I"⟩
abbrev cX10_read : ByteArray := prog_1_method_12_code
def yX10_read : MethodName := ⟨RX10, "read", "()I"⟩
abbrev cX10_lived : ByteArray := prog_1_method_13_code
def yX10_lived : MethodName := ⟨RX10, "lived", "(I)I"⟩
abbrev cX10_knows : ByteArray := prog_1_method_14_code
def yX10_knows : MethodName := ⟨RX10, "knows", "(I)I"⟩
abbrev cX10_reads : ByteArray := prog_1_method_15_code
def yX10_reads : MethodName := ⟨RX10, "reads", "(I)I"⟩
abbrev cX10_missing : ByteArray := prog_1_method_16_code
def yX10_missing : MethodName := ⟨RX10, "missing", "(I)I"⟩
abbrev cX10_first : ByteArray := prog_1_method_17_code
def yX10_first : MethodName := ⟨RX10, "first", "(I)I"⟩
abbrev cX10_cards : ByteArray := prog_1_method_18_code
def yX10_cards : MethodName := ⟨RX10, "cards", "(I)I"⟩
abbrev cX10_hang : ByteArray := prog_1_method_19_code
def yX10_hang : MethodName := ⟨RX10, "hang", "(I)I"⟩
abbrev cX10_must : ByteArray := prog_1_method_20_code
def yX10_must : MethodName := ⟨RX10, "must", "(I)I"⟩
abbrev cX10_told : ByteArray := prog_1_method_21_code
def yX10_told : MethodName := ⟨RX10, "told", "(I)I"⟩
abbrev cX10_notes : ByteArray := prog_1_method_22_code
def yX10_notes : MethodName := ⟨RX10, "notes", "(I)I"⟩
abbrev cX10_mean : ByteArray := prog_1_method_23_code
def yX10_mean : MethodName := ⟨RX10, "mean", "()I"⟩
abbrev cX10_best : ByteArray := prog_1_method_24_code
def yX10_best : MethodName := ⟨RX10, "best", "()I"⟩
abbrev cX10_when : ByteArray := prog_1_method_25_code
def yX10_when : MethodName := ⟨RX10, "when", "(II)I"⟩
abbrev cX10_diary : ByteArray := prog_1_method_26_code
def yX10_diary : MethodName := ⟨RX10, "diary", "(II)I"⟩
abbrev cX10_torn : ByteArray := prog_1_method_27_code
def yX10_torn : MethodName := ⟨RX10, "torn", "(I)I"⟩
abbrev cX10_promise : ByteArray := prog_1_method_28_code
def yX10_promise : MethodName := ⟨RX10, "promise", "(III)I"⟩
abbrev cX10_other : ByteArray := prog_1_method_29_code
def yX10_other : MethodName := ⟨RX10, "other", "(I)I"⟩
abbrev cX10_two : ByteArray := prog_1_method_30_code
def yX10_two : MethodName := ⟨RX10, "two", "(I)I"⟩
abbrev cX10_settle : ByteArray := prog_1_method_31_code
def yX10_settle : MethodName := ⟨RX10, "settle", "(II)I"⟩
abbrev cX10_game : ByteArray := prog_1_method_32_code
def yX10_game : MethodName := ⟨RX10, "game", "(I)I"⟩
abbrev cX10_live : ByteArray := prog_1_method_33_code
def yX10_live : MethodName := ⟨RX10, "live", "()I"⟩
abbrev cX10_undo : ByteArray := prog_1_method_34_code
def yX10_undo : MethodName := ⟨RX10, "undo", "()I"⟩
abbrev cX10_sofar : ByteArray := prog_1_method_35_code
def yX10_sofar : MethodName := ⟨RX10, "sofar", "(I)I"⟩
abbrev cX10_part : ByteArray := prog_1_method_36_code
def yX10_part : MethodName := ⟨RX10, "part", "(I)J"⟩
abbrev cX10_image : ByteArray := prog_1_method_37_code
def yX10_image : MethodName := ⟨RX10, "image", "(I)I"⟩
abbrev cX10_from : ByteArray := prog_1_method_38_code
def yX10_from : MethodName := ⟨RX10, "from", "(I)I"⟩
abbrev cX10_status : ByteArray := prog_1_method_39_code
def yX10_status : MethodName := ⟨RX10, "status", "(I)I"⟩
abbrev cX10_count : ByteArray := prog_1_method_40_code
def yX10_count : MethodName := ⟨RX10, "count", "(I)I"⟩
abbrev cX10_digest : ByteArray := prog_1_method_41_code
def yX10_digest : MethodName := ⟨RX10, "digest", "()J"⟩
abbrev cX10_counted : ByteArray := prog_1_method_42_code
def yX10_counted : MethodName := ⟨RX10, "counted", "(I)I"⟩
abbrev cX10_badAs : ByteArray := prog_1_method_43_code
def yX10_badAs : MethodName := ⟨RX10, "badAs", "(I)I"⟩
abbrev cX10_countOf : ByteArray := prog_1_method_44_code
def yX10_countOf : MethodName := ⟨RX10, "countOf", "(I)I"⟩
abbrev cX10_isFact : ByteArray := prog_1_method_45_code
def yX10_isFact : MethodName := ⟨RX10, "isFact", "(I)Z"⟩
abbrev cX10_follow : ByteArray := prog_1_method_46_code
def yX10_follow : MethodName := ⟨RX10, "follow", "(I)V"⟩
abbrev cX10_livesAsTold : ByteArray := prog_1_method_47_code
def yX10_livesAsTold : MethodName := ⟨RX10, "livesAsTold", "()Z"⟩
abbrev cX10_hangsTogether : ByteArray := prog_1_method_48_code
def yX10_hangsTogether : MethodName := ⟨RX10, "hangsTogether", "()Z"⟩
abbrev cX10_shareKnown : ByteArray := prog_1_method_49_code
def yX10_shareKnown : MethodName := ⟨RX10, "shareKnown", "()V"⟩
abbrev cX10_leadByNaming : ByteArray := prog_1_method_50_code
def yX10_leadByNaming : MethodName := ⟨RX10, "leadByNaming", "(II)I"⟩
abbrev cX10_bestNaming : ByteArray := prog_1_method_51_code
def yX10_bestNaming : MethodName := ⟨RX10, "bestNaming", "(I)I"⟩
abbrev cX10_setFraction : ByteArray := prog_1_method_52_code
def yX10_setFraction : MethodName := ⟨RX10, "setFraction", "(JJ)V"⟩
abbrev cX10_commonDivisor : ByteArray := prog_1_method_53_code
def yX10_commonDivisor : MethodName := ⟨RX10, "commonDivisor", "(JJ)J"⟩
def RX11 : String := "ShuffledDaysModel"
def TX11 : u_T := fun k => match k with
  | 0 => ("ShuffledDaysModel", "refused", "[I", true)
  | 1 => ("ShuffledDaysModel", "days", "I", false)
  | 2 => ("ShuffledDaysModel", "kinds", "[I", true)
  | 3 => ("ShuffledDaysModel", "needs", "[I", true)
  | 4 => ("ShuffledDaysModel", "teaches", "[I", true)
  | 5 => ("ShuffledDaysModel", "ats", "[I", true)
  | 6 => ("ShuffledDaysModel", "row", "[I", true)
  | 7 => ("ShuffledDaysModel", "notes", "I", false)
  | 8 => ("ShuffledDaysModel", "noteDays", "[I", true)
  | 9 => ("ShuffledDaysModel", "noteFacts", "[I", true)
  | 10 => ("ShuffledDaysModel", "pairs", "I", false)
  | 11 => ("ShuffledDaysModel", "firsts", "[I", true)
  | 12 => ("ShuffledDaysModel", "seconds", "[I", true)
  | 13 => ("ShuffledDaysModel", "tolds", "I", false)
  | 14 => ("ShuffledDaysModel", "told", "[I", true)
  | 15 => ("ShuffledDaysModel", "diary", "[I", true)
  | 16 => ("ShuffledDaysModel", "other", "I", false)
  | 17 => ("ShuffledDaysModel", "lived", "I", false)
  | 18 => ("ShuffledDaysModel", "ahead", "[I", true)
  | 19 => ("ShuffledDaysModel", "reads", "[I", true)
  | 20 => ("ShuffledDaysModel", "knows", "[I", true)
  | 21 => ("ShuffledDaysModel", "when", "[I", true)
  | 22 => ("ShuffledDaysModel", "well", "I", false)
  | 23 => ("ShuffledDaysModel", "tried", "[I", true)
  | 24 => ("ShuffledDaysModel", "above", "J", false)
  | 25 => ("ShuffledDaysModel", "below", "J", false)
  | 26 => ("ShuffledDaysModel", "hers", "[I", true)
  | 27 => ("ShuffledDaysModel", "games", "[I", true)
  | 28 => ("ShuffledDaysModel", "text", "[I", true)
  | 29 => ("ShuffledDaysModel", "bytes", "I", false)
  | 30 => ("ShuffledDaysModel", "place", "I", false)
  | 31 => ("ShuffledDaysModel", "begin", "I", false)
  | 32 => ("ShuffledDaysModel", "wrong", "Z", false)
  | 33 => ("ShuffledDaysModel", "items", "I", false)
  | 34 => ("ShuffledDaysModel", "read", "[I", true)
  | 35 => ("ShuffledDaysModel", "counted", "[I", true)
  | 36 => ("ShuffledDaysModel", "images", "[I", true)
  | 37 => ("ShuffledDaysModel", "aside", "[I", true)
  | _ => ("ShuffledDaysModel", "hash", "J", false)
def tyX11 : Nat → FieldType := fun k => match k with
  | 0 => .array .int
  | 1 => .int
  | 2 => .array .int
  | 3 => .array .int
  | 4 => .array .int
  | 5 => .array .int
  | 6 => .array .int
  | 7 => .int
  | 8 => .array .int
  | 9 => .array .int
  | 10 => .int
  | 11 => .array .int
  | 12 => .array .int
  | 13 => .int
  | 14 => .array .int
  | 15 => .array .int
  | 16 => .int
  | 17 => .int
  | 18 => .array .int
  | 19 => .array .int
  | 20 => .array .int
  | 21 => .array .int
  | 22 => .int
  | 23 => .array .int
  | 24 => .long
  | 25 => .long
  | 26 => .array .int
  | 27 => .array .int
  | 28 => .array .int
  | 29 => .int
  | 30 => .int
  | 31 => .int
  | 32 => .boolean
  | 33 => .int
  | 34 => .array .int
  | 35 => .array .int
  | 36 => .array .int
  | 37 => .array .int
  | _ => .long
abbrev wsX110 : List Cond := u_ws RX11 TX11 39
theorem nmX11 : ∀ a, a < 39 → ∀ b, b < 39 → a ≠ b → (TX11 a).2.1 ≠ (TX11 b).2.1 := by decide +kernel
theorem tyX11_ok : ∀ k, k < 39 → parseFieldDescriptor (TX11 k).2.2.1 = some (tyX11 k) := by decide +kernel
abbrev cX11_in : ByteArray := prog_13_method_2_code
def yX11_in : MethodName := ⟨RX11, "in", "(JJJ)Z"⟩
abbrev cX11_init : ByteArray := prog_13_method_3_code
def yX11_init : MethodName := ⟨RX11, "<init>", "()V"⟩
abbrev cX11_bad : ByteArray := prog_13_method_4_code
def yX11_bad : MethodName := ⟨RX11, "bad", "(I)I"⟩
abbrev cX11_no : ByteArray := prog_13_method_5_code
def yX11_no : MethodName := ⟨RX11, "no", "()I"⟩
abbrev cX11_full : ByteArray := prog_13_method_6_code
def yX11_full : MethodName := ⟨RX11, "full", "()I"⟩
abbrev cX11_isDay : ByteArray := prog_13_method_7_code
def yX11_isDay : MethodName := ⟨RX11, "isDay", "(I)Z"⟩
abbrev cX11_isFact : ByteArray := prog_13_method_8_code
def yX11_isFact : MethodName := ⟨RX11, "isFact", "(I)Z"⟩
abbrev cX11_begins : ByteArray := prog_13_method_9_code
def yX11_begins : MethodName := ⟨RX11, "begins", "(I)V"⟩
abbrev cX11_life : ByteArray := prog_13_method_10_code
def yX11_life : MethodName := ⟨RX11, "life", "(I)I"⟩
abbrev cX11_day : ByteArray := prog_13_method_11_code
def yX11_day : MethodName := ⟨RX11, "day", "(II)I"⟩
abbrev cX11_fact : ByteArray := prog_13_method_12_code
def yX11_fact : MethodName := ⟨RX11, "fact", "(IIIZ)I"⟩
abbrev cX11_isNote : ByteArray := prog_13_method_13_code
def yX11_isNote : MethodName := ⟨RX11, "isNote", "(II)Z"⟩
abbrev cX11_note : ByteArray := prog_13_method_14_code
def yX11_note : MethodName := ⟨RX11, "note", "(II)I"⟩
abbrev cX11_ahead : ByteArray := prog_13_method_15_code
def yX11_ahead : MethodName := ⟨RX11, "ahead", "(II)I"⟩
abbrev cX11_at : ByteArray := prog_13_method_16_code
def yX11_at : MethodName := ⟨RX11, "at", "(II)I"⟩
abbrev cX11_diaries : ByteArray := prog_13_method_17_code
def yX11_diaries : MethodName := ⟨RX11, "diaries", "()I"⟩
abbrev cX11_tear : ByteArray := prog_13_method_18_code
def yX11_tear : MethodName := ⟨RX11, "tear", "(I)I"⟩
abbrev cX11_orders : ByteArray := prog_13_method_19_code
def yX11_orders : MethodName := ⟨RX11, "orders", "()I"⟩
abbrev cX11_starts : ByteArray := prog_13_method_20_code
def yX11_starts : MethodName := ⟨RX11, "starts", "([I)V"⟩
abbrev cX11_turns : ByteArray := prog_13_method_21_code
def yX11_turns : MethodName := ⟨RX11, "turns", "([I)V"⟩
abbrev cX11_rankOf : ByteArray := prog_13_method_22_code
def yX11_rankOf : MethodName := ⟨RX11, "rankOf", "([I)I"⟩
abbrev cX11_rowOf : ByteArray := prog_13_method_23_code
def yX11_rowOf : MethodName := ⟨RX11, "rowOf", "(I[I)V"⟩
abbrev cX11_isRank : ByteArray := prog_13_method_24_code
def yX11_isRank : MethodName := ⟨RX11, "isRank", "(I)Z"⟩
abbrev cX11_order : ByteArray := prog_13_method_25_code
def yX11_order : MethodName := ⟨RX11, "order", "(I)I"⟩
abbrev cX11_learns : ByteArray := prog_13_method_26_code
def yX11_learns : MethodName := ⟨RX11, "learns", "(I)I"⟩
abbrev cX11_asks : ByteArray := prog_13_method_27_code
def yX11_asks : MethodName := ⟨RX11, "asks", "(I)I"⟩
abbrev cX11_lives : ByteArray := prog_13_method_28_code
def yX11_lives : MethodName := ⟨RX11, "lives", "([I)V"⟩
abbrev cX11_lived : ByteArray := prog_13_method_29_code
def yX11_lived : MethodName := ⟨RX11, "lived", "(I)I"⟩
abbrev cX11_knows : ByteArray := prog_13_method_30_code
def yX11_knows : MethodName := ⟨RX11, "knows", "(I)I"⟩
abbrev cX11_reads : ByteArray := prog_13_method_31_code
def yX11_reads : MethodName := ⟨RX11, "reads", "(I)I"⟩
abbrev cX11_missing : ByteArray := prog_13_method_32_code
def yX11_missing : MethodName := ⟨RX11, "missing", "(I)I"⟩
abbrev cX11_first : ByteArray := prog_13_method_33_code
def yX11_first : MethodName := ⟨RX11, "first", "(I)I"⟩
abbrev cX11_cards : ByteArray := prog_13_method_34_code
def yX11_cards : MethodName := ⟨RX11, "cards", "(I)I"⟩
abbrev cX11_isTold : ByteArray := prog_13_method_35_code
def yX11_isTold : MethodName := ⟨RX11, "isTold", "()Z"⟩
abbrev cX11_doesHang : ByteArray := prog_13_method_36_code
def yX11_doesHang : MethodName := ⟨RX11, "doesHang", "()Z"⟩
abbrev cX11_hang : ByteArray := prog_13_method_37_code
def yX11_hang : MethodName := ⟨RX11, "hang", "(I)I"⟩
abbrev cX11_must : ByteArray := prog_13_method_38_code
def yX11_must : MethodName := ⟨RX11, "must", "(I)I"⟩
abbrev cX11_told : ByteArray := prog_13_method_39_code
def yX11_told : MethodName := ⟨RX11, "told", "(I)I"⟩
abbrev cX11_areWell : ByteArray := prog_13_method_40_code
def yX11_areWell : MethodName := ⟨RX11, "areWell", "()Z"⟩
abbrev cX11_adds : ByteArray := prog_13_method_41_code
def yX11_adds : MethodName := ⟨RX11, "adds", "(I)Z"⟩
abbrev cX11_fewest : ByteArray := prog_13_method_42_code
def yX11_fewest : MethodName := ⟨RX11, "fewest", "()I"⟩
abbrev cX11_notes : ByteArray := prog_13_method_43_code
def yX11_notes : MethodName := ⟨RX11, "notes", "(I)I"⟩
abbrev cX11_tells : ByteArray := prog_13_method_44_code
def yX11_tells : MethodName := ⟨RX11, "tells", "(JJ)V"⟩
abbrev cX11_mean : ByteArray := prog_13_method_45_code
def yX11_mean : MethodName := ⟨RX11, "mean", "()I"⟩
abbrev cX11_best : ByteArray := prog_13_method_46_code
def yX11_best : MethodName := ⟨RX11, "best", "()I"⟩
abbrev cX11_when : ByteArray := prog_13_method_47_code
def yX11_when : MethodName := ⟨RX11, "when", "(II)I"⟩
abbrev cX11_diary : ByteArray := prog_13_method_48_code
def yX11_diary : MethodName := ⟨RX11, "diary", "(II)I"⟩
abbrev cX11_torn : ByteArray := prog_13_method_49_code
def yX11_torn : MethodName := ⟨RX11, "torn", "(I)I"⟩
abbrev cX11_promise : ByteArray := prog_13_method_50_code
def yX11_promise : MethodName := ⟨RX11, "promise", "(III)I"⟩
abbrev cX11_other : ByteArray := prog_13_method_51_code
def yX11_other : MethodName := ⟨RX11, "other", "(I)I"⟩
abbrev cX11_both : ByteArray := prog_13_method_52_code
def yX11_both : MethodName := ⟨RX11, "both", "()V"⟩
abbrev cX11_two : ByteArray := prog_13_method_53_code
def yX11_two : MethodName := ⟨RX11, "two", "(I)I"⟩
abbrev cX11_settle : ByteArray := prog_13_method_54_code
def yX11_settle : MethodName := ⟨RX11, "settle", "(II)I"⟩
abbrev cX11_size : ByteArray := prog_13_method_55_code
def yX11_size : MethodName := ⟨RX11, "size", "(I)I"⟩
abbrev cX11_named : ByteArray := prog_13_method_56_code
def yX11_named : MethodName := ⟨RX11, "named", "(II)I"⟩
abbrev cX11_game : ByteArray := prog_13_method_57_code
def yX11_game : MethodName := ⟨RX11, "game", "(I)I"⟩
abbrev cX11_live : ByteArray := prog_13_method_58_code
def yX11_live : MethodName := ⟨RX11, "live", "()I"⟩
abbrev cX11_undo : ByteArray := prog_13_method_59_code
def yX11_undo : MethodName := ⟨RX11, "undo", "()I"⟩
abbrev cX11_sofar : ByteArray := prog_13_method_60_code
def yX11_sofar : MethodName := ⟨RX11, "sofar", "(I)I"⟩
abbrev cX11_type : ByteArray := prog_13_method_61_code
def yX11_type : MethodName := ⟨RX11, "type", "(I)I"⟩
abbrev cX11_clear : ByteArray := prog_13_method_62_code
def yX11_clear : MethodName := ⟨RX11, "clear", "()I"⟩
abbrev cX11_skips : ByteArray := prog_13_method_63_code
def yX11_skips : MethodName := ⟨RX11, "skips", "()V"⟩
abbrev cX11_word : ByteArray := prog_13_method_64_code
def yX11_word : MethodName := ⟨RX11, "word", "()I"⟩
abbrev cX11_isFigure : ByteArray := prog_13_method_65_code
def yX11_isFigure : MethodName := ⟨RX11, "isFigure", "(I)Z"⟩
abbrev cX11_figure : ByteArray := prog_13_method_66_code
def yX11_figure : MethodName := ⟨RX11, "figure", "()I"⟩
abbrev cX11_readItem : ByteArray := prog_13_method_67_code
def yX11_readItem : MethodName := ⟨RX11, "readItem", "()V"⟩
abbrev cX11_does : ByteArray := prog_13_method_68_code
def yX11_does : MethodName := ⟨RX11, "does", "(I)Z"⟩
abbrev cX11_read : ByteArray := prog_13_method_69_code
def yX11_read : MethodName := ⟨RX11, "read", "()I"⟩
abbrev cX11_lay : ByteArray := prog_13_method_70_code
def yX11_lay : MethodName := ⟨RX11, "lay", "([III)I"⟩
abbrev cX11_gives : ByteArray := prog_13_method_71_code
def yX11_gives : MethodName := ⟨RX11, "gives", "(I[II)I"⟩
abbrev cX11_keeps : ByteArray := prog_13_method_72_code
def yX11_keeps : MethodName := ⟨RX11, "keeps", "(I)V"⟩
abbrev cX11_toldAside : ByteArray := prog_13_method_73_code
def yX11_toldAside : MethodName := ⟨RX11, "toldAside", "(IZ)V"⟩
abbrev cX11_goesOn : ByteArray := prog_13_method_74_code
def yX11_goesOn : MethodName := ⟨RX11, "goesOn", "(I)V"⟩
abbrev cX11_image : ByteArray := prog_13_method_75_code
def yX11_image : MethodName := ⟨RX11, "image", "(I)I"⟩
abbrev cX11_from : ByteArray := prog_13_method_76_code
def yX11_from : MethodName := ⟨RX11, "from", "(I)I"⟩
abbrev cX11_part : ByteArray := prog_13_method_77_code
def yX11_part : MethodName := ⟨RX11, "part", "(I)J"⟩
abbrev cX11_status : ByteArray := prog_13_method_78_code
def yX11_status : MethodName := ⟨RX11, "status", "(I)I"⟩
abbrev cX11_counts : ByteArray := prog_13_method_79_code
def yX11_counts : MethodName := ⟨RX11, "counts", "(I)I"⟩
abbrev cX11_count : ByteArray := prog_13_method_80_code
def yX11_count : MethodName := ⟨RX11, "count", "(I)I"⟩
abbrev cX11_hashes : ByteArray := prog_13_method_81_code
def yX11_hashes : MethodName := ⟨RX11, "hashes", "(J)V"⟩
abbrev cX11_digest : ByteArray := prog_13_method_82_code
def yX11_digest : MethodName := ⟨RX11, "digest", "()J"⟩
def RJ6 : String := "java/lang/Integer"
def TJ6 : u_T := fun k => match k with
  | _ => ("", "", "", false)
def tyJ6 : Nat → FieldType := fun k => match k with
  | _ => .int
abbrev wsJ60 : List Cond := u_ws RJ6 TJ6 0
theorem nmJ6 : ∀ a, a < 0 → ∀ b, b < 0 → a ≠ b → (TJ6 a).2.1 ≠ (TJ6 b).2.1 := by decide +kernel
theorem tyJ6_ok : ∀ k, k < 0 → parseFieldDescriptor (TJ6 k).2.2.1 = some (tyJ6 k) := by decide +kernel
abbrev cJ6_bitCount_0f7a4 : ByteArray := prog_14_method_49_code
def yJ6_bitCount_0f7a4 : MethodName := ⟨RJ6, "bitCount", "(I)I"⟩
def RJ0 : String := "java/lang/String"
def TJ0 : u_T := fun k => match k with
  | _ => ("", "", "", false)
def tyJ0 : Nat → FieldType := fun k => match k with
  | _ => .int
abbrev wsJ00 : List Cond := u_ws RJ0 TJ0 0
theorem nmJ0 : ∀ a, a < 0 → ∀ b, b < 0 → a ≠ b → (TJ0 a).2.1 ≠ (TJ0 b).2.1 := by decide +kernel
theorem tyJ0_ok : ∀ k, k < 0 → parseFieldDescriptor (TJ0 k).2.2.1 = some (tyJ0 k) := by decide +kernel
abbrev cJ0_length_8abf5 : ByteArray := prog_15_method_54_code
def yJ0_length_8abf5 : MethodName := ⟨RJ0, "length", "()I"⟩
abbrev cJ0_charAt_5068e : ByteArray := prog_15_method_56_code
def yJ0_charAt_5068e : MethodName := ⟨RJ0, "charAt", "(I)C"⟩
abbrev cJ0_coder_7d493 : ByteArray := prog_15_method_152_code
def yJ0_coder_7d493 : MethodName := ⟨RJ0, "coder", "()B"⟩
abbrev cJ0_isLatin1_aae02 : ByteArray := prog_15_method_154_code
def yJ0_isLatin1_aae02 : MethodName := ⟨RJ0, "isLatin1", "()Z"⟩
abbrev cJ0_checkIndex_df160 : ByteArray := prog_15_method_155_code
def yJ0_checkIndex_df160 : MethodName := ⟨RJ0, "checkIndex", "(II)V"⟩
def RJ1 : String := "java/lang/StringLatin1"
def TJ1 : u_T := fun k => match k with
  | _ => ("", "", "", false)
def tyJ1 : Nat → FieldType := fun k => match k with
  | _ => .int
abbrev wsJ10 : List Cond := u_ws RJ1 TJ1 0
theorem nmJ1 : ∀ a, a < 0 → ∀ b, b < 0 → a ≠ b → (TJ1 a).2.1 ≠ (TJ1 b).2.1 := by decide +kernel
theorem tyJ1_ok : ∀ k, k < 0 → parseFieldDescriptor (TJ1 k).2.2.1 = some (tyJ1 k) := by decide +kernel
abbrev cJ1_charAt_3b067 : ByteArray := prog_16_method_2_code
def yJ1_charAt_3b067 : MethodName := ⟨RJ1, "charAt", "([BI)C"⟩
def RJ2 : String := "java/lang/StringUTF16"
def TJ2 : u_T := fun k => match k with
  | _ => ("", "", "", false)
def tyJ2 : Nat → FieldType := fun k => match k with
  | _ => .int
abbrev wsJ20 : List Cond := u_ws RJ2 TJ2 0
theorem nmJ2 : ∀ a, a < 0 → ∀ b, b < 0 → a ≠ b → (TJ2 a).2.1 ≠ (TJ2 b).2.1 := by decide +kernel
theorem tyJ2_ok : ∀ k, k < 0 → parseFieldDescriptor (TJ2 k).2.2.1 = some (tyJ2 k) := by decide +kernel
abbrev cJ2_getChar_3b067 : ByteArray := prog_17_method_5_code
def yJ2_getChar_3b067 : MethodName := ⟨RJ2, "getChar", "([BI)C"⟩
abbrev cJ2_length_9d52b : ByteArray := prog_17_method_6_code
def yJ2_length_9d52b : MethodName := ⟨RJ2, "length", "([B)I"⟩
abbrev cJ2_charAt_3b067 : ByteArray := prog_17_method_83_code
def yJ2_charAt_3b067 : MethodName := ⟨RJ2, "charAt", "([BI)C"⟩
abbrev cJ2_checkIndex_2214a : ByteArray := prog_17_method_91_code
def yJ2_checkIndex_2214a : MethodName := ⟨RJ2, "checkIndex", "(I[B)V"⟩
def RJ10 : String := "java/lang/System"
def TJ10 : u_T := fun k => match k with
  | _ => ("", "", "", false)
def tyJ10 : Nat → FieldType := fun k => match k with
  | _ => .int
abbrev wsJ100 : List Cond := u_ws RJ10 TJ10 0
theorem nmJ10 : ∀ a, a < 0 → ∀ b, b < 0 → a ≠ b → (TJ10 a).2.1 ≠ (TJ10 b).2.1 := by decide +kernel
theorem tyJ10_ok : ∀ k, k < 0 → parseFieldDescriptor (TJ10 k).2.2.1 = some (tyJ10 k) := by decide +kernel
def RJ3 : String := "jdk/internal/util/Preconditions"
def TJ3 : u_T := fun k => match k with
  | _ => ("", "", "", false)
def tyJ3 : Nat → FieldType := fun k => match k with
  | _ => .int
abbrev wsJ30 : List Cond := u_ws RJ3 TJ3 0
theorem nmJ3 : ∀ a, a < 0 → ∀ b, b < 0 → a ≠ b → (TJ3 a).2.1 ≠ (TJ3 b).2.1 := by decide +kernel
theorem tyJ3_ok : ∀ k, k < 0 → parseFieldDescriptor (TJ3 k).2.2.1 = some (tyJ3 k) := by decide +kernel
abbrev cJ3_checkIndex_8e157 : ByteArray := prog_19_method_11_code
def yJ3_checkIndex_8e157 : MethodName := ⟨RJ3, "checkIndex", "(IILjava/util/function/BiFunction;)I"⟩
def RL : String := "ShuffledDaysLaw"
abbrev cL_law : ByteArray := code
def yL_law : MethodName := ⟨RL, "law", "([I)Z"⟩
abbrev vwCl : List vw_C := [(RX0, TX0, 0), (RX1, TX1, 0), (RX2, TX2, 11), (RX3, TX3, 0), (RX4, TX4, 0), (RX5, TX5, 17), (RX6, TX6, 5), (RX7, TX7, 0), (RX8, TX8, 0), (RX9, TX9, 8), (RX10, TX10, 13), (RX11, TX11, 39)]
end
section
/-! ===== the foundation: one judgement for a method's body over a fixed shape of the heap ===== -/
/-- ints and longs by cell and place -/
abbrev fdI : Type := Nat → Nat → Int32
abbrev fdL : Type := Nat → Nat → Int64
/-- a cell's shape: an object (class, what each field is: 0 int, 1 long, k + 2 the cell k), a row of numbers (type, length), a row of cells (type, which) -/
abbrev fdE : Type := (Nat × List Nat) ⊕ ((Nat × Nat) ⊕ (Nat × List Nat))
/-- a method: its bytes, its locals, its class, its return type, how deep it calls -/
abbrev fdM : Type := ByteArray × Nat × String × Option FieldType × Nat
abbrev fd_tys (dA : Nat → ClassId) : List (ClassId × FieldType) := [(dA 0, .int), (dA 1, .boolean), (dA 2, .byte), (dA 3, .object "ShuffledDays$PlainDay"), (dA 4, .object "ShuffledDays$Life"), (dA 5, .array .int)]
def fd_fv (α : Nat → Nat) (I : fdI) (L : fdL) (k j : Nat) (kd : Nat) : Value := match kd with
  | 0 => .int (I k j)
  | 1 => .long (L k j)
  | n + 2 => .ref (α n)
def fd_en (α : Nat → Nat) (dA : Nat → ClassId) (I : fdI) (L : fdL) (k : Nat) (e : fdE) : va_E := match e with
  | .inl (ci, ks) => .inr (ci, ks.mapIdx (fun j kd => fd_fv α I L k j kd))
  | .inr (.inl (t, n)) => .inl (dA t, n, .inl (I k))
  | .inr (.inr (t, rs)) => .inl (dA t, rs.length, .inr (.inr (.inr (.inr (fun j => (rs[j]?).map α)))))
def fd_ws (S : List fdE) (α : Nat → Nat) (dA : Nat → ClassId) (I : fdI) (L : fdL) : va_W := S.mapIdx (fun k e => (α k, fd_en α dA I L k e))
def fd_up {β : Type} (I : Nat → Nat → β) (k j : Nat) (v : β) : Nat → Nat → β := fun a b => if a = k then (if b = j then v else I a b) else I a b
/-- a whole row anew -/
def fd_row {β : Type} (I : Nat → Nat → β) (k : Nat) (f : Nat → β) : Nat → Nat → β := fun a => if a = k then f else I a
theorem fd_up_same {β : Type} {I : Nat → Nat → β} {k j : Nat} {v : β} : fd_up I k j v k j = v := by simp [fd_up]
theorem fd_up_cell {β : Type} {I : Nat → Nat → β} {k j a : Nat} {v : β} (h : a ≠ k) : fd_up I k j v a = I a := by funext b; simp [fd_up, h]
theorem fd_up_ne {β : Type} {I : Nat → Nat → β} {k j a b : Nat} {v : β} (h : a ≠ k) : fd_up I k j v a b = I a b := by simp [fd_up, h]
theorem fd_up_pl {β : Type} {I : Nat → Nat → β} {k j b : Nat} {v : β} (h : b ≠ j) : fd_up I k j v k b = I k b := by simp [fd_up, h]
theorem fd_up_at {β : Type} {I : Nat → Nat → β} {k j b : Nat} {v : β} : fd_up I k j v k b = if b = j then v else I k b := by simp [fd_up]
theorem fd_row_same {β : Type} {I : Nat → Nat → β} {k : Nat} {f : Nat → β} : fd_row I k f k = f := by simp [fd_row]
theorem fd_row_ne {β : Type} {I : Nat → Nat → β} {k a : Nat} {f : Nat → β} (h : a ≠ k) : fd_row I k f a = I a := by simp [fd_row, h]
theorem fd_get (S : List fdE) (α : Nat → Nat) (dA : Nat → ClassId) (I : fdI) (L : fdL) {k : Nat} {e : fdE} (h : S[k]? = some e) : (fd_ws S α dA I L)[k]? = some (α k, fd_en α dA I L k e) := by
  unfold fd_ws
  rw [List.getElem?_mapIdx, h]
  rfl
theorem fd_en_eq {α : Nat → Nat} {dA : Nat → ClassId} {I I' : fdI} {L L' : fdL} {k : Nat} {e : fdE} (h : I' k = I k) (h2 : L' k = L k) : fd_en α dA I' L' k e = fd_en α dA I L k e := by
  match e with
  | .inl (ci, ks) =>
    show (Sum.inr (ci, _) : va_E) = .inr (ci, _)
    congr 3
    funext j kd
    match kd with
    | 0 => show Value.int _ = Value.int _; rw [h]
    | 1 => show Value.long _ = Value.long _; rw [h2]
    | n + 2 => rfl
  | .inr (.inl (t, n)) => show (Sum.inl (dA t, n, .inl (I' k)) : va_E) = _; rw [h]; rfl
  | .inr (.inr (t, rs)) => rfl
theorem fd_ws_set {S : List fdE} {α : Nat → Nat} {dA : Nat → ClassId} {I I' : fdI} {L L' : fdL} {k : Nat} {e : fdE} {x : va_E} (h : S[k]? = some e) (hI : ∀ a, a ≠ k → I' a = I a) (hL : ∀ a, a ≠ k → L' a = L a) (hx : x = fd_en α dA I' L' k e) : (fd_ws S α dA I L).set k (α k, x) = fd_ws S α dA I' L' := by
  apply List.ext_getElem?
  intro i
  rw [List.getElem?_set]
  have hk : k < S.length := (List.getElem?_eq_some_iff.mp h).1
  by_cases hi : k = i
  · subst hi
    have hl : k < (fd_ws S α dA I L).length := by simpa [fd_ws] using hk
    rw [if_pos rfl, if_pos hl, fd_get S α dA I' L' h, hx]
  · rw [if_neg hi]
    unfold fd_ws
    rw [List.getElem?_mapIdx, List.getElem?_mapIdx]
    cases S[i]? with
    | none => rfl
    | some e => simp only [Option.map_some]; rw [fd_en_eq (hI i (fun q => hi q.symm)) (hL i (fun q => hi q.symm))]
theorem fd_wsI {S : List fdE} {α : Nat → Nat} {dA : Nat → ClassId} {I : fdI} {L : fdL} {k ci j : Nat} {ks : List Nat} {v : Int32} (h : S[k]? = some (.inl (ci, ks))) (hj : ks[j]? = some 0) : (fd_ws S α dA I L).set k (α k, .inr (ci, (ks.mapIdx (fun j kd => fd_fv α I L k j kd)).set j (.int v))) = fd_ws S α dA (fd_up I k j v) L := by
  refine fd_ws_set h (fun a ha => fd_up_cell ha) (fun _ _ => rfl) ?_
  show (Sum.inr (ci, _) : va_E) = .inr (ci, _)
  congr 2
  apply List.ext_getElem?
  intro i
  rw [List.getElem?_set, List.getElem?_mapIdx, List.getElem?_mapIdx]
  have hk : j < ks.length := (List.getElem?_eq_some_iff.mp hj).1
  by_cases hi : j = i
  · subst hi
    rw [if_pos rfl, if_pos (by simpa using hk), hj]
    show some (Value.int v) = some (Value.int _)
    rw [fd_up_same]
  · rw [if_neg hi]
    cases ks[i]? with
    | none => rfl
    | some kd =>
      show some (fd_fv α I L k i kd) = some (fd_fv α _ L k i kd)
      match kd with
      | 0 => show some (Value.int _) = some (Value.int _); rw [fd_up_pl (fun q => hi q.symm)]
      | 1 => rfl
      | n + 2 => rfl
theorem fd_wsJ {S : List fdE} {α : Nat → Nat} {dA : Nat → ClassId} {I : fdI} {L : fdL} {k ci j : Nat} {ks : List Nat} {v : Int64} (h : S[k]? = some (.inl (ci, ks))) (hj : ks[j]? = some 1) : (fd_ws S α dA I L).set k (α k, .inr (ci, (ks.mapIdx (fun j kd => fd_fv α I L k j kd)).set j (.long v))) = fd_ws S α dA I (fd_up L k j v) := by
  refine fd_ws_set h (fun _ _ => rfl) (fun a ha => fd_up_cell ha) ?_
  show (Sum.inr (ci, _) : va_E) = .inr (ci, _)
  congr 2
  apply List.ext_getElem?
  intro i
  rw [List.getElem?_set, List.getElem?_mapIdx, List.getElem?_mapIdx]
  have hk : j < ks.length := (List.getElem?_eq_some_iff.mp hj).1
  by_cases hi : j = i
  · subst hi
    rw [if_pos rfl, if_pos (by simpa using hk), hj]
    show some (Value.long v) = some (Value.long _)
    rw [fd_up_same]
  · rw [if_neg hi]
    cases ks[i]? with
    | none => rfl
    | some kd =>
      show some (fd_fv α I L k i kd) = some (fd_fv α I _ k i kd)
      match kd with
      | 0 => rfl
      | 1 => show some (Value.long _) = some (Value.long _); rw [fd_up_pl (fun q => hi q.symm)]
      | n + 2 => rfl
theorem fd_wsA {S : List fdE} {α : Nat → Nat} {dA : Nat → ClassId} {I : fdI} {L : fdL} {k t n j : Nat} {v : Int32} (h : S[k]? = some (.inr (.inl (t, n)))) : (fd_ws S α dA I L).set k (α k, .inl (dA t, n, .inl (upd (I k) j v))) = fd_ws S α dA (fd_up I k j v) L := by
  refine fd_ws_set h (fun a ha => fd_up_cell ha) (fun _ _ => rfl) ?_
  show (Sum.inl (dA t, n, .inl _) : va_E) = .inl (dA t, n, .inl _)
  congr 4
  funext b
  simp [fd_up, upd]
theorem fd_wsR {S : List fdE} {α : Nat → Nat} {dA : Nat → ClassId} {I : fdI} {L : fdL} {k t n : Nat} {f : Nat → Int32} (h : S[k]? = some (.inr (.inl (t, n)))) : (fd_ws S α dA I L).set k (α k, .inl (dA t, n, .inl f)) = fd_ws S α dA (fd_row I k f) L := by
  refine fd_ws_set h (fun a ha => fd_row_ne ha) (fun _ _ => rfl) ?_
  show (Sum.inl (dA t, n, .inl _) : va_E) = .inl (dA t, n, .inl _)
  rw [fd_row_same]
theorem fd_wsP {S : List fdE} {α : Nat → Nat} {dA : Nat → ClassId} {I I' : fdI} {L L' : fdL} {k : Nat} {q : Nat × va_E} (h : (fd_ws S α dA I L)[k]? = some q) : ∃ e', (fd_ws S α dA I' L')[k]? = some (q.1, e') := by
  unfold fd_ws at h ⊢
  rw [List.getElem?_mapIdx] at h ⊢
  cases hs : S[k]? with
  | none => rw [hs] at h; cases h
  | some e => rw [hs] at h; cases h; exact ⟨_, rfl⟩
theorem fd_D {S : List fdE} {α : Nat → Nat} {dA : Nat → ClassId} {I I' : fdI} {L L' : fdL} {A : Nat → Prop} (h : va_D A (fd_ws S α dA I L)) : va_D A (fd_ws S α dA I' L') := by
  refine ⟨fun i j p q hi hj e => ?_, fun k q hk => ?_⟩
  · obtain ⟨e1, h1⟩ := fd_wsP (I' := I) (L' := L) hi
    obtain ⟨e2, h2⟩ := fd_wsP (I' := I) (L' := L) hj
    exact h.1 i j _ _ h1 h2 e
  · obtain ⟨e1, h1⟩ := fd_wsP (I' := I) (L' := L) hk
    have h2 := h.2 k (q.1, e1) h1
    exact h2
theorem fd_A {S : List fdE} {α : Nat → Nat} {dA : Nat → ClassId} {I I' : fdI} {L L' : fdL} {sz q : Nat} (h : va_A (fd_ws S α dA I L) sz q) : va_A (fd_ws S α dA I' L') sz q := by
  rcases h with ⟨k, e, hk⟩ | h
  · obtain ⟨e1, h1⟩ := fd_wsP (I' := I') (L' := L') hk
    exact Or.inl ⟨k, e1, h1⟩
  · exact Or.inr h
/-- the words of every method: all of the tables that last -/
def fd_tb : List Cond := lw_tbl.filter goodWord
theorem fd_in {w : Cond} (i : Nat) (h : lw_tbl[i]? = some w) (hg : goodWord w = true) : w ∈ fd_tb := List.mem_filter.mpr ⟨List.mem_of_getElem? h, hg⟩
theorem fd_good {w : Cond} (h : w ∈ fd_tb) : goodWord w = true := (List.mem_filter.mp h).2
theorem fd_goodIn : GoodIn fd_tb fd_tb := fun w h => ⟨h, good_of_word (fd_good h)⟩
def fd_rm (d : Nat) : Room := { frames := d, cells := 0, slots := 0, locals := 36 * d }

def fd_facts : List Int32 := [1, 1, 2, 6, 24, 120, 720, 5040]
def fd_words : List String := ["life", "day", "needs", "teaches", "note", "ahead", "at"]
def fd_len : List Nat := [4, 3, 5, 7, 4, 5, 2]
def fd_byt : List (List Int32) := [[108, 105, 102, 101], [100, 97, 121], [110, 101, 101, 100, 115], [116, 101, 97, 99, 104, 101, 115], [110, 111, 116, 101], [97, 104, 101, 97, 100], [97, 116]]
def fd_nest : List Cond := [.methodLinkNest RX5 86 ⟨RX10, "isFact", "(I)Z"⟩ RX10, .fieldLinkNest RX5 74 RX10 "ORDERS_OF" "[I" RX10, .fieldLinkNest RX2 83 RX10 "ORDERS_OF" "[I" RX10]
/-- what stays as it is: the row ORDERS_OF, the seven words, what the JDK's classes hold, the links between nest mates -/
def fd_PF (α : Nat → Nat) (A : Nat → Prop) (U : State) (H : Heap) : Prop :=
  va_Z RX10 "ORDERS_OF" "[I" (.ref (α 1000)) A U H ∧ va_T .int (α 1000) 8 (fun j => .int (fd_facts.getD j 0)) A U H ∧
  vk_S 7 fd_len fd_byt (fun i => α (1001 + i)) (fun i => α (1011 + i)) A U H ∧
  (∀ i, i < 7 → vk_R RX9 (75 + 2 * i) (fd_words.getD i "") (α (1001 + i)) U) ∧
  va_Z "java/lang/String" "COMPACT_STRINGS" "Z" (.int 1) A U H ∧ va_Zq "jdk/internal/util/Preconditions" "SIOOBE_FORMATTER" "Ljava/util/function/BiFunction;" A U H ∧
  ∀ w ∈ fd_nest, va_Nw w U
theorem fd_PF.at {α : Nat → Nat} {A B : Nat → Prop} {s U : State} {H : Heap} (h : fd_PF α A s s.heap) (hW : s.WarmedH U.vm) (hq : ∀ a : Nat, a < s.heap.size → ¬ A a → H[a]? = s.heap[a]?) (hAB : ∀ q, B q → A q) : fd_PF α B U H := by
  obtain ⟨h1, h2, h3, h4, h5, h6, h7⟩ := h
  refine ⟨((h1.moved hW.alike).kept hq).narrow hAB, ((h2.moved hW.alike).kept hq).narrow hAB, ((h3.moved hW.alike).kept hq).narrow hAB, fun i hi => (h4 i hi).warm hW, ((h5.moved hW.alike).kept hq).narrow hAB, ((h6.moved hW.alike).kept hq).narrow hAB, ?_⟩
  intro w hw
  have h := h7 w hw
  simp only [fd_nest, List.mem_cons, List.not_mem_nil, or_false] at hw
  rcases hw with rfl | rfl | rfl
  · exact va_Nw.warmM hW h
  · exact va_Nw.warmF hW h
  · exact va_Nw.warmF hW h
theorem fd_PF.vm {α : Nat → Nat} {A : Nat → Prop} {u U : State} {H : Heap} (h : fd_PF α A u H) (hv : U.vm = u.vm) : fd_PF α A U H := by
  obtain ⟨h1, h2, h3, h4, h5, h6, h7⟩ := h
  have ha : u.vm.Alike U.vm := by rw [hv]; exact Vm.Alike.refl u.vm
  refine ⟨h1.moved ha, h2.moved ha, h3.moved ha, fun i hi => (h4 i hi).same hv, h5.moved ha, h6.moved ha, ?_⟩
  intro w hw
  have h := h7 w hw
  simp only [fd_nest, List.mem_cons, List.not_mem_nil, or_false] at hw
  rcases hw with rfl | rfl | rfl <;> exact va_Nw.same rfl hv.symm h
/-- what a method's frame stands on -/
def fd_Fix (S : List fdE) (α : Nat → Nat) (y : fdM) (p : Program) (s : State) (m : MethodId) (args : Array Value) (meth : Method) (c : Code) (A : Nat → Prop) (dC : Nat → ClassId) (dI : Nat → Nat → Nat) (dA : Nat → ClassId) : Prop :=
  p.tables.exec = Jvm.exec ∧ c.code = y.1 ∧ c.maxLocals = y.2.1 ∧ s.vm.findClass y.2.2.1 = some m.cls ∧ meth.sig.returnType = y.2.2.2.1 ∧ meth.locks = false ∧ (∀ w ∈ fd_tb, w.before args s = true) ∧ va_K (dC, dI) vwCl (fd_tys dA) s ∧ (∀ I L, va_D A (fd_ws S α dA I L)) ∧ fd_PF α A s s.heap ∧ (∀ q, s.heap.size ≤ q → A q)
def fd_Q (S : List fdE) (α : Nat → Nat) (dC : Nat → ClassId) (dI : Nat → Nat → Nat) (dA : Nat → ClassId) (A : Nat → Prop) (Q : Option Value → fdI → fdL → Prop) : Array Value → State → Outcome → State → Prop := fun _ st oc t =>
  (∃ (rv : Option Value) (I' : fdI) (L' : fdL), oc = .returned rv ∧ Q rv I' L' ∧ va_P (dC, dI) vwCl (fd_ws S α dA I' L') t.heap) ∧ va_F A st t
/-- THE JUDGEMENT: at this place of the method, with these locals and this stack, the cells as I and L say, it comes to its end, and Q holds of its answer and of the cells then -/
def Rn (S : List fdE) (α : Nat → Nat) (y : fdM) (pc : Nat) (lv : List (Nat × Value)) (st : List Value) (I : fdI) (L : fdL) (Q : Option Value → fdI → fdL → Prop) : Prop :=
  ∀ (p : Program) (l : Launch) (e : Env) (s : State) (m : MethodId) (args : Array Value) (below : List Frame) (meth : Method) (c : Code) (A : Nat → Prop) (dC : Nat → ClassId) (dI : Nat → Nat → Nat) (dA : Nat → ClassId), fd_Fix S α y p s m args meth c A dC dI dA →
  ∀ (H : Heap) (locs : List Loc) (ls : Array Slot), va_P (dC, dI) vwCl (fd_ws S α dA I L) H → va_S A s.heap H locs → lv_has ls y.2.1 lv →
  W p l e (fd_rm y.2.2.2.2) s m args below meth c H locs 0 0 (MQ below (fd_Q S α dC dI dA A Q) args s 0 0 A) (F0 m pc ls st)
/-- a method's contract -/
def Con (S : List fdE) (α : Nat → Nat) (y : MethodName) (mi : fdM) (av : List Value) (I : fdI) (L : fdL) (Q : Option Value → fdI → fdL → Prop) : Prop :=
  ∀ (l : Launch) (dC : Nat → ClassId) (dI : Nat → Nat → Nat) (dA : Nat → ClassId) (sz : Nat), Met l y (.code y mi.1 mi.2.1 mi.2.2.2.1 :: fd_tb) (fd_rm mi.2.2.2.2)
    (va_Pc av (fun U => U.heap.size = sz ∧ va_P (dC, dI) vwCl (fd_ws S α dA I L) U.heap ∧ va_K (dC, dI) vwCl (fd_tys dA) U ∧ va_D (fun _ => True) (fd_ws S α dA I L) ∧ fd_PF α (va_A (fd_ws S α dA I L) sz) U U.heap))
    (fd_Q S α dC dI dA (va_A (fd_ws S α dA I L) sz) Q) 0 0 (va_A (fd_ws S α dA I L) sz)
theorem Con.of {S : List fdE} {α : Nat → Nat} {y : MethodName} {mi : fdM} {av : List Value} {I : fdI} {L : fdL} {Q : Option Value → fdI → fdL → Prop} (hy : plainName y.cls = true) (hc : mi.2.2.1 = y.cls) (hn : (lg_sl av).length ≤ mi.2.1) (h : Rn S α mi 0 (lv_args 0 av) [] I L Q) : Con S α y mi av I L Q := by
  intro l dC dI dA sz
  refine Met.ofW (cc := mi.1) (maxL := mi.2.1) (ret := mi.2.2.2.1) hy rfl ?_
  intro p e s m args below meth c s₁ B hml hv
  obtain ⟨rfl, hsz, hP, hK, hD0, hPF⟩ := hv
  have hts := atoms_spec (ws := .code y mi.1 mi.2.1 mi.2.2.2.1 :: fd_tb) B.pre
  have hown : s.vm.findClass y.cls = some m.cls := findClass_of_methodNamed B.named
  subst hsz
  have hD := hD0.self (sz := s.heap.size)
  have hl := lv_entry av (n := mi.2.1) hn
  rw [lg_entry_eq]
  exact h p l e s m _ below meth c (va_A (fd_ws S α dA I L) s.heap.size) dC dI dA ⟨B.exec, B.bytes, hml, by rw [hc]; exact hown, B.returns, B.notSynchronized, fun w hw => hts w (List.mem_cons_of_mem _ hw), hK, fun I' L' => fd_D hD, hPF, fun q hq => Or.inr hq⟩ s.heap [] _ hP va_S.rf hl
theorem Con.weaken {S : List fdE} {α : Nat → Nat} {y : MethodName} {mi : fdM} {av : List Value} {I : fdI} {L : fdL} {Q Q' : Option Value → fdI → fdL → Prop} (h : Con S α y mi av I L Q) (hQ : ∀ rv I' L', Q rv I' L' → Q' rv I' L') : Con S α y mi av I L Q' := by
  intro l dC dI dA sz
  have k := h l dC dI dA sz
  intro p e ha hc hk s m args below hf happ hP hK
  obtain ⟨t, o, h1, h2, h3, ⟨⟨rv, I', L', q1, q2, q3⟩, q4⟩, q5⟩ := k p e ha hc hk s m args below hf happ hP hK
  exact ⟨t, o, h1, h2, h3, ⟨⟨rv, I', L', q1, hQ _ _ _ q2, q3⟩, q4⟩, q5⟩
/-- locals: what is listed for one, the list without it -/
def fd_lk : List (Nat × Value) → Nat → Option Value
  | [], _ => none
  | (j, v) :: t, i => cond (Nat.beq j i) (some v) (fd_lk t i)
theorem fd_lk_at {ls : Array Slot} {nL : Nat} {lv : List (Nat × Value)} (h : lv_has ls nL lv) {i : Nat} {v : Value} (hk : fd_lk lv i = some v) : ls[i]? = some (.val v) := by
  have : ∀ lv : List (Nat × Value), fd_lk lv i = some v → (i, v) ∈ lv := by
    intro lv
    induction lv with
    | nil => intro q; cases q
    | cons a t ih =>
      obtain ⟨j, w⟩ := a
      intro q
      unfold fd_lk at q
      cases hb : Nat.beq j i with
      | true =>
        rw [hb] at q
        cases q
        rw [Nat.eq_of_beq_eq_true hb]
        exact List.mem_cons_self
      | false =>
        rw [hb] at q
        exact List.mem_cons_of_mem _ (ih q)
  exact h.2.2 (i, v) (this lv hk)
def fd_pk (lv : List (Nat × Value)) : List Nat → List (Nat × Value)
  | [] => []
  | i :: is => match fd_lk lv i with
    | some v => (i, v) :: fd_pk lv is
    | none => fd_pk lv is
theorem fd_pk_has {ls : Array Slot} {nL : Nat} {lv : List (Nat × Value)} (h : lv_has ls nL lv) (ks : List Nat) : lv_has ls nL (fd_pk lv ks) := by
  refine ⟨h.1, h.2.1, ?_⟩
  induction ks with
  | nil => intro q hq; cases hq
  | cons i is ih =>
    intro q hq
    unfold fd_pk at hq
    cases hk : fd_lk lv i with
    | none => rw [hk] at hq; exact ih q hq
    | some v =>
      rw [hk] at hq
      rcases List.mem_cons.mp hq with e | hq
      · subst e; exact fd_lk_at h hk
      · exact ih q hq
abbrev fd_s1 (lv : List (Nat × Value)) (i : Nat) (v : Value) : List (Nat × Value) := (i, v) :: lv.filter (fun q => !(q.1 == i) && !(q.1 + 1 == i && q.2.category == 2))
abbrev fd_s2 (lv : List (Nat × Value)) (i : Nat) (v : Value) : List (Nat × Value) := (i, v) :: lv.filter (fun q => !(q.1 == i) && (!(q.1 == i + 1) && !(q.1 + 1 == i && q.2.category == 2)))
section FDR
variable {S : List fdE} {α : Nat → Nat} {y : fdM} {pc : Nat} {lv lv' : List (Nat × Value)} {st : List Value} {I I' : fdI} {L L' : fdL} {Q : Option Value → fdI → fdL → Prop}
theorem r_keep (ks : List Nat) (hl : fd_pk lv ks = lv') (K : Rn S α y pc lv' st I L Q) : Rn S α y pc lv st I L Q := by
  subst hl
  intro p l e s m args below meth c A dC dI dA F H locs ls hP hS hl
  exact K p l e s m args below meth c A dC dI dA F H locs ls hP hS (fd_pk_has hl ks)
theorem r_eq {st' : List Value} (K : Rn S α y pc lv' st' I' L' Q) (h1 : lv = lv') (h2 : st = st') (h3 : I = I') (h4 : L = L') : Rn S α y pc lv st I L Q := by
  subst h1; subst h2; subst h3; subst h4; exact K
theorem r_post {Q' : Option Value → fdI → fdL → Prop} (K : Rn S α y pc lv st I L Q') (h : ∀ rv I' L', Q' rv I' L' → Q rv I' L') : Rn S α y pc lv st I L Q := by
  intro p l e s m args below meth c A dC dI dA F H locs ls hP hS hl T hT X
  obtain ⟨t, a, o, b1, b2, ⟨⟨rv, J, M, c1, c2, c3⟩, c4⟩, b4⟩ := K p l e s m args below meth c A dC dI dA F H locs ls hP hS hl T hT X
  exact ⟨t, a, o, b1, b2, ⟨⟨rv, J, M, c1, h _ _ _ c2, c3⟩, c4⟩, b4⟩
theorem r_iload_n {k : Fin 4} {x : Int32} (hdg : decode y.1 pc = .ok (.iload_n k, 1)) (hk : fd_lk lv k.val = some (.int x)) (K : Rn S α y (pc + 1) lv (.int x :: st) I L Q) : Rn S α y pc lv (st) I L Q := by
  intro p l e s m args below meth c A dC dI dA F H locs ls hP hS hl
  exact lv_iload_n F.1 F.2.1 hdg rfl (fd_lk_at hl hk) (K p l e s m args below meth c A dC dI dA F H locs ls hP hS hl)
theorem r_iload {i : Nat} {x : Int32} (hdg : decode y.1 pc = .ok (.iload i, 2)) (hk : fd_lk lv i = some (.int x)) (K : Rn S α y (pc + 2) lv (.int x :: st) I L Q) : Rn S α y pc lv (st) I L Q := by
  intro p l e s m args below meth c A dC dI dA F H locs ls hP hS hl
  exact lv_iload F.1 F.2.1 hdg (fd_lk_at hl hk) (K p l e s m args below meth c A dC dI dA F H locs ls hP hS hl)
theorem r_lload_n {k : Fin 4} {x : Int64} (hdg : decode y.1 pc = .ok (.lload_n k, 1)) (hk : fd_lk lv k.val = some (.long x)) (K : Rn S α y (pc + 1) lv (.long x :: st) I L Q) : Rn S α y pc lv (st) I L Q := by
  intro p l e s m args below meth c A dC dI dA F H locs ls hP hS hl
  exact lv_lload_n F.1 F.2.1 hdg rfl (fd_lk_at hl hk) (K p l e s m args below meth c A dC dI dA F H locs ls hP hS hl)
theorem r_lload {i : Nat} {x : Int64} (hdg : decode y.1 pc = .ok (.lload i, 2)) (hk : fd_lk lv i = some (.long x)) (K : Rn S α y (pc + 2) lv (.long x :: st) I L Q) : Rn S α y pc lv (st) I L Q := by
  intro p l e s m args below meth c A dC dI dA F H locs ls hP hS hl
  exact lv_lload F.1 F.2.1 hdg (fd_lk_at hl hk) (K p l e s m args below meth c A dC dI dA F H locs ls hP hS hl)
theorem r_aload_n {k : Fin 4} {x : Nat} (hdg : decode y.1 pc = .ok (.aload_n k, 1)) (hk : fd_lk lv k.val = some (.ref x)) (K : Rn S α y (pc + 1) lv (.ref x :: st) I L Q) : Rn S α y pc lv (st) I L Q := by
  intro p l e s m args below meth c A dC dI dA F H locs ls hP hS hl
  exact lv_aload_n F.1 F.2.1 hdg rfl (fd_lk_at hl hk) (K p l e s m args below meth c A dC dI dA F H locs ls hP hS hl)
theorem r_aload {i : Nat} {x : Nat} (hdg : decode y.1 pc = .ok (.aload i, 2)) (hk : fd_lk lv i = some (.ref x)) (K : Rn S α y (pc + 2) lv (.ref x :: st) I L Q) : Rn S α y pc lv (st) I L Q := by
  intro p l e s m args below meth c A dC dI dA F H locs ls hP hS hl
  exact lv_aload F.1 F.2.1 hdg (fd_lk_at hl hk) (K p l e s m args below meth c A dC dI dA F H locs ls hP hS hl)
theorem r_istore_n {k : Fin 4} {x : Int32} (hdg : decode y.1 pc = .ok (.istore_n k, 1)) (hn : k.val < y.2.1) (hl' : fd_s1 lv k.val (.int x) = lv') (K : Rn S α y (pc + 1) lv' (st) I L Q) : Rn S α y pc lv (.int x :: st) I L Q := by
  intro p l e s m args below meth c A dC dI dA F H locs ls hP hS hl
  exact lv_istore_n F.1 F.2.1 hdg rfl hl hn hl' (fun ls hl => K p l e s m args below meth c A dC dI dA F H locs ls hP hS hl)
theorem r_istore {i : Nat} {x : Int32} (hdg : decode y.1 pc = .ok (.istore i, 2)) (hn : i < y.2.1) (hl' : fd_s1 lv i (.int x) = lv') (K : Rn S α y (pc + 2) lv' (st) I L Q) : Rn S α y pc lv (.int x :: st) I L Q := by
  intro p l e s m args below meth c A dC dI dA F H locs ls hP hS hl
  exact lv_istore F.1 F.2.1 hdg hl hn hl' (fun ls hl => K p l e s m args below meth c A dC dI dA F H locs ls hP hS hl)
theorem r_lstore_n {k : Fin 4} {x : Int64} (hdg : decode y.1 pc = .ok (.lstore_n k, 1)) (hn : k.val + 1 < y.2.1) (hl' : fd_s2 lv k.val (.long x) = lv') (K : Rn S α y (pc + 1) lv' (st) I L Q) : Rn S α y pc lv (.long x :: st) I L Q := by
  intro p l e s m args below meth c A dC dI dA F H locs ls hP hS hl
  exact lv_lstore_n F.1 F.2.1 hdg rfl hl hn hl' (fun ls hl => K p l e s m args below meth c A dC dI dA F H locs ls hP hS hl)
theorem r_lstore {i : Nat} {x : Int64} (hdg : decode y.1 pc = .ok (.lstore i, 2)) (hn : i + 1 < y.2.1) (hl' : fd_s2 lv i (.long x) = lv') (K : Rn S α y (pc + 2) lv' (st) I L Q) : Rn S α y pc lv (.long x :: st) I L Q := by
  intro p l e s m args below meth c A dC dI dA F H locs ls hP hS hl
  exact lv_lstore F.1 F.2.1 hdg hl hn hl' (fun ls hl => K p l e s m args below meth c A dC dI dA F H locs ls hP hS hl)
theorem r_astore_n {k : Fin 4} {x : Nat} (hdg : decode y.1 pc = .ok (.astore_n k, 1)) (hn : k.val < y.2.1) (hl' : fd_s1 lv k.val (.ref x) = lv') (K : Rn S α y (pc + 1) lv' (st) I L Q) : Rn S α y pc lv (.ref x :: st) I L Q := by
  intro p l e s m args below meth c A dC dI dA F H locs ls hP hS hl
  exact lv_astore_n F.1 F.2.1 hdg rfl hl hn hl' (fun ls hl => K p l e s m args below meth c A dC dI dA F H locs ls hP hS hl)
theorem r_astore {i : Nat} {x : Nat} (hdg : decode y.1 pc = .ok (.astore i, 2)) (hn : i < y.2.1) (hl' : fd_s1 lv i (.ref x) = lv') (K : Rn S α y (pc + 2) lv' (st) I L Q) : Rn S α y pc lv (.ref x :: st) I L Q := by
  intro p l e s m args below meth c A dC dI dA F H locs ls hP hS hl
  exact lv_astore F.1 F.2.1 hdg hl hn hl' (fun ls hl => K p l e s m args below meth c A dC dI dA F H locs ls hP hS hl)
theorem fd_lk_pl {lv : List (Nat × Value)} {i : Nat} {v : Value} (hk : fd_lk lv i = some v) : ∃ k : Nat, lv[k]? = some (i, v) := by
  induction lv with
  | nil => cases hk
  | cons a t ih =>
    obtain ⟨j, w⟩ := a
    unfold fd_lk at hk
    cases hb : Nat.beq j i with
    | true =>
      rw [hb] at hk
      cases hk
      rw [Nat.eq_of_beq_eq_true hb]
      exact ⟨0, rfl⟩
    | false =>
      rw [hb] at hk
      obtain ⟨k, h⟩ := ih hk
      exact ⟨k + 1, h⟩
theorem r_iinc {i : Nat} {n : Int} {x v : Int32} (hdg : decode y.1 pc = .ok (.iinc i n, 3)) (hk : fd_lk lv i = some (.int x)) (hv : x + Int32.ofInt n = v) (hn : i < y.2.1) (hl' : fd_s1 lv i (.int v) = lv') (K : Rn S α y (pc + 3) lv' (st) I L Q) : Rn S α y pc lv (st) I L Q := by
  intro p l e s m args below meth c A dC dI dA F H locs ls hP hS hl
  obtain ⟨k, hk2⟩ := fd_lk_pl hk
  exact lv_iinc F.1 F.2.1 hdg hl hk2 hv hn hl' (fun ls hl => K p l e s m args below meth c A dC dI dA F H locs ls hP hS hl)
theorem r_iconst {n : Int} {v : Int32} (hdg : decode y.1 pc = .ok (.iconst n, 1)) (hv : Int32.ofInt n = v) (K : Rn S α y (pc + 1) lv (.int v :: st) I L Q) : Rn S α y pc lv (st) I L Q := by
  intro p l e s m args below meth c A dC dI dA F H locs ls hP hS hl
  exact lv_iconst F.1 F.2.1 hdg hv (K p l e s m args below meth c A dC dI dA F H locs ls hP hS hl)
theorem r_bipush {n : Int} {v : Int32} (hdg : decode y.1 pc = .ok (.bipush n, 2)) (hv : (Int8.ofInt n).toInt32 = v) (K : Rn S α y (pc + 2) lv (.int v :: st) I L Q) : Rn S α y pc lv (st) I L Q := by
  intro p l e s m args below meth c A dC dI dA F H locs ls hP hS hl
  exact lv_bipush F.1 F.2.1 hdg hv (K p l e s m args below meth c A dC dI dA F H locs ls hP hS hl)
theorem r_sipush {n : Int} {v : Int32} (hdg : decode y.1 pc = .ok (.sipush n, 3)) (hv : (Int16.ofInt n).toInt32 = v) (K : Rn S α y (pc + 3) lv (.int v :: st) I L Q) : Rn S α y pc lv (st) I L Q := by
  intro p l e s m args below meth c A dC dI dA F H locs ls hP hS hl
  exact lv_sipush F.1 F.2.1 hdg hv (K p l e s m args below meth c A dC dI dA F H locs ls hP hS hl)
theorem r_lconst {n : Fin 2} {v : Int64} (hdg : decode y.1 pc = .ok (.lconst n, 1)) (hv : Int64.ofNat (n : Nat) = v) (K : Rn S α y (pc + 1) lv (.long v :: st) I L Q) : Rn S α y pc lv (st) I L Q := by
  intro p l e s m args below meth c A dC dI dA F H locs ls hP hS hl
  exact lv_lconst F.1 F.2.1 hdg hv (K p l e s m args below meth c A dC dI dA F H locs ls hP hS hl)
theorem r_ldc2 {index : Nat} {v : Int64} (hw : Cond.constantLong y.2.2.1 index v ∈ fd_tb) (hdg : decode y.1 pc = .ok (.ldc2_w index, 3)) (K : Rn S α y (pc + 3) lv (.long v :: st) I L Q) : Rn S α y pc lv (st) I L Q := by
  intro p l e s m args below meth c A dC dI dA F H locs ls hP hS hl
  exact lv_ldc2 F.1 F.2.1 F.2.2.2.1 (F.2.2.2.2.2.2.1 _ hw) hdg (K p l e s m args below meth c A dC dI dA F H locs ls hP hS hl)
theorem r_iadd {x z : Int32} (hdg : decode y.1 pc = .ok (.iadd, 1)) (K : Rn S α y (pc + 1) lv (.int (x + z) :: st) I L Q) : Rn S α y pc lv (.int z :: .int x :: st) I L Q := by
  intro p l e s m args below meth c A dC dI dA F H locs ls hP hS hl
  exact lv_iadd F.1 F.2.1 hdg (K p l e s m args below meth c A dC dI dA F H locs ls hP hS hl)
theorem r_isub {x z : Int32} (hdg : decode y.1 pc = .ok (.isub, 1)) (K : Rn S α y (pc + 1) lv (.int (x - z) :: st) I L Q) : Rn S α y pc lv (.int z :: .int x :: st) I L Q := by
  intro p l e s m args below meth c A dC dI dA F H locs ls hP hS hl
  exact lv_isub F.1 F.2.1 hdg (K p l e s m args below meth c A dC dI dA F H locs ls hP hS hl)
theorem r_imul {x z : Int32} (hdg : decode y.1 pc = .ok (.imul, 1)) (K : Rn S α y (pc + 1) lv (.int (x * z) :: st) I L Q) : Rn S α y pc lv (.int z :: .int x :: st) I L Q := by
  intro p l e s m args below meth c A dC dI dA F H locs ls hP hS hl
  exact lv_imul F.1 F.2.1 hdg (K p l e s m args below meth c A dC dI dA F H locs ls hP hS hl)
theorem r_iand {x z : Int32} (hdg : decode y.1 pc = .ok (.iand, 1)) (K : Rn S α y (pc + 1) lv (.int (x &&& z) :: st) I L Q) : Rn S α y pc lv (.int z :: .int x :: st) I L Q := by
  intro p l e s m args below meth c A dC dI dA F H locs ls hP hS hl
  exact lv_iand F.1 F.2.1 hdg (K p l e s m args below meth c A dC dI dA F H locs ls hP hS hl)
theorem r_ior {x z : Int32} (hdg : decode y.1 pc = .ok (.ior, 1)) (K : Rn S α y (pc + 1) lv (.int (x ||| z) :: st) I L Q) : Rn S α y pc lv (.int z :: .int x :: st) I L Q := by
  intro p l e s m args below meth c A dC dI dA F H locs ls hP hS hl
  exact lv_ior F.1 F.2.1 hdg (K p l e s m args below meth c A dC dI dA F H locs ls hP hS hl)
theorem r_ixor {x z : Int32} (hdg : decode y.1 pc = .ok (.ixor, 1)) (K : Rn S α y (pc + 1) lv (.int (x ^^^ z) :: st) I L Q) : Rn S α y pc lv (.int z :: .int x :: st) I L Q := by
  intro p l e s m args below meth c A dC dI dA F H locs ls hP hS hl
  exact lv_ixor F.1 F.2.1 hdg (K p l e s m args below meth c A dC dI dA F H locs ls hP hS hl)
theorem r_ishl {x z : Int32} (hdg : decode y.1 pc = .ok (.ishl, 1)) (K : Rn S α y (pc + 1) lv (.int (x <<< (z &&& 31)) :: st) I L Q) : Rn S α y pc lv (.int z :: .int x :: st) I L Q := by
  intro p l e s m args below meth c A dC dI dA F H locs ls hP hS hl
  exact lv_ishl F.1 F.2.1 hdg (K p l e s m args below meth c A dC dI dA F H locs ls hP hS hl)
theorem r_ishr {x z : Int32} (hdg : decode y.1 pc = .ok (.ishr, 1)) (K : Rn S α y (pc + 1) lv (.int (x >>> (z &&& 31)) :: st) I L Q) : Rn S α y pc lv (.int z :: .int x :: st) I L Q := by
  intro p l e s m args below meth c A dC dI dA F H locs ls hP hS hl
  exact lv_ishr F.1 F.2.1 hdg (K p l e s m args below meth c A dC dI dA F H locs ls hP hS hl)
theorem r_idiv {x z : Int32} (hdg : decode y.1 pc = .ok (.idiv, 1)) (hne : ¬ z = 0) (K : Rn S α y (pc + 1) lv (.int (x / z) :: st) I L Q) : Rn S α y pc lv (.int z :: .int x :: st) I L Q := by
  intro p l e s m args below meth c A dC dI dA F H locs ls hP hS hl
  exact lv_idiv F.1 F.2.1 hdg hne (K p l e s m args below meth c A dC dI dA F H locs ls hP hS hl)
theorem r_irem {x z : Int32} (hdg : decode y.1 pc = .ok (.irem, 1)) (hne : ¬ z = 0) (K : Rn S α y (pc + 1) lv (.int (x - x / z * z) :: st) I L Q) : Rn S α y pc lv (.int z :: .int x :: st) I L Q := by
  intro p l e s m args below meth c A dC dI dA F H locs ls hP hS hl
  exact lv_irem F.1 F.2.1 hdg hne (K p l e s m args below meth c A dC dI dA F H locs ls hP hS hl)
theorem r_ladd {x z : Int64} (hdg : decode y.1 pc = .ok (.ladd, 1)) (K : Rn S α y (pc + 1) lv (.long (x + z) :: st) I L Q) : Rn S α y pc lv (.long z :: .long x :: st) I L Q := by
  intro p l e s m args below meth c A dC dI dA F H locs ls hP hS hl
  exact lv_ladd F.1 F.2.1 hdg (K p l e s m args below meth c A dC dI dA F H locs ls hP hS hl)
theorem r_lmul {x z : Int64} (hdg : decode y.1 pc = .ok (.lmul, 1)) (K : Rn S α y (pc + 1) lv (.long (x * z) :: st) I L Q) : Rn S α y pc lv (.long z :: .long x :: st) I L Q := by
  intro p l e s m args below meth c A dC dI dA F H locs ls hP hS hl
  exact lv_lmul F.1 F.2.1 hdg (K p l e s m args below meth c A dC dI dA F H locs ls hP hS hl)
theorem r_ldiv {x z : Int64} (hdg : decode y.1 pc = .ok (.ldiv, 1)) (hne : ¬ z = 0) (K : Rn S α y (pc + 1) lv (.long (x / z) :: st) I L Q) : Rn S α y pc lv (.long z :: .long x :: st) I L Q := by
  intro p l e s m args below meth c A dC dI dA F H locs ls hP hS hl
  exact lv_ldiv F.1 F.2.1 hdg hne (K p l e s m args below meth c A dC dI dA F H locs ls hP hS hl)
theorem r_lrem {x z : Int64} (hdg : decode y.1 pc = .ok (.lrem, 1)) (hne : ¬ z = 0) (K : Rn S α y (pc + 1) lv (.long (x - x / z * z) :: st) I L Q) : Rn S α y pc lv (.long z :: .long x :: st) I L Q := by
  intro p l e s m args below meth c A dC dI dA F H locs ls hP hS hl
  exact lv_lrem F.1 F.2.1 hdg hne (K p l e s m args below meth c A dC dI dA F H locs ls hP hS hl)
theorem r_i2l {x : Int32} {v : Int64} (hdg : decode y.1 pc = .ok (.i2l, 1)) (hv : x.toInt64 = v) (K : Rn S α y (pc + 1) lv (.long v :: st) I L Q) : Rn S α y pc lv (.int x :: st) I L Q := by
  intro p l e s m args below meth c A dC dI dA F H locs ls hP hS hl
  exact lv_i2l F.1 F.2.1 hdg hv (K p l e s m args below meth c A dC dI dA F H locs ls hP hS hl)
theorem r_i2b {x v : Int32} (hdg : decode y.1 pc = .ok (.i2b, 1)) (hv : x.toInt8.toInt32 = v) (K : Rn S α y (pc + 1) lv (.int v :: st) I L Q) : Rn S α y pc lv (.int x :: st) I L Q := by
  intro p l e s m args below meth c A dC dI dA F H locs ls hP hS hl
  exact lv_i2b F.1 F.2.1 hdg hv (K p l e s m args below meth c A dC dI dA F H locs ls hP hS hl)
theorem r_i2c {x v : Int32} (hdg : decode y.1 pc = .ok (.i2c, 1)) (hv : (x.toUInt32 % 65536).toInt32 = v) (K : Rn S α y (pc + 1) lv (.int v :: st) I L Q) : Rn S α y pc lv (.int x :: st) I L Q := by
  intro p l e s m args below meth c A dC dI dA F H locs ls hP hS hl
  exact lv_i2c F.1 F.2.1 hdg hv (K p l e s m args below meth c A dC dI dA F H locs ls hP hS hl)
theorem r_dup {v : Value} (hdg : decode y.1 pc = .ok (.dup, 1)) (hv : v.category = 1) (K : Rn S α y (pc + 1) lv (v :: v :: st) I L Q) : Rn S α y pc lv (v :: st) I L Q := by
  intro p l e s m args below meth c A dC dI dA F H locs ls hP hS hl
  exact lv_dup F.1 F.2.1 hdg hv (K p l e s m args below meth c A dC dI dA F H locs ls hP hS hl)
theorem r_pop {v : Value} (hdg : decode y.1 pc = .ok (.pop, 1)) (hv : v.category = 1) (K : Rn S α y (pc + 1) lv (st) I L Q) : Rn S α y pc lv (v :: st) I L Q := by
  intro p l e s m args below meth c A dC dI dA F H locs ls hP hS hl
  exact lv_pop F.1 F.2.1 hdg hv (K p l e s m args below meth c A dC dI dA F H locs ls hP hS hl)
theorem r_goto {off : Int} {tgt : Nat} (hdg : decode y.1 pc = .ok (.goto off, 3)) (ht : (pc : Int) + off = (tgt : Int)) (K : Rn S α y tgt lv st I L Q) : Rn S α y pc lv st I L Q := by
  intro p l e s m args below meth c A dC dI dA F H locs ls hP hS hl
  exact lv_goto F.1 F.2.1 hdg ht (K p l e s m args below meth c A dC dI dA F H locs ls hP hS hl)
theorem r_if_eq {x : Int32} {off : Int} (tgt : Nat) (hdg : decode y.1 pc = .ok (.ifCond .eq off, 3)) (ht : (pc : Int) + off = (tgt : Int)) (KT : x = 0 → Rn S α y tgt lv st I L Q) (KF : ¬ x = 0 → Rn S α y (pc + 3) lv st I L Q) : Rn S α y pc lv (.int x :: st) I L Q := by
  intro p l e s m args below meth c A dC dI dA F H locs ls hP hS hl
  exact lv_if_eq F.1 F.2.1 hdg ht (fun h => KT h p l e s m args below meth c A dC dI dA F H locs ls hP hS hl) (fun h => KF h p l e s m args below meth c A dC dI dA F H locs ls hP hS hl)
theorem r_if_ne {x : Int32} {off : Int} (tgt : Nat) (hdg : decode y.1 pc = .ok (.ifCond .ne off, 3)) (ht : (pc : Int) + off = (tgt : Int)) (KT : ¬ x = 0 → Rn S α y tgt lv st I L Q) (KF : x = 0 → Rn S α y (pc + 3) lv st I L Q) : Rn S α y pc lv (.int x :: st) I L Q := by
  intro p l e s m args below meth c A dC dI dA F H locs ls hP hS hl
  exact lv_if_ne F.1 F.2.1 hdg ht (fun h => KT h p l e s m args below meth c A dC dI dA F H locs ls hP hS hl) (fun h => KF h p l e s m args below meth c A dC dI dA F H locs ls hP hS hl)
theorem r_if_lt {x : Int32} {off : Int} (tgt : Nat) (hdg : decode y.1 pc = .ok (.ifCond .lt off, 3)) (ht : (pc : Int) + off = (tgt : Int)) (KT : x < 0 → Rn S α y tgt lv st I L Q) (KF : ¬ x < 0 → Rn S α y (pc + 3) lv st I L Q) : Rn S α y pc lv (.int x :: st) I L Q := by
  intro p l e s m args below meth c A dC dI dA F H locs ls hP hS hl
  exact lv_if_lt F.1 F.2.1 hdg ht (fun h => KT h p l e s m args below meth c A dC dI dA F H locs ls hP hS hl) (fun h => KF h p l e s m args below meth c A dC dI dA F H locs ls hP hS hl)
theorem r_if_ge {x : Int32} {off : Int} (tgt : Nat) (hdg : decode y.1 pc = .ok (.ifCond .ge off, 3)) (ht : (pc : Int) + off = (tgt : Int)) (KT : 0 ≤ x → Rn S α y tgt lv st I L Q) (KF : ¬ 0 ≤ x → Rn S α y (pc + 3) lv st I L Q) : Rn S α y pc lv (.int x :: st) I L Q := by
  intro p l e s m args below meth c A dC dI dA F H locs ls hP hS hl
  exact lv_if_ge F.1 F.2.1 hdg ht (fun h => KT h p l e s m args below meth c A dC dI dA F H locs ls hP hS hl) (fun h => KF h p l e s m args below meth c A dC dI dA F H locs ls hP hS hl)
theorem r_if_gt {x : Int32} {off : Int} (tgt : Nat) (hdg : decode y.1 pc = .ok (.ifCond .gt off, 3)) (ht : (pc : Int) + off = (tgt : Int)) (KT : 0 < x → Rn S α y tgt lv st I L Q) (KF : ¬ 0 < x → Rn S α y (pc + 3) lv st I L Q) : Rn S α y pc lv (.int x :: st) I L Q := by
  intro p l e s m args below meth c A dC dI dA F H locs ls hP hS hl
  exact lv_if_gt F.1 F.2.1 hdg ht (fun h => KT h p l e s m args below meth c A dC dI dA F H locs ls hP hS hl) (fun h => KF h p l e s m args below meth c A dC dI dA F H locs ls hP hS hl)
theorem r_if_le {x : Int32} {off : Int} (tgt : Nat) (hdg : decode y.1 pc = .ok (.ifCond .le off, 3)) (ht : (pc : Int) + off = (tgt : Int)) (KT : x ≤ 0 → Rn S α y tgt lv st I L Q) (KF : ¬ x ≤ 0 → Rn S α y (pc + 3) lv st I L Q) : Rn S α y pc lv (.int x :: st) I L Q := by
  intro p l e s m args below meth c A dC dI dA F H locs ls hP hS hl
  exact lv_if_le F.1 F.2.1 hdg ht (fun h => KT h p l e s m args below meth c A dC dI dA F H locs ls hP hS hl) (fun h => KF h p l e s m args below meth c A dC dI dA F H locs ls hP hS hl)
theorem r_icmp_eq {x z : Int32} {off : Int} (tgt : Nat) (hdg : decode y.1 pc = .ok (.if_icmp .eq off, 3)) (ht : (pc : Int) + off = (tgt : Int)) (KT : x = z → Rn S α y tgt lv st I L Q) (KF : ¬ x = z → Rn S α y (pc + 3) lv st I L Q) : Rn S α y pc lv (.int z :: .int x :: st) I L Q := by
  intro p l e s m args below meth c A dC dI dA F H locs ls hP hS hl
  exact lv_icmp_eq F.1 F.2.1 hdg ht (fun h => KT h p l e s m args below meth c A dC dI dA F H locs ls hP hS hl) (fun h => KF h p l e s m args below meth c A dC dI dA F H locs ls hP hS hl)
theorem r_icmp_ne {x z : Int32} {off : Int} (tgt : Nat) (hdg : decode y.1 pc = .ok (.if_icmp .ne off, 3)) (ht : (pc : Int) + off = (tgt : Int)) (KT : ¬ x = z → Rn S α y tgt lv st I L Q) (KF : x = z → Rn S α y (pc + 3) lv st I L Q) : Rn S α y pc lv (.int z :: .int x :: st) I L Q := by
  intro p l e s m args below meth c A dC dI dA F H locs ls hP hS hl
  exact lv_icmp_ne F.1 F.2.1 hdg ht (fun h => KT h p l e s m args below meth c A dC dI dA F H locs ls hP hS hl) (fun h => KF h p l e s m args below meth c A dC dI dA F H locs ls hP hS hl)
theorem r_icmp_lt {x z : Int32} {off : Int} (tgt : Nat) (hdg : decode y.1 pc = .ok (.if_icmp .lt off, 3)) (ht : (pc : Int) + off = (tgt : Int)) (KT : x < z → Rn S α y tgt lv st I L Q) (KF : ¬ x < z → Rn S α y (pc + 3) lv st I L Q) : Rn S α y pc lv (.int z :: .int x :: st) I L Q := by
  intro p l e s m args below meth c A dC dI dA F H locs ls hP hS hl
  exact lv_icmp_lt F.1 F.2.1 hdg ht (fun h => KT h p l e s m args below meth c A dC dI dA F H locs ls hP hS hl) (fun h => KF h p l e s m args below meth c A dC dI dA F H locs ls hP hS hl)
theorem r_icmp_ge {x z : Int32} {off : Int} (tgt : Nat) (hdg : decode y.1 pc = .ok (.if_icmp .ge off, 3)) (ht : (pc : Int) + off = (tgt : Int)) (KT : z ≤ x → Rn S α y tgt lv st I L Q) (KF : ¬ z ≤ x → Rn S α y (pc + 3) lv st I L Q) : Rn S α y pc lv (.int z :: .int x :: st) I L Q := by
  intro p l e s m args below meth c A dC dI dA F H locs ls hP hS hl
  exact lv_icmp_ge F.1 F.2.1 hdg ht (fun h => KT h p l e s m args below meth c A dC dI dA F H locs ls hP hS hl) (fun h => KF h p l e s m args below meth c A dC dI dA F H locs ls hP hS hl)
theorem r_icmp_gt {x z : Int32} {off : Int} (tgt : Nat) (hdg : decode y.1 pc = .ok (.if_icmp .gt off, 3)) (ht : (pc : Int) + off = (tgt : Int)) (KT : z < x → Rn S α y tgt lv st I L Q) (KF : ¬ z < x → Rn S α y (pc + 3) lv st I L Q) : Rn S α y pc lv (.int z :: .int x :: st) I L Q := by
  intro p l e s m args below meth c A dC dI dA F H locs ls hP hS hl
  exact lv_icmp_gt F.1 F.2.1 hdg ht (fun h => KT h p l e s m args below meth c A dC dI dA F H locs ls hP hS hl) (fun h => KF h p l e s m args below meth c A dC dI dA F H locs ls hP hS hl)
theorem r_icmp_le {x z : Int32} {off : Int} (tgt : Nat) (hdg : decode y.1 pc = .ok (.if_icmp .le off, 3)) (ht : (pc : Int) + off = (tgt : Int)) (KT : x ≤ z → Rn S α y tgt lv st I L Q) (KF : ¬ x ≤ z → Rn S α y (pc + 3) lv st I L Q) : Rn S α y pc lv (.int z :: .int x :: st) I L Q := by
  intro p l e s m args below meth c A dC dI dA F H locs ls hP hS hl
  exact lv_icmp_le F.1 F.2.1 hdg ht (fun h => KT h p l e s m args below meth c A dC dI dA F H locs ls hP hS hl) (fun h => KF h p l e s m args below meth c A dC dI dA F H locs ls hP hS hl)
theorem r_ifnull {x : Nat} {off : Int} (hdg : decode y.1 pc = .ok (.ifnull off, 3)) (K : Rn S α y (pc + 3) lv (st) I L Q) : Rn S α y pc lv (.ref x :: st) I L Q := by
  intro p l e s m args below meth c A dC dI dA F H locs ls hP hS hl
  exact lv_ifnull F.1 F.2.1 hdg (K p l e s m args below meth c A dC dI dA F H locs ls hP hS hl)
theorem r_lcmp {x z : Int64} (hdg : decode y.1 pc = .ok (.lcmp, 1)) (K : Rn S α y (pc + 1) lv (.int (lg_cmp x z) :: st) I L Q) : Rn S α y pc lv (.long z :: .long x :: st) I L Q := by
  intro p l e s m args below meth c A dC dI dA F H locs ls hP hS hl
  exact W.lcmp F.1 F.2.1 hdg (K p l e s m args below meth c A dC dI dA F H locs ls hP hS hl)
theorem r_dup2 {v u : Value} (hdg : decode y.1 pc = .ok (.dup2, 1)) (hv : v.category = 1) (hu : u.category = 1) (K : Rn S α y (pc + 1) lv (v :: u :: v :: u :: st) I L Q) : Rn S α y pc lv (v :: u :: st) I L Q := by
  intro p l e s m args below meth c A dC dI dA F H locs ls hP hS hl
  exact lv_dup2_11 F.1 F.2.1 hdg hv hu (K p l e s m args below meth c A dC dI dA F H locs ls hP hS hl)
theorem r_dup_x1 {v u : Value} (hdg : decode y.1 pc = .ok (.dup_x1, 1)) (hv : v.category = 1) (hu : u.category = 1) (K : Rn S α y (pc + 1) lv (v :: u :: v :: st) I L Q) : Rn S α y pc lv (v :: u :: st) I L Q := by
  intro p l e s m args below meth c A dC dI dA F H locs ls hP hS hl
  exact lv_dup_x1 F.1 F.2.1 hdg hv hu (K p l e s m args below meth c A dC dI dA F H locs ls hP hS hl)
theorem r_tswOut {dflt lo hi : Int} {offs : Array Int} {len : Nat} {x : Int32} {tgt : Nat} (hdg : decode y.1 pc = .ok (.tableswitch dflt lo hi offs, len)) (h : x.toInt < lo ∨ hi < x.toInt) (ht : (pc : Int) + dflt = (tgt : Int)) (K : Rn S α y tgt lv st I L Q) : Rn S α y pc lv (.int x :: st) I L Q := by
  intro p l e s m args below meth c A dC dI dA F H locs ls hP hS hl
  exact lv_tableOut F.1 F.2.1 hdg h ht (K p l e s m args below meth c A dC dI dA F H locs ls hP hS hl)
theorem r_tswIn {dflt lo hi : Int} {offs : Array Int} {len : Nat} {x : Int32} {off : Int} {tgt : Nat} (hdg : decode y.1 pc = .ok (.tableswitch dflt lo hi offs, len)) (h1 : ¬ x.toInt < lo) (h2 : ¬ hi < x.toInt) (ho : offs[(x.toInt - lo).toNat]? = some off) (ht : (pc : Int) + off = (tgt : Int)) (K : Rn S α y tgt lv st I L Q) : Rn S α y pc lv (.int x :: st) I L Q := by
  intro p l e s m args below meth c A dC dI dA F H locs ls hP hS hl
  exact lv_tableIn F.1 F.2.1 hdg h1 h2 ho ht (K p l e s m args below meth c A dC dI dA F H locs ls hP hS hl)
end FDR
/-- a field's link: from the class own by its entry idx to the field j of the class ci -/
def fd_fl (own : String) (idx ci j : Nat) : Prop := ∃ r : vw_C, vwCl[ci]? = some r ∧ j < r.2.2 ∧ Cond.fieldLink own idx (r.2.1 j).1 (r.2.1 j).2.1 (r.2.1 j).2.2.1 ∈ fd_tb
/-- that it may be written, with its type -/
def fd_fw (ci j : Nat) (ty : FieldType) : Prop := ∀ r : vw_C, vwCl[ci]? = some r → (r.2.1 j).2.2.2 = false ∧ parseFieldDescriptor (r.2.1 j).2.2.1 = some ty
def fd_okC (r : vw_C) : Prop := (∀ w ∈ u_ws r.1 r.2.1 r.2.2, w ∈ fd_tb) ∧ (∃ ty : Nat → FieldType, ∀ k, k < r.2.2 → parseFieldDescriptor (r.2.1 k).2.2.1 = some (ty k)) ∧ ∀ a, a < r.2.2 → ∀ b, b < r.2.2 → a ≠ b → (r.2.1 a).2.1 ≠ (r.2.1 b).2.1
theorem fd_okL {ws : List Cond} (ps : List Nat) (h : ws = ps.filterMap (fun i => lw_tbl[i]?)) (hg : ws.all goodWord = true) : ∀ w ∈ ws, w ∈ fd_tb := by
  intro w hw
  have h1 := List.all_eq_true.mp hg w hw
  rw [h] at hw
  obtain ⟨i, -, hi⟩ := List.mem_filterMap.mp hw
  exact fd_in i hi h1
theorem fd_ok0 : fd_okC (RX0, TX0, 0) := ⟨fd_okL [] (by decide +kernel) (by decide +kernel), ⟨tyX0, tyX0_ok⟩, nmX0⟩
theorem fd_ok1 : fd_okC (RX1, TX1, 0) := ⟨fd_okL [] (by decide +kernel) (by decide +kernel), ⟨tyX1, tyX1_ok⟩, nmX1⟩
theorem fd_ok2 : fd_okC (RX2, TX2, 11) := ⟨fd_okL [230, 232, 234, 236, 238, 240, 242, 244, 246, 248, 250] (by decide +kernel) (by decide +kernel), ⟨tyX2, tyX2_ok⟩, nmX2⟩
theorem fd_ok3 : fd_okC (RX3, TX3, 0) := ⟨fd_okL [] (by decide +kernel) (by decide +kernel), ⟨tyX3, tyX3_ok⟩, nmX3⟩
theorem fd_ok4 : fd_okC (RX4, TX4, 0) := ⟨fd_okL [] (by decide +kernel) (by decide +kernel), ⟨tyX4, tyX4_ok⟩, nmX4⟩
theorem fd_ok5 : fd_okC (RX5, TX5, 17) := ⟨fd_okL [133, 135, 137, 139, 141, 143, 145, 147, 149, 151, 153, 155, 157, 159, 161, 163, 165] (by decide +kernel) (by decide +kernel), ⟨tyX5, tyX5_ok⟩, nmX5⟩
theorem fd_ok6 : fd_okC (RX6, TX6, 5) := ⟨fd_okL [269, 271, 273, 275, 277] (by decide +kernel) (by decide +kernel), ⟨tyX6, tyX6_ok⟩, nmX6⟩
theorem fd_ok7 : fd_okC (RX7, TX7, 0) := ⟨fd_okL [] (by decide +kernel) (by decide +kernel), ⟨tyX7, tyX7_ok⟩, nmX7⟩
theorem fd_ok8 : fd_okC (RX8, TX8, 0) := ⟨fd_okL [] (by decide +kernel) (by decide +kernel), ⟨tyX8, tyX8_ok⟩, nmX8⟩
theorem fd_ok9 : fd_okC (RX9, TX9, 8) := ⟨fd_okL [187, 189, 191, 193, 195, 197, 199, 201] (by decide +kernel) (by decide +kernel), ⟨tyX9, tyX9_ok⟩, nmX9⟩
theorem fd_ok10 : fd_okC (RX10, TX10, 13) := ⟨fd_okL [334, 336, 338, 340, 342, 344, 346, 348, 350, 352, 354, 356, 358] (by decide +kernel) (by decide +kernel), ⟨tyX10, tyX10_ok⟩, nmX10⟩
theorem fd_ok11 : fd_okC (RX11, TX11, 39) := ⟨fd_okL [973, 975, 977, 979, 981, 983, 985, 987, 989, 991, 993, 995, 997, 999, 1001, 1003, 1005, 1007, 1009, 1011, 1013, 1015, 1017, 1019, 1021, 1023, 1025, 1027, 1029, 1031, 1033, 1035, 1037, 1039, 1041, 1043, 1045, 1047, 1049] (by decide +kernel) (by decide +kernel), ⟨tyX11, tyX11_ok⟩, nmX11⟩
theorem fd_okA : ∀ (ci : Nat) (r : vw_C), vwCl[ci]? = some r → fd_okC r := by
  intro ci r h
  match ci, h with
  | 0, h => cases h; exact fd_ok0
  | 1, h => cases h; exact fd_ok1
  | 2, h => cases h; exact fd_ok2
  | 3, h => cases h; exact fd_ok3
  | 4, h => cases h; exact fd_ok4
  | 5, h => cases h; exact fd_ok5
  | 6, h => cases h; exact fd_ok6
  | 7, h => cases h; exact fd_ok7
  | 8, h => cases h; exact fd_ok8
  | 9, h => cases h; exact fd_ok9
  | 10, h => cases h; exact fd_ok10
  | 11, h => cases h; exact fd_ok11
  | k + 12, h => cases h
section FDR2
variable {S : List fdE} {α : Nat → Nat} {y : fdM} {pc : Nat} {lv lv' : List (Nat × Value)} {st : List Value} {I I' : fdI} {L L' : fdL} {Q : Option Value → fdI → fdL → Prop}
theorem r_getI {k ci j idx : Nat} {ks : List Nat} (hS0 : S[k]? = some (.inl (ci, ks))) (hj : ks[j]? = some (0)) (hfl : fd_fl y.2.2.1 idx ci j) (hdg : decode y.1 pc = .ok (.getfield idx, 3)) (K : Rn S α y (pc + 3) lv (.int (I k j) :: st) I L Q) : Rn S α y pc lv (.ref (α k) :: st) I L Q := by
  intro p l e s m args below meth c A dC dI dA F H locs ls hP hS hl
  obtain ⟨r, hr, hjN, hw⟩ := hfl
  obtain ⟨c1, ⟨ty, hty⟩, c3⟩ := fd_okA ci r hr
  exact va_get F.1 F.2.1 F.2.2.2.2.2.2.1 c1 F.2.2.2.1 F.2.2.2.2.2.2.2.1 hP k (fd_get S α dA I L hS0) hr j hjN (F.2.2.2.2.2.2.1 _ hw) (fun x hx => hx) (by rw [List.getElem?_mapIdx, hj]; rfl) hdg (K p l e s m args below meth c A dC dI dA F H locs ls hP hS hl)
theorem r_getJ {k ci j idx : Nat} {ks : List Nat} (hS0 : S[k]? = some (.inl (ci, ks))) (hj : ks[j]? = some (1)) (hfl : fd_fl y.2.2.1 idx ci j) (hdg : decode y.1 pc = .ok (.getfield idx, 3)) (K : Rn S α y (pc + 3) lv (.long (L k j) :: st) I L Q) : Rn S α y pc lv (.ref (α k) :: st) I L Q := by
  intro p l e s m args below meth c A dC dI dA F H locs ls hP hS hl
  obtain ⟨r, hr, hjN, hw⟩ := hfl
  obtain ⟨c1, ⟨ty, hty⟩, c3⟩ := fd_okA ci r hr
  exact va_get F.1 F.2.1 F.2.2.2.2.2.2.1 c1 F.2.2.2.1 F.2.2.2.2.2.2.2.1 hP k (fd_get S α dA I L hS0) hr j hjN (F.2.2.2.2.2.2.1 _ hw) (fun x hx => hx) (by rw [List.getElem?_mapIdx, hj]; rfl) hdg (K p l e s m args below meth c A dC dI dA F H locs ls hP hS hl)
theorem r_getR {k ci j idx n : Nat} {ks : List Nat} (hS0 : S[k]? = some (.inl (ci, ks))) (hj : ks[j]? = some (n + 2)) (hfl : fd_fl y.2.2.1 idx ci j) (hdg : decode y.1 pc = .ok (.getfield idx, 3)) (K : Rn S α y (pc + 3) lv (.ref (α n) :: st) I L Q) : Rn S α y pc lv (.ref (α k) :: st) I L Q := by
  intro p l e s m args below meth c A dC dI dA F H locs ls hP hS hl
  obtain ⟨r, hr, hjN, hw⟩ := hfl
  obtain ⟨c1, ⟨ty, hty⟩, c3⟩ := fd_okA ci r hr
  exact va_get F.1 F.2.1 F.2.2.2.2.2.2.1 c1 F.2.2.2.1 F.2.2.2.2.2.2.2.1 hP k (fd_get S α dA I L hS0) hr j hjN (F.2.2.2.2.2.2.1 _ hw) (fun x hx => hx) (by rw [List.getElem?_mapIdx, hj]; rfl) hdg (K p l e s m args below meth c A dC dI dA F H locs ls hP hS hl)
theorem r_putI {k ci j idx : Nat} {ks : List Nat} {v : Int32} (hS0 : S[k]? = some (.inl (ci, ks))) (hj : ks[j]? = some (0)) (hfl : fd_fl y.2.2.1 idx ci j) (hfw : fd_fw ci j .int) (hdg : decode y.1 pc = .ok (.putfield idx, 3)) (K : Rn S α y (pc + 3) lv st (fd_up I k j v) L Q) : Rn S α y pc lv (.int v :: .ref (α k) :: st) I L Q := by
  intro p l e s m args below meth c A dC dI dA F H locs ls hP hS hl
  obtain ⟨r, hr, hjN, hw⟩ := hfl
  obtain ⟨c1, ⟨ty, hty⟩, c3⟩ := fd_okA ci r hr
  obtain ⟨hfin, hd⟩ := hfw r hr
  refine va_put F.1 F.2.1 F.2.2.2.2.2.2.1 c1 ty hty c3 F.2.2.2.1 F.2.2.2.2.2.2.2.1 hP (F.2.2.2.2.2.2.2.2.1 I L) hS k (fd_get S α dA I L hS0) hr j hjN (F.2.2.2.2.2.2.1 _ hw) (fun x hx => hx) hfin hd rfl rfl (by rw [List.length_mapIdx]; exact (List.getElem?_eq_some_iff.mp hj).1) hdg (fun H1 locs1 hP1 _ hS1 => ?_)
  rw [fd_wsI hS0 hj] at hP1
  exact K p l e s m args below meth c A dC dI dA F H1 locs1 ls hP1 hS1 hl
theorem r_putZ {k ci j idx : Nat} {ks : List Nat} {v : Int32} (hS0 : S[k]? = some (.inl (ci, ks))) (hj : ks[j]? = some (0)) (hfl : fd_fl y.2.2.1 idx ci j) (hfw : fd_fw ci j .boolean) (hv : v = 0 ∨ v = 1) (hdg : decode y.1 pc = .ok (.putfield idx, 3)) (K : Rn S α y (pc + 3) lv st (fd_up I k j v) L Q) : Rn S α y pc lv (.int v :: .ref (α k) :: st) I L Q := by
  intro p l e s m args below meth c A dC dI dA F H locs ls hP hS hl
  obtain ⟨r, hr, hjN, hw⟩ := hfl
  obtain ⟨c1, ⟨ty, hty⟩, c3⟩ := fd_okA ci r hr
  obtain ⟨hfin, hd⟩ := hfw r hr
  refine va_put F.1 F.2.1 F.2.2.2.2.2.2.1 c1 ty hty c3 F.2.2.2.1 F.2.2.2.2.2.2.2.1 hP (F.2.2.2.2.2.2.2.2.1 I L) hS k (fd_get S α dA I L hS0) hr j hjN (F.2.2.2.2.2.2.1 _ hw) (fun x hx => hx) hfin hd (by rcases hv with h | h <;> subst h <;> rfl) (by rcases hv with h | h <;> subst h <;> rfl) (by rw [List.length_mapIdx]; exact (List.getElem?_eq_some_iff.mp hj).1) hdg (fun H1 locs1 hP1 _ hS1 => ?_)
  rw [fd_wsI hS0 hj] at hP1
  exact K p l e s m args below meth c A dC dI dA F H1 locs1 ls hP1 hS1 hl
theorem r_putJ {k ci j idx : Nat} {ks : List Nat} {v : Int64} (hS0 : S[k]? = some (.inl (ci, ks))) (hj : ks[j]? = some (1)) (hfl : fd_fl y.2.2.1 idx ci j) (hfw : fd_fw ci j .long) (hdg : decode y.1 pc = .ok (.putfield idx, 3)) (K : Rn S α y (pc + 3) lv st I (fd_up L k j v) Q) : Rn S α y pc lv (.long v :: .ref (α k) :: st) I L Q := by
  intro p l e s m args below meth c A dC dI dA F H locs ls hP hS hl
  obtain ⟨r, hr, hjN, hw⟩ := hfl
  obtain ⟨c1, ⟨ty, hty⟩, c3⟩ := fd_okA ci r hr
  obtain ⟨hfin, hd⟩ := hfw r hr
  refine va_put F.1 F.2.1 F.2.2.2.2.2.2.1 c1 ty hty c3 F.2.2.2.1 F.2.2.2.2.2.2.2.1 hP (F.2.2.2.2.2.2.2.2.1 I L) hS k (fd_get S α dA I L hS0) hr j hjN (F.2.2.2.2.2.2.1 _ hw) (fun x hx => hx) hfin hd rfl rfl (by rw [List.length_mapIdx]; exact (List.getElem?_eq_some_iff.mp hj).1) hdg (fun H1 locs1 hP1 _ hS1 => ?_)
  rw [fd_wsJ hS0 hj] at hP1
  exact K p l e s m args below meth c A dC dI dA F H1 locs1 ls hP1 hS1 hl
theorem r_iald {k n : Nat} {i : Int32} (hS0 : S[k]? = some (.inr (.inl (0, n)))) (hdg : decode y.1 pc = .ok (.iaload, 1)) (hin : vp_in i n) (K : Rn S α y (pc + 1) lv (.int (I k i.toNatClampNeg) :: st) I L Q) : Rn S α y pc lv (.int i :: .ref (α k) :: st) I L Q := by
  intro p l e s m args below meth c A dC dI dA F H locs ls hP hS hl
  exact va_iald F.1 F.2.1 F.2.2.2.2.2.2.2.1 hP k 0 (fd_get S α dA I L hS0) rfl hin hdg (K p l e s m args below meth c A dC dI dA F H locs ls hP hS hl)
theorem r_zald {k n : Nat} {i : Int32} (hS0 : S[k]? = some (.inr (.inl (1, n)))) (hdg : decode y.1 pc = .ok (.baload, 1)) (hin : vp_in i n) (K : Rn S α y (pc + 1) lv (.int (I k i.toNatClampNeg) :: st) I L Q) : Rn S α y pc lv (.int i :: .ref (α k) :: st) I L Q := by
  intro p l e s m args below meth c A dC dI dA F H locs ls hP hS hl
  exact va_zald F.1 F.2.1 F.2.2.2.2.2.2.2.1 hP k 1 (fd_get S α dA I L hS0) rfl hin hdg (K p l e s m args below meth c A dC dI dA F H locs ls hP hS hl)
theorem r_bald {k n : Nat} {i : Int32} (hS0 : S[k]? = some (.inr (.inl (2, n)))) (hdg : decode y.1 pc = .ok (.baload, 1)) (hin : vp_in i n) (K : Rn S α y (pc + 1) lv (.int (I k i.toNatClampNeg) :: st) I L Q) : Rn S α y pc lv (.int i :: .ref (α k) :: st) I L Q := by
  intro p l e s m args below meth c A dC dI dA F H locs ls hP hS hl
  exact va_bald F.1 F.2.1 F.2.2.2.2.2.2.2.1 hP k 2 (fd_get S α dA I L hS0) rfl hin hdg (K p l e s m args below meth c A dC dI dA F H locs ls hP hS hl)
theorem r_iast {k n : Nat} {i x : Int32} (hS0 : S[k]? = some (.inr (.inl (0, n)))) (hdg : decode y.1 pc = .ok (.iastore, 1)) (hin : vp_in i n) (K : Rn S α y (pc + 1) lv st (fd_up I k i.toNatClampNeg x) L Q) : Rn S α y pc lv (.int x :: .int i :: .ref (α k) :: st) I L Q := by
  intro p l e s m args below meth c A dC dI dA F H locs ls hP hS hl
  refine va_iast F.1 F.2.1 F.2.2.2.2.2.2.2.1 hP (F.2.2.2.2.2.2.2.2.1 I L) hS k 0 (fd_get S α dA I L hS0) rfl hin hdg (fun H1 locs1 hP1 _ hS1 => ?_)
  skip
  rw [fd_wsA hS0] at hP1
  exact K p l e s m args below meth c A dC dI dA F H1 locs1 ls hP1 hS1 hl
theorem r_zast {k n : Nat} {i x : Int32} (hS0 : S[k]? = some (.inr (.inl (1, n)))) (hx : x = 0 ∨ x = 1) (hdg : decode y.1 pc = .ok (.bastore, 1)) (hin : vp_in i n) (K : Rn S α y (pc + 1) lv st (fd_up I k i.toNatClampNeg x) L Q) : Rn S α y pc lv (.int x :: .int i :: .ref (α k) :: st) I L Q := by
  intro p l e s m args below meth c A dC dI dA F H locs ls hP hS hl
  refine va_zast F.1 F.2.1 F.2.2.2.2.2.2.2.1 hP (F.2.2.2.2.2.2.2.2.1 I L) hS k 1 (fd_get S α dA I L hS0) rfl hin hdg (fun H1 locs1 hP1 _ hS1 => ?_)
  rw [show vp_nar .boolean x = x by rcases hx with h | h <;> subst h <;> rfl] at hP1
  rw [fd_wsA hS0] at hP1
  exact K p l e s m args below meth c A dC dI dA F H1 locs1 ls hP1 hS1 hl
theorem r_bast {k n : Nat} {i x : Int32} (hS0 : S[k]? = some (.inr (.inl (2, n)))) (hx : x.toInt8.toInt32 = x) (hdg : decode y.1 pc = .ok (.bastore, 1)) (hin : vp_in i n) (K : Rn S α y (pc + 1) lv st (fd_up I k i.toNatClampNeg x) L Q) : Rn S α y pc lv (.int x :: .int i :: .ref (α k) :: st) I L Q := by
  intro p l e s m args below meth c A dC dI dA F H locs ls hP hS hl
  refine va_bast F.1 F.2.1 F.2.2.2.2.2.2.2.1 hP (F.2.2.2.2.2.2.2.2.1 I L) hS k 2 (fd_get S α dA I L hS0) rfl hin hdg (fun H1 locs1 hP1 _ hS1 => ?_)
  rw [vp_nar_byte, hx] at hP1
  rw [fd_wsA hS0] at hP1
  exact K p l e s m args below meth c A dC dI dA F H1 locs1 ls hP1 hS1 hl
theorem r_aald {k t n : Nat} {C : String} {rs : List Nat} {i : Int32} (hS0 : S[k]? = some (.inr (.inr (t, rs)))) (ht : ∀ dA : Nat → ClassId, (fd_tys dA)[t]? = some (dA t, .object C)) (hdg : decode y.1 pc = .ok (.aaload, 1)) (hin : vp_in i rs.length) (hr : rs[i.toNatClampNeg]? = some n) (K : Rn S α y (pc + 1) lv (.ref (α n) :: st) I L Q) : Rn S α y pc lv (.int i :: .ref (α k) :: st) I L Q := by
  intro p l e s m args below meth c A dC dI dA F H locs ls hP hS hl
  refine va_aldq F.1 F.2.1 F.2.2.2.2.2.2.2.1 hP k t (fd_get S α dA I L hS0) (ht dA) hin hdg ?_
  rw [hr]
  exact (K p l e s m args below meth c A dC dI dA F H locs ls hP hS hl)
theorem r_aaldA {k n : Nat} {rs : List Nat} {i : Int32} (hS0 : S[k]? = some (.inr (.inr (5, rs)))) (hdg : decode y.1 pc = .ok (.aaload, 1)) (hin : vp_in i rs.length) (hr : rs[i.toNatClampNeg]? = some n) (K : Rn S α y (pc + 1) lv (.ref (α n) :: st) I L Q) : Rn S α y pc lv (.int i :: .ref (α k) :: st) I L Q := by
  intro p l e s m args below meth c A dC dI dA F H locs ls hP hS hl
  have hlt : i.toNatClampNeg < rs.length := Nat.not_le.mp fun q => hin (Or.inr q)
  have hg := fd_get S α dA I L hS0
  have ht : (fd_tys dA)[5]? = some (dA 5, .array .int) := rfl
  refine W.aald (v := va_rf ((rs[i.toNatClampNeg]?).map α)) (ty := .array .int) F.1 F.2.1 (hP k _ hg) ((F.2.2.2.2.2.2.2.1.2 5 _ ht).1 rs.length (fun j => va_rf ((rs[j]?).map α))) rfl (fun q => by cases q) (by show ¬ (i < 0 ∨ (arrV _ _ _).slots.size ≤ _); rw [arrV_size]; exact hin) (by show (arrV _ _ _).slots[_]? = _; rw [arrV_read _ _ hlt]) rfl rfl hdg ?_
  rw [hr]
  exact (K p l e s m args below meth c A dC dI dA F H locs ls hP hS hl)
theorem r_alen {k t n : Nat} {ty : FieldType} (hS0 : S[k]? = some (.inr (.inl (t, n)))) (ht : ∀ dA : Nat → ClassId, (fd_tys dA)[t]? = some (dA t, ty)) (hdg : decode y.1 pc = .ok (.arraylength, 1)) (K : Rn S α y (pc + 1) lv (.int (nI n) :: st) I L Q) : Rn S α y pc lv (.ref (α k) :: st) I L Q := by
  intro p l e s m args below meth c A dC dI dA F H locs ls hP hS hl
  exact va_alen F.1 F.2.1 F.2.2.2.2.2.2.2.1 hP k t (fd_get S α dA I L hS0) (ht dA) rfl hdg (K p l e s m args below meth c A dC dI dA F H locs ls hP hS hl)
theorem r_orders {own : String} {idx : Nat} (ho : y.2.2.1 = own) (hw : Cond.fieldLinkNest own idx RX10 "ORDERS_OF" "[I" RX10 ∈ fd_nest) (hdg : decode y.1 pc = .ok (.getstatic idx, 3)) (K : Rn S α y (pc + 3) lv (.ref (α 1000) :: st) I L Q) : Rn S α y pc lv (st) I L Q := by
  intro p l e s m args below meth c A dC dI dA F H locs ls hP hS hl
  subst ho
  exact va_getsN F.1 F.2.1 F.2.2.2.2.2.2.2.2.2.1.1 hS F.2.2.2.1 ((F.2.2.2.2.2.2.2.2.2.1.2.2.2.2.2.2 _ hw).use rfl) (fun x hx => hx) hdg (K p l e s m args below meth c A dC dI dA F H locs ls hP hS hl)
theorem r_oald {i : Int32} (hdg : decode y.1 pc = .ok (.iaload, 1)) (hin : vp_in i 8) (K : Rn S α y (pc + 1) lv (.int (fd_facts.getD i.toNatClampNeg 0) :: st) I L Q) : Rn S α y pc lv (.int i :: .ref (α 1000) :: st) I L Q := by
  intro p l e s m args below meth c A dC dI dA F H locs ls hP hS hl
  exact va_ti F.1 F.2.1 F.2.2.2.2.2.2.2.2.2.1.2.1 hS hin rfl hdg (K p l e s m args below meth c A dC dI dA F H locs ls hP hS hl)
theorem r_iret {v : Int32} (hr : y.2.2.2.1 = some .int) (hdg : decode y.1 pc = .ok (.ireturn, 1)) (hq : Q (some (.int v)) I L) : Rn S α y pc lv ([.int v]) I L Q := by
  intro p l e s m args below meth c A dC dI dA F H locs ls hP hS hl
  have hlocks : meth.locks = false := F.2.2.2.2.2.1
  exact W.iret F.1 F.2.1 (F.2.2.2.2.1.trans hr) (fun t ht hW => ⟨⟨_, I, L, rfl, hq, by rw [ht]; exact hP⟩, hS.F ht⟩) hS.2.2 hdg
theorem r_zret {v : Int32} (hr : y.2.2.2.1 = some .boolean) (hv : v = 0 ∨ v = 1) (hdg : decode y.1 pc = .ok (.ireturn, 1)) (hq : Q (some (.int v)) I L) : Rn S α y pc lv ([.int v]) I L Q := by
  intro p l e s m args below meth c A dC dI dA F H locs ls hP hS hl
  have hlocks : meth.locks = false := F.2.2.2.2.2.1
  exact W.zret F.1 F.2.1 (F.2.2.2.2.1.trans hr) (by rcases hv with h | h <;> subst h <;> rfl) (fun t ht hW => ⟨⟨_, I, L, rfl, hq, by rw [ht]; exact hP⟩, hS.F ht⟩) hS.2.2 hdg
theorem r_lret {v : Int64} (hr : y.2.2.2.1 = some .long) (hdg : decode y.1 pc = .ok (.lreturn, 1)) (hq : Q (some (.long v)) I L) : Rn S α y pc lv ([.long v]) I L Q := by
  intro p l e s m args below meth c A dC dI dA F H locs ls hP hS hl
  have hlocks : meth.locks = false := F.2.2.2.2.2.1
  exact W.lret F.1 F.2.1 (F.2.2.2.2.1.trans hr) (fun t ht hW => ⟨⟨_, I, L, rfl, hq, by rw [ht]; exact hP⟩, hS.F ht⟩) hS.2.2 hdg
theorem r_vret (hr : y.2.2.2.1 = none) (hdg : decode y.1 pc = .ok (.return_, 1)) (hq : Q (none) I L) : Rn S α y pc lv ([]) I L Q := by
  intro p l e s m args below meth c A dC dI dA F H locs ls hP hS hl
  have hlocks : meth.locks = false := F.2.2.2.2.2.1
  exact W.vret F.1 F.2.1 (F.2.2.2.2.1.trans hr) (fun t ht hW => ⟨⟨_, I, L, rfl, hq, by rw [ht]; exact hP⟩, hS.F ht⟩) hS.2.2 hdg
theorem r_aret {a : Nat} {C : String} (hr : y.2.2.2.1 = some (.object C)) (hdg : decode y.1 pc = .ok (.areturn, 1)) (hq : Q (some (.ref a)) I L) : Rn S α y pc lv ([.ref a]) I L Q := by
  intro p l e s m args below meth c A dC dI dA F H locs ls hP hS hl
  have hlocks : meth.locks = false := F.2.2.2.2.2.1
  exact W.aret F.1 F.2.1 (F.2.2.2.2.1.trans hr) (Or.inl ⟨C, rfl⟩) (Or.inr ⟨a, rfl⟩) (fun t ht hW => ⟨⟨_, I, L, rfl, hq, by rw [ht]; exact hP⟩, hS.F ht⟩) hS.2.2 hdg
theorem r_copy {k k2 t n n2 idx : Nat} {ty : FieldType} {sp dp len : Int32} (hS0 : S[k]? = some (.inr (.inl (t, n)))) (hS2 : S[k2]? = some (.inr (.inl (t, n2)))) (ht : ∀ dA : Nat → ClassId, (fd_tys dA)[t]? = some (dA t, ty)) (hprim : refKind ty = false)
    (hl1 : Cond.methodLink y.2.2.1 idx arraycopyName ∈ fd_tb) (hl2 : Cond.native arraycopyName ∈ fd_tb) (hl3 : Cond.static arraycopyName ∈ fd_tb) (hl4 : Cond.initialized "java/lang/System" ∈ fd_tb)
    (h1 : ¬ sp < 0) (h2 : ¬ dp < 0) (h3 : ¬ len < 0) (h4 : sp.toNatClampNeg + len.toNatClampNeg ≤ n) (h5 : dp.toNatClampNeg + len.toNatClampNeg ≤ n2) (hfit : ∀ i, i < len.toNatClampNeg → fits ty (.int (I k (sp.toNatClampNeg + i))) = true)
    (hfr : 1 ≤ y.2.2.2.2) (hst : (st.map fun v => v.category).sum + (nativeFrameWords "java/lang/System" "arraycopy" 5 + 11) ≤ 36 * y.2.2.2.2) (hdg : decode y.1 pc = .ok (.invokestatic idx, 3))
    (K : Rn S α y (pc + 3) lv st (fd_row I k2 (va_cpy (I k) (I k2) sp.toNatClampNeg dp.toNatClampNeg len.toNatClampNeg)) L Q) : Rn S α y pc lv (.int len :: .int dp :: .ref (α k2) :: .int sp :: .ref (α k) :: st) I L Q := by
  intro p l e s m args below meth c A dC dI dA F H locs ls hP hS hl
  refine va_copyi F.1 F.2.1 (F.2.2.1.trans hl.1.symm) F.2.2.2.1 (F.2.2.2.2.2.2.1 _ hl1) (F.2.2.2.2.2.2.1 _ hl2) (F.2.2.2.2.2.2.1 _ hl3) (F.2.2.2.2.2.2.1 _ hl4) F.2.2.2.2.2.2.2.1 hP (F.2.2.2.2.2.2.2.2.1 I L) hS k k2 t t (fd_get S α dA I L hS0) (fd_get S α dA I L hS2) (ht dA) (ht dA) hprim h1 h2 h3 h4 h5 hfit hfr hst hdg (fun H1 locs1 hP1 _ hS1 => ?_)
  rw [fd_wsR hS2] at hP1
  exact K p l e s m args below meth c A dC dI dA F H1 locs1 ls hP1 hS1 hl
end FDR2
section FDC
variable {S : List fdE} {α : Nat → Nat} {y mz : fdM} {z x : MethodName} {pc idx n : Nat} {lv lv' : List (Nat × Value)} {st av As : List Value} {I I' : fdI} {L L' : fdL} {Q Qz : Option Value → fdI → fdL → Prop}
abbrev fd_Pc (S : List fdE) (α : Nat → Nat) (dC : Nat → ClassId) (dI : Nat → Nat → Nat) (dA : Nat → ClassId) (av : List Value) (I : fdI) (L : fdL) (sz : Nat) : Array Value → State → Prop := va_Pc av (fun U => U.heap.size = sz ∧ va_P (dC, dI) vwCl (fd_ws S α dA I L) U.heap ∧ va_K (dC, dI) vwCl (fd_tys dA) U ∧ va_D (fun _ => True) (fd_ws S α dA I L) ∧ fd_PF α (va_A (fd_ws S α dA I L) sz) U U.heap)
theorem fd_blind {dC : Nat → ClassId} {dI : Nat → Nat → Nat} {dA : Nat → ClassId} {sz : Nat} : FrameBlind (fd_Pc S α dC dI dA av I L sz) := by
  intro a U g mk q
  obtain ⟨h1, h2, h3, h4, h5, h6⟩ := q
  exact ⟨h1, h2, h3, va_K.moved (u := U) (U := U.calling g mk a) (Vm.Alike.refl U.vm) h4, h5, h6.vm (U := U.calling g mk a) rfl⟩
theorem fd_pre {p : Program} {s : State} {m : MethodId} {args : Array Value} {meth : Method} {c : Code} {A : Nat → Prop} {dC : Nat → ClassId} {dI : Nat → Nat → Nat} {dA : Nat → ClassId} (F : fd_Fix S α y p s m args meth c A dC dI dA) {H : Heap} {locs : List Loc} (hP : va_P (dC, dI) vwCl (fd_ws S α dA I L) H) (hS : va_S A s.heap H locs) : ∀ U : State, U.heap = H → s.WarmedH U.vm → fd_Pc S α dC dI dA av I L H.size av.toArray U := by
  intro U hU hW
  refine ⟨rfl, by rw [hU], by rw [hU]; exact hP, va_K.moved hW.alike F.2.2.2.2.2.2.2.1, (F.2.2.2.2.2.2.2.2.1 I L).weaken (fun _ _ _ _ => trivial), ?_⟩
  rw [hU]
  refine F.2.2.2.2.2.2.2.2.2.1.at hW hS.2.1 (fun q hq => ?_)
  rcases hq with ⟨k, e, hk⟩ | hq
  · exact (F.2.2.2.2.2.2.2.2.1 I L).2 k _ hk
  · exact F.2.2.2.2.2.2.2.2.2.2 q (Nat.le_trans hS.1 hq)
theorem fd_cont {p : Program} {l : Launch} {e : Env} {R : Room} {s : State} {m : MethodId} {args : Array Value} {below : List Frame} {meth : Method} {c : Code} {A : Nat → Prop} {dC : Nat → ClassId} {dI : Nat → Nat → Nat} {dA : Nat → ClassId} {Qm : State → Prop} (F : fd_Fix S α y p s m args meth c A dC dI dA) {H : Heap} {locs : List Loc} {ls : Array Slot} {st0 : List Value} {a : Array Value} (hS : va_S A s.heap H locs)
    (hr : va_Run p l e R s m args below meth c H locs 0 0 0 0 (F0 m pc ls st0) st (fd_Q S α dC dI dA (va_A (fd_ws S α dA I L) H.size) Qz a) (va_A (fd_ws S α dA I L) H.size))
    (K : ∀ (rv : Option Value) (I' : fdI) (L' : fdL), Qz rv I' L' → ∀ (H1 : Heap) (locs1 : List Loc), va_P (dC, dI) vwCl (fd_ws S α dA I' L') H1 → va_S A s.heap H1 locs1 → W p l e R s m args below meth c H1 locs1 0 0 Qm (F0 m (pc + 3) ls (rv.toList ++ st))) : W p l e R s m args below meth c H locs 0 0 Qm (F0 m pc ls st0) := by
  have hA : ∀ q, va_A (fd_ws S α dA I L) H.size q → A q := by
    intro q hq
    rcases hq with ⟨k, e, hk⟩ | hq
    · exact (F.2.2.2.2.2.2.2.2.1 I L).2 k _ hk
    · exact F.2.2.2.2.2.2.2.2.2.2 q (Nat.le_trans hS.1 hq)
  intro T hT X
  obtain ⟨v, st₀, t, T', L1, h0, X', hL, e1, e2, ⟨⟨rv, I', L', hv, hq, hP1⟩, hz, hk⟩, hst⟩ := hr T hT X
  cases hv
  rw [h0] at hz hk
  obtain ⟨t2, a1, b1⟩ := K v I' L' hq T'.heap (locs ++ L1) (by rw [e1]; exact hP1)
    ⟨Nat.le_trans hS.1 (by rw [e1]; exact hz), fun q h1 h2 => by rw [e1, hk q (Nat.lt_of_lt_of_le h1 hS.1) (fun z => h2 (hA q z))]; exact hS.2.1 q h1 h2, fun q hq => by
      rcases List.mem_append.mp hq with h | h
      · exact hS.2.2 q h
      · exact hA _ (hL q h)⟩ T' rfl X'
  exact ⟨t2, hst t2 a1, b1⟩
/-- a link to a method of its own receiver's class -/
def fd_lkV (own : String) (idx : Nat) (z : MethodName) (mz : fdM) (n : Nat) : Prop := Cond.methodLink own idx z ∈ fd_tb ∧ Cond.instanceMethod z ∈ fd_tb ∧ Cond.selects z.cls z z ∈ fd_tb ∧ Cond.initialized z.cls ∈ fd_tb ∧ Cond.code z mz.1 mz.2.1 mz.2.2.2.1 ∈ fd_tb ∧ z.cls ≠ "java/lang/invoke/MethodHandle" ∧ z.cls ≠ "java/lang/invoke/VarHandle" ∧ (parseMethodDescriptor z.desc).map (fun d => d.parameters.length) = some n
def fd_lkS (own : String) (idx : Nat) (z : MethodName) (mz : fdM) (n : Nat) : Prop := Cond.methodLink own idx z ∈ fd_tb ∧ Cond.static z ∈ fd_tb ∧ Cond.initialized z.cls ∈ fd_tb ∧ Cond.code z mz.1 mz.2.1 mz.2.2.2.1 ∈ fd_tb ∧ z.cls ≠ "java/lang/invoke/MethodHandle" ∧ z.cls ≠ "java/lang/invoke/VarHandle" ∧ (parseMethodDescriptor z.desc).map (fun d => d.parameters.length) = some n
theorem fd_gi {ws : List Cond} (h : ∀ w ∈ ws, w ∈ fd_tb) : GoodIn fd_tb ws := fun w hw => ⟨h w hw, good_of_word (fd_good (h w hw))⟩
theorem fd_gc {w : Cond} (h : w ∈ fd_tb) : ∀ v ∈ w :: fd_tb, v ∈ fd_tb := fun v hv => (List.mem_cons.mp hv).elim (fun e => e ▸ h) id
theorem fd_room {dz dy maxL : Nat} (h : dz + 1 ≤ dy) (hm : maxL ≤ 17) : (fd_rm dz).frames + 1 ≤ (fd_rm dy).frames ∧ 8 + (maxL + 11) + (fd_rm dz).locals ≤ (fd_rm dy).locals := by
  refine ⟨h, ?_⟩
  show 8 + (maxL + 11) + 36 * dz ≤ 36 * dy
  omega
theorem r_callV {k ci : Nat} {ks : List Nat} (hc : Con S α z mz (.ref (α k) :: As) I L Qz) (hlk : fd_lkV y.2.2.1 idx z mz n) (hS0 : S[k]? = some (.inl (ci, ks))) (hcl : (vwCl[ci]?).map (fun r => r.1) = some z.cls) (hd : mz.2.2.2.2 + 1 ≤ y.2.2.2.2) (hm : mz.2.1 ≤ 17) (hn : As.length = n) (hcat : (st.map fun v => v.category).sum ≤ 8) (hdg : decode y.1 pc = .ok (.invokevirtual idx, 3))
    (K : ∀ (rv : Option Value) (I' : fdI) (L' : fdL), Qz rv I' L' → Rn S α y (pc + 3) lv (rv.toList ++ st) I' L' Q) : Rn S α y pc lv (As.reverse ++ .ref (α k) :: st) I L Q := by
  intro p l e s m args below meth c A dC dI dA F H locs ls hP hS hl
  obtain ⟨k1, k2, k3, k4, k5, k6, k7, k8⟩ := hlk
  have hg := fd_get S α dA I L hS0
  have hrc : ∃ q : vw_C, vwCl[ci]? = some q ∧ q.1 = z.cls := by
    cases hq : vwCl[ci]? with
    | none => rw [hq] at hcl; cases hcl
    | some q => rw [hq] at hcl; exact ⟨q, rfl, Option.some.inj hcl⟩
  obtain ⟨q, hq, hqc⟩ := hrc
  have hrv := va_recv F.2.2.2.2.2.2.2.1 hP hq hg
  rw [hqc] at hrv
  refine fd_cont F hS (va_runV (As := As) (C := z.cls) (own := y.2.2.1) (n := n) ⟨F.1, F.2.1, F.2.2.1, F.2.2.2.1, F.2.2.2.2.2.2.1⟩ (hc l dC dI dA H.size) (cwV n F.2.2.2.2.2.2.1 (fd_gi ?_) rfl rfl rfl ⟨rfl, k6, k7, k8⟩ (fd_room hd hm)) ⟨fd_blind, hrv, fd_pre F hP hS⟩ rfl hn hl.1 rfl (lv_room hcat) hdg ⟨Nat.zero_le _, Nat.zero_le _⟩) (fun rv I' L' hq H1 locs1 hP1 hS1 => K rv I' L' hq p l e s m args below meth c A dC dI dA F H1 locs1 ls hP1 hS1 hl)
  intro w hw
  simp only [wsV, List.cons_append, List.nil_append, List.mem_cons] at hw
  rcases hw with rfl | rfl | rfl | rfl | rfl | hw
  · exact k1
  · exact k2
  · exact k3
  · exact k4
  · exact k5
  · exact hw
theorem r_callS (hc : Con S α z mz As I L Qz) (hlk : fd_lkS y.2.2.1 idx z mz n) (hd : mz.2.2.2.2 + 1 ≤ y.2.2.2.2) (hm : mz.2.1 ≤ 17) (hn : As.length = n) (hcat : (st.map fun v => v.category).sum ≤ 8) (hdg : decode y.1 pc = .ok (.invokestatic idx, 3))
    (K : ∀ (rv : Option Value) (I' : fdI) (L' : fdL), Qz rv I' L' → Rn S α y (pc + 3) lv (rv.toList ++ st) I' L' Q) : Rn S α y pc lv (As.reverse ++ st) I L Q := by
  intro p l e s m args below meth c A dC dI dA F H locs ls hP hS hl
  obtain ⟨k1, k2, k4, k5, k6, k7, k8⟩ := hlk
  refine fd_cont F hS (va_runS (As := As) (own := y.2.2.1) (n := n) ⟨F.1, F.2.1, F.2.2.1, F.2.2.2.1, F.2.2.2.2.2.2.1⟩ (hc l dC dI dA H.size) (va_cwS n F.2.2.2.2.2.2.1 (fd_gi ?_) rfl rfl rfl ⟨k6, k7, k8⟩ (fd_room hd hm)) ⟨fd_blind, fd_pre F hP hS⟩ rfl hn hl.1 rfl (lv_room hcat) hdg ⟨Nat.zero_le _, Nat.zero_le _⟩) (fun rv I' L' hq H1 locs1 hP1 hS1 => K rv I' L' hq p l e s m args below meth c A dC dI dA F H1 locs1 ls hP1 hS1 hl)
  intro w hw
  simp only [va_wsS, List.cons_append, List.nil_append, List.mem_cons] at hw
  rcases hw with rfl | rfl | rfl | rfl | hw
  · exact k1
  · exact k2
  · exact k4
  · exact k5
  · exact hw
/-- a private static method of a nest mate -/
theorem r_callN {own : String} (ho : y.2.2.1 = own) (hc : Con S α z mz As I L Qz) (h1 : Cond.methodLinkNest own idx z RX10 ∈ fd_nest) (k2 : Cond.static z ∈ fd_tb) (k4 : Cond.initialized z.cls ∈ fd_tb) (k5 : Cond.code z mz.1 mz.2.1 mz.2.2.2.1 ∈ fd_tb) (k6 : z.cls ≠ "java/lang/invoke/MethodHandle" ∧ z.cls ≠ "java/lang/invoke/VarHandle" ∧ (parseMethodDescriptor z.desc).map (fun d => d.parameters.length) = some n) (hd : mz.2.2.2.2 + 1 ≤ y.2.2.2.2) (hm : mz.2.1 ≤ 17) (hn : As.length = n) (hcat : (st.map fun v => v.category).sum ≤ 8) (hdg : decode y.1 pc = .ok (.invokestatic idx, 3))
    (K : ∀ (rv : Option Value) (I' : fdI) (L' : fdL), Qz rv I' L' → Rn S α y (pc + 3) lv (rv.toList ++ st) I' L' Q) : Rn S α y pc lv (As.reverse ++ st) I L Q := by
  subst ho
  intro p l e s m args below meth c A dC dI dA F H locs ls hP hS hl
  refine fd_cont F hS (va_runSN (As := As) (own := y.2.2.1) (n := n) ⟨F.1, F.2.1, F.2.2.1, F.2.2.2.1, F.2.2.2.2.2.2.1⟩ (hc l dC dI dA H.size) ⟨va_cnB n F.2.2.2.2.2.2.1 (fd_gi (fd_gc k5)) rfl rfl rfl (F.2.2.2.2.2.2.2.2.2.1.2.2.2.2.2.2 _ h1) (F.2.2.2.2.2.2.1 _ k4) k6 (fd_room hd hm), F.2.2.2.2.2.2.1 _ k2, trivial⟩ ⟨fd_blind, fd_pre F hP hS⟩ rfl hn hl.1 rfl (lv_room hcat) hdg ⟨Nat.zero_le _, Nat.zero_le _⟩) (fun rv I' L' hq H1 locs1 hP1 hS1 => K rv I' L' hq p l e s m args below meth c A dC dI dA F H1 locs1 ls hP1 hS1 hl)
/-- a method that is found from the receiver's class C: the link names x, owner's; y's code is run -/
def fd_lkO (own : String) (idx : Nat) (C : String) (x z : MethodName) (mz : fdM) (n : Nat) : Prop := Cond.methodLink own idx x ∈ fd_tb ∧ Cond.sameMethod x.cls x.cls x.name x.desc ∈ fd_tb ∧ Cond.instanceMethod x ∈ fd_tb ∧ Cond.selects C x z ∈ fd_tb ∧ Cond.instanceMethod z ∈ fd_tb ∧ Cond.initialized z.cls ∈ fd_tb ∧ Cond.code z mz.1 mz.2.1 mz.2.2.2.1 ∈ fd_tb ∧ (∃ (b0 : ByteArray) (m0 : Nat) (r0 : Option FieldType), Cond.code x b0 m0 r0 ∈ fd_tb) ∧ x.cls ≠ "java/lang/invoke/MethodHandle" ∧ x.cls ≠ "java/lang/invoke/VarHandle" ∧ (parseMethodDescriptor x.desc).map (fun d => d.parameters.length) = some n
theorem r_callO {C : String} {k ci : Nat} {ks : List Nat} (hc : Con S α z mz (.ref (α k) :: As) I L Qz) (hlk : fd_lkO y.2.2.1 idx C x z mz n) (hS0 : S[k]? = some (.inl (ci, ks))) (hcl : (vwCl[ci]?).map (fun r => r.1) = some C) (hd : mz.2.2.2.2 + 1 ≤ y.2.2.2.2) (hm : mz.2.1 ≤ 17) (hn : As.length = n) (hcat : (st.map fun v => v.category).sum ≤ 8) (hdg : decode y.1 pc = .ok (.invokevirtual idx, 3))
    (K : ∀ (rv : Option Value) (I' : fdI) (L' : fdL), Qz rv I' L' → Rn S α y (pc + 3) lv (rv.toList ++ st) I' L' Q) : Rn S α y pc lv (As.reverse ++ .ref (α k) :: st) I L Q := by
  intro p l e s m args below meth c A dC dI dA F H locs ls hP hS hl
  obtain ⟨k1, k2, k3, k4, k5, k6, k7, ⟨b0, m0, r0, k8⟩, k9, k10, k11⟩ := hlk
  have hg := fd_get S α dA I L hS0
  have hrc : ∃ q : vw_C, vwCl[ci]? = some q ∧ q.1 = C := by
    cases hq : vwCl[ci]? with
    | none => rw [hq] at hcl; cases hcl
    | some q => rw [hq] at hcl; exact ⟨q, rfl, Option.some.inj hcl⟩
  obtain ⟨q, hq, hqc⟩ := hrc
  have hrv := va_recv F.2.2.2.2.2.2.2.1 hP hq hg
  rw [hqc] at hrv
  refine fd_cont F hS (va_runU (As := As) (C := C) (own := y.2.2.1) (n := n) ⟨F.1, F.2.1, F.2.2.1, F.2.2.2.1, F.2.2.2.2.2.2.1⟩ (hc l dC dI dA H.size) (va_cwO (owner := x.cls) (x := x) n F.2.2.2.2.2.2.1 (fd_gi ?_) rfl rfl rfl (b0 := b0) (m0 := m0) (r0 := r0) k8 ⟨k9, k10, k11⟩ (fd_room hd hm)) ⟨fd_blind, hrv, fd_pre F hP hS⟩ rfl hn hl.1 rfl (lv_room hcat) hdg ⟨Nat.zero_le _, Nat.zero_le _⟩) (fun rv I' L' hq H1 locs1 hP1 hS1 => K rv I' L' hq p l e s m args below meth c A dC dI dA F H1 locs1 ls hP1 hS1 hl)
  intro w hw
  simp only [va_wsO, List.cons_append, List.nil_append, List.mem_cons] at hw
  rcases hw with rfl | rfl | rfl | rfl | rfl | rfl | rfl | hw
  · exact k1
  · exact k2
  · exact k3
  · exact k4
  · exact k5
  · exact k6
  · exact k7
  · exact hw
end FDC
end
