section
-- ===== PART A: goes FIRST, ahead of the names: the tables' words, and 'selects' of the private methods out of them =====
/-- a private method of a class that the tables say can be made, by its rows of tables_1 -/
def lw_okq (q : MethodName × Nat) : Prop := (q.1.cls ≠ "java/lang/invoke/MethodHandle" ∧ q.1.cls ≠ "java/lang/invoke/VarHandle") ∧ Cond.instantiable q.1.cls q.2 ∈ tables_1 ∧ Cond.privateMethod q.1 ∈ tables_1 ∧ Cond.instanceMethod q.1 ∈ tables_1
theorem lw_p0 : lw_okq (⟨"ShuffledDays", "counted", "(I)I"⟩, 13) := ⟨⟨by decide +kernel, by decide +kernel⟩, List.mem_of_getElem? (i := 20) (by decide +kernel), List.mem_of_getElem? (i := 310) (by decide +kernel), List.mem_of_getElem? (i := 311) (by decide +kernel)⟩
theorem lw_p1 : lw_okq (⟨"ShuffledDays", "badAs", "(I)I"⟩, 13) := ⟨⟨by decide +kernel, by decide +kernel⟩, List.mem_of_getElem? (i := 20) (by decide +kernel), List.mem_of_getElem? (i := 365) (by decide +kernel), List.mem_of_getElem? (i := 366) (by decide +kernel)⟩
theorem lw_p2 : lw_okq (⟨"ShuffledDays$Text", "nextToken", "()V"⟩, 8) := ⟨⟨by decide +kernel, by decide +kernel⟩, List.mem_of_getElem? (i := 111) (by decide +kernel), List.mem_of_getElem? (i := 423) (by decide +kernel), List.mem_of_getElem? (i := 424) (by decide +kernel)⟩
theorem lw_p3 : lw_okq (⟨"ShuffledDays$Text", "isLetter", "(I)Z"⟩, 8) := ⟨⟨by decide +kernel, by decide +kernel⟩, List.mem_of_getElem? (i := 111) (by decide +kernel), List.mem_of_getElem? (i := 427) (by decide +kernel), List.mem_of_getElem? (i := 428) (by decide +kernel)⟩
theorem lw_p4 : lw_okq (⟨"ShuffledDays$Text", "passLetters", "()V"⟩, 8) := ⟨⟨by decide +kernel, by decide +kernel⟩, List.mem_of_getElem? (i := 111) (by decide +kernel), List.mem_of_getElem? (i := 431) (by decide +kernel), List.mem_of_getElem? (i := 432) (by decide +kernel)⟩
theorem lw_p5 : lw_okq (⟨"ShuffledDays$Text", "spells", "(Ljava/lang/String;)Z"⟩, 8) := ⟨⟨by decide +kernel, by decide +kernel⟩, List.mem_of_getElem? (i := 111) (by decide +kernel), List.mem_of_getElem? (i := 445) (by decide +kernel), List.mem_of_getElem? (i := 446) (by decide +kernel)⟩
theorem lw_p6 : lw_okq (⟨"ShuffledDays$Text", "isFigure", "(I)Z"⟩, 8) := ⟨⟨by decide +kernel, by decide +kernel⟩, List.mem_of_getElem? (i := 111) (by decide +kernel), List.mem_of_getElem? (i := 497) (by decide +kernel), List.mem_of_getElem? (i := 498) (by decide +kernel)⟩
theorem lw_p7 : lw_okq (⟨"ShuffledDays$Text", "passFigures", "()V"⟩, 8) := ⟨⟨by decide +kernel, by decide +kernel⟩, List.mem_of_getElem? (i := 111) (by decide +kernel), List.mem_of_getElem? (i := 501) (by decide +kernel), List.mem_of_getElem? (i := 502) (by decide +kernel)⟩
theorem lw_p8 : lw_okq (⟨"ShuffledDays$Text", "takeItem", "()Z"⟩, 8) := ⟨⟨by decide +kernel, by decide +kernel⟩, List.mem_of_getElem? (i := 111) (by decide +kernel), List.mem_of_getElem? (i := 505) (by decide +kernel), List.mem_of_getElem? (i := 506) (by decide +kernel)⟩
theorem lw_p9 : lw_okq (⟨"ShuffledDays", "follow", "(I)V"⟩, 13) := ⟨⟨by decide +kernel, by decide +kernel⟩, List.mem_of_getElem? (i := 20) (by decide +kernel), List.mem_of_getElem? (i := 531) (by decide +kernel), List.mem_of_getElem? (i := 532) (by decide +kernel)⟩
theorem lw_p10 : lw_okq (⟨"ShuffledDays$Course", "placeDays", "()V"⟩, 11) := ⟨⟨by decide +kernel, by decide +kernel⟩, List.mem_of_getElem? (i := 147) (by decide +kernel), List.mem_of_getElem? (i := 600) (by decide +kernel), List.mem_of_getElem? (i := 601) (by decide +kernel)⟩
theorem lw_p11 : lw_okq (⟨"ShuffledDays", "hangsTogether", "()Z"⟩, 13) := ⟨⟨by decide +kernel, by decide +kernel⟩, List.mem_of_getElem? (i := 20) (by decide +kernel), List.mem_of_getElem? (i := 650) (by decide +kernel), List.mem_of_getElem? (i := 651) (by decide +kernel)⟩
theorem lw_p12 : lw_okq (⟨"ShuffledDays", "livesAsTold", "()Z"⟩, 13) := ⟨⟨by decide +kernel, by decide +kernel⟩, List.mem_of_getElem? (i := 20) (by decide +kernel), List.mem_of_getElem? (i := 654) (by decide +kernel), List.mem_of_getElem? (i := 655) (by decide +kernel)⟩
theorem lw_p13 : lw_okq (⟨"ShuffledDays$Course", "swap", "(II)V"⟩, 11) := ⟨⟨by decide +kernel, by decide +kernel⟩, List.mem_of_getElem? (i := 147) (by decide +kernel), List.mem_of_getElem? (i := 666) (by decide +kernel), List.mem_of_getElem? (i := 667) (by decide +kernel)⟩
theorem lw_p14 : lw_okq (⟨"ShuffledDays$NoteSearch", "keepRows", "(LShuffledDays$Life;LShuffledDays$Course;)V"⟩, 5) := ⟨⟨by decide +kernel, by decide +kernel⟩, List.mem_of_getElem? (i := 194) (by decide +kernel), List.mem_of_getElem? (i := 694) (by decide +kernel), List.mem_of_getElem? (i := 695) (by decide +kernel)⟩
theorem lw_p15 : lw_okq (⟨"ShuffledDays$NoteSearch", "allWell", "(LShuffledDays$Course;)Z"⟩, 5) := ⟨⟨by decide +kernel, by decide +kernel⟩, List.mem_of_getElem? (i := 194) (by decide +kernel), List.mem_of_getElem? (i := 701) (by decide +kernel), List.mem_of_getElem? (i := 702) (by decide +kernel)⟩
def lw_privs_1 : List (MethodName × Nat) := [(⟨"ShuffledDays", "counted", "(I)I"⟩, 13), (⟨"ShuffledDays", "badAs", "(I)I"⟩, 13), (⟨"ShuffledDays$Text", "nextToken", "()V"⟩, 8), (⟨"ShuffledDays$Text", "isLetter", "(I)Z"⟩, 8), (⟨"ShuffledDays$Text", "passLetters", "()V"⟩, 8), (⟨"ShuffledDays$Text", "spells", "(Ljava/lang/String;)Z"⟩, 8), (⟨"ShuffledDays$Text", "isFigure", "(I)Z"⟩, 8), (⟨"ShuffledDays$Text", "passFigures", "()V"⟩, 8), (⟨"ShuffledDays$Text", "takeItem", "()Z"⟩, 8), (⟨"ShuffledDays", "follow", "(I)V"⟩, 13), (⟨"ShuffledDays$Course", "placeDays", "()V"⟩, 11), (⟨"ShuffledDays", "hangsTogether", "()Z"⟩, 13), (⟨"ShuffledDays", "livesAsTold", "()Z"⟩, 13), (⟨"ShuffledDays$Course", "swap", "(II)V"⟩, 11), (⟨"ShuffledDays$NoteSearch", "keepRows", "(LShuffledDays$Life;LShuffledDays$Course;)V"⟩, 5), (⟨"ShuffledDays$NoteSearch", "allWell", "(LShuffledDays$Course;)Z"⟩, 5)]
theorem lw_r1 : ∀ q ∈ lw_privs_1, lw_okq q := List.forall_mem_cons.mpr ⟨lw_p0, List.forall_mem_cons.mpr ⟨lw_p1, List.forall_mem_cons.mpr ⟨lw_p2, List.forall_mem_cons.mpr ⟨lw_p3, List.forall_mem_cons.mpr ⟨lw_p4, List.forall_mem_cons.mpr ⟨lw_p5, List.forall_mem_cons.mpr ⟨lw_p6, List.forall_mem_cons.mpr ⟨lw_p7, List.forall_mem_cons.mpr ⟨lw_p8, List.forall_mem_cons.mpr ⟨lw_p9, List.forall_mem_cons.mpr ⟨lw_p10, List.forall_mem_cons.mpr ⟨lw_p11, List.forall_mem_cons.mpr ⟨lw_p12, List.forall_mem_cons.mpr ⟨lw_p13, List.forall_mem_cons.mpr ⟨lw_p14, List.forall_mem_cons.mpr ⟨lw_p15, fun _ h => absurd h List.not_mem_nil⟩⟩⟩⟩⟩⟩⟩⟩⟩⟩⟩⟩⟩⟩⟩⟩
theorem lw_p16 : lw_okq (⟨"ShuffledDays$NoteSearch", "findOne", "(LShuffledDays$Course;)Z"⟩, 5) := ⟨⟨by decide +kernel, by decide +kernel⟩, List.mem_of_getElem? (i := 194) (by decide +kernel), List.mem_of_getElem? (i := 707) (by decide +kernel), List.mem_of_getElem? (i := 708) (by decide +kernel)⟩
theorem lw_p17 : lw_okq (⟨"ShuffledDays$NoteSearch", "wellWith", "(LShuffledDays$Course;II)Z"⟩, 5) := ⟨⟨by decide +kernel, by decide +kernel⟩, List.mem_of_getElem? (i := 194) (by decide +kernel), List.mem_of_getElem? (i := 711) (by decide +kernel), List.mem_of_getElem? (i := 712) (by decide +kernel)⟩
theorem lw_p18 : lw_okq (⟨"ShuffledDays$NoteSearch", "findTwo", "(LShuffledDays$Course;)Z"⟩, 5) := ⟨⟨by decide +kernel, by decide +kernel⟩, List.mem_of_getElem? (i := 194) (by decide +kernel), List.mem_of_getElem? (i := 718) (by decide +kernel), List.mem_of_getElem? (i := 719) (by decide +kernel)⟩
theorem lw_p19 : lw_okq (⟨"ShuffledDays", "setFraction", "(JJ)V"⟩, 13) := ⟨⟨by decide +kernel, by decide +kernel⟩, List.mem_of_getElem? (i := 20) (by decide +kernel), List.mem_of_getElem? (i := 726) (by decide +kernel), List.mem_of_getElem? (i := 727) (by decide +kernel)⟩
theorem lw_p20 : lw_okq (⟨"ShuffledDays", "shareKnown", "()V"⟩, 13) := ⟨⟨by decide +kernel, by decide +kernel⟩, List.mem_of_getElem? (i := 20) (by decide +kernel), List.mem_of_getElem? (i := 778) (by decide +kernel), List.mem_of_getElem? (i := 779) (by decide +kernel)⟩
theorem lw_p21 : lw_okq (⟨"ShuffledDays", "bestNaming", "(I)I"⟩, 13) := ⟨⟨by decide +kernel, by decide +kernel⟩, List.mem_of_getElem? (i := 20) (by decide +kernel), List.mem_of_getElem? (i := 791) (by decide +kernel), List.mem_of_getElem? (i := 792) (by decide +kernel)⟩
theorem lw_p22 : lw_okq (⟨"ShuffledDays", "leadByNaming", "(II)I"⟩, 13) := ⟨⟨by decide +kernel, by decide +kernel⟩, List.mem_of_getElem? (i := 20) (by decide +kernel), List.mem_of_getElem? (i := 795) (by decide +kernel), List.mem_of_getElem? (i := 796) (by decide +kernel)⟩
theorem lw_p23 : lw_okq (⟨"ShuffledDays", "countOf", "(I)I"⟩, 13) := ⟨⟨by decide +kernel, by decide +kernel⟩, List.mem_of_getElem? (i := 20) (by decide +kernel), List.mem_of_getElem? (i := 845) (by decide +kernel), List.mem_of_getElem? (i := 846) (by decide +kernel)⟩
theorem lw_p24 : lw_okq (⟨"ShuffledDaysModel", "begins", "(I)V"⟩, 39) := ⟨⟨by decide +kernel, by decide +kernel⟩, List.mem_of_getElem? (i := 865) (by decide +kernel), List.mem_of_getElem? (i := 871) (by decide +kernel), List.mem_of_getElem? (i := 872) (by decide +kernel)⟩
theorem lw_p25 : lw_okq (⟨"ShuffledDaysModel", "bad", "(I)I"⟩, 39) := ⟨⟨by decide +kernel, by decide +kernel⟩, List.mem_of_getElem? (i := 865) (by decide +kernel), List.mem_of_getElem? (i := 1001) (by decide +kernel), List.mem_of_getElem? (i := 1002) (by decide +kernel)⟩
theorem lw_p26 : lw_okq (⟨"ShuffledDaysModel", "isDay", "(I)Z"⟩, 39) := ⟨⟨by decide +kernel, by decide +kernel⟩, List.mem_of_getElem? (i := 865) (by decide +kernel), List.mem_of_getElem? (i := 1009) (by decide +kernel), List.mem_of_getElem? (i := 1010) (by decide +kernel)⟩
theorem lw_p27 : lw_okq (⟨"ShuffledDaysModel", "no", "()I"⟩, 39) := ⟨⟨by decide +kernel, by decide +kernel⟩, List.mem_of_getElem? (i := 865) (by decide +kernel), List.mem_of_getElem? (i := 1021) (by decide +kernel), List.mem_of_getElem? (i := 1022) (by decide +kernel)⟩
theorem lw_p28 : lw_okq (⟨"ShuffledDaysModel", "isNote", "(II)Z"⟩, 39) := ⟨⟨by decide +kernel, by decide +kernel⟩, List.mem_of_getElem? (i := 865) (by decide +kernel), List.mem_of_getElem? (i := 1029) (by decide +kernel), List.mem_of_getElem? (i := 1030) (by decide +kernel)⟩
theorem lw_p29 : lw_okq (⟨"ShuffledDaysModel", "full", "()I"⟩, 39) := ⟨⟨by decide +kernel, by decide +kernel⟩, List.mem_of_getElem? (i := 865) (by decide +kernel), List.mem_of_getElem? (i := 1033) (by decide +kernel), List.mem_of_getElem? (i := 1034) (by decide +kernel)⟩
theorem lw_p30 : lw_okq (⟨"ShuffledDaysModel", "diaries", "()I"⟩, 39) := ⟨⟨by decide +kernel, by decide +kernel⟩, List.mem_of_getElem? (i := 865) (by decide +kernel), List.mem_of_getElem? (i := 1050) (by decide +kernel), List.mem_of_getElem? (i := 1051) (by decide +kernel)⟩
theorem lw_p31 : lw_okq (⟨"ShuffledDaysModel", "isRank", "(I)Z"⟩, 39) := ⟨⟨by decide +kernel, by decide +kernel⟩, List.mem_of_getElem? (i := 865) (by decide +kernel), List.mem_of_getElem? (i := 1058) (by decide +kernel), List.mem_of_getElem? (i := 1059) (by decide +kernel)⟩
def lw_privs_2 : List (MethodName × Nat) := [(⟨"ShuffledDays$NoteSearch", "findOne", "(LShuffledDays$Course;)Z"⟩, 5), (⟨"ShuffledDays$NoteSearch", "wellWith", "(LShuffledDays$Course;II)Z"⟩, 5), (⟨"ShuffledDays$NoteSearch", "findTwo", "(LShuffledDays$Course;)Z"⟩, 5), (⟨"ShuffledDays", "setFraction", "(JJ)V"⟩, 13), (⟨"ShuffledDays", "shareKnown", "()V"⟩, 13), (⟨"ShuffledDays", "bestNaming", "(I)I"⟩, 13), (⟨"ShuffledDays", "leadByNaming", "(II)I"⟩, 13), (⟨"ShuffledDays", "countOf", "(I)I"⟩, 13), (⟨"ShuffledDaysModel", "begins", "(I)V"⟩, 39), (⟨"ShuffledDaysModel", "bad", "(I)I"⟩, 39), (⟨"ShuffledDaysModel", "isDay", "(I)Z"⟩, 39), (⟨"ShuffledDaysModel", "no", "()I"⟩, 39), (⟨"ShuffledDaysModel", "isNote", "(II)Z"⟩, 39), (⟨"ShuffledDaysModel", "full", "()I"⟩, 39), (⟨"ShuffledDaysModel", "diaries", "()I"⟩, 39), (⟨"ShuffledDaysModel", "isRank", "(I)Z"⟩, 39)]
theorem lw_r2 : ∀ q ∈ lw_privs_2, lw_okq q := List.forall_mem_cons.mpr ⟨lw_p16, List.forall_mem_cons.mpr ⟨lw_p17, List.forall_mem_cons.mpr ⟨lw_p18, List.forall_mem_cons.mpr ⟨lw_p19, List.forall_mem_cons.mpr ⟨lw_p20, List.forall_mem_cons.mpr ⟨lw_p21, List.forall_mem_cons.mpr ⟨lw_p22, List.forall_mem_cons.mpr ⟨lw_p23, List.forall_mem_cons.mpr ⟨lw_p24, List.forall_mem_cons.mpr ⟨lw_p25, List.forall_mem_cons.mpr ⟨lw_p26, List.forall_mem_cons.mpr ⟨lw_p27, List.forall_mem_cons.mpr ⟨lw_p28, List.forall_mem_cons.mpr ⟨lw_p29, List.forall_mem_cons.mpr ⟨lw_p30, List.forall_mem_cons.mpr ⟨lw_p31, fun _ h => absurd h List.not_mem_nil⟩⟩⟩⟩⟩⟩⟩⟩⟩⟩⟩⟩⟩⟩⟩⟩
theorem lw_p32 : lw_okq (⟨"ShuffledDaysModel", "orders", "()I"⟩, 39) := ⟨⟨by decide +kernel, by decide +kernel⟩, List.mem_of_getElem? (i := 865) (by decide +kernel), List.mem_of_getElem? (i := 1062) (by decide +kernel), List.mem_of_getElem? (i := 1063) (by decide +kernel)⟩
theorem lw_p33 : lw_okq (⟨"ShuffledDaysModel", "rankOf", "([I)I"⟩, 39) := ⟨⟨by decide +kernel, by decide +kernel⟩, List.mem_of_getElem? (i := 865) (by decide +kernel), List.mem_of_getElem? (i := 1066) (by decide +kernel), List.mem_of_getElem? (i := 1067) (by decide +kernel)⟩
theorem lw_p34 : lw_okq (⟨"ShuffledDaysModel", "rowOf", "(I[I)V"⟩, 39) := ⟨⟨by decide +kernel, by decide +kernel⟩, List.mem_of_getElem? (i := 865) (by decide +kernel), List.mem_of_getElem? (i := 1070) (by decide +kernel), List.mem_of_getElem? (i := 1071) (by decide +kernel)⟩
theorem lw_p35 : lw_okq (⟨"ShuffledDaysModel", "lives", "([I)V"⟩, 39) := ⟨⟨by decide +kernel, by decide +kernel⟩, List.mem_of_getElem? (i := 865) (by decide +kernel), List.mem_of_getElem? (i := 1082) (by decide +kernel), List.mem_of_getElem? (i := 1083) (by decide +kernel)⟩
theorem lw_p36 : lw_okq (⟨"ShuffledDaysModel", "learns", "(I)I"⟩, 39) := ⟨⟨by decide +kernel, by decide +kernel⟩, List.mem_of_getElem? (i := 865) (by decide +kernel), List.mem_of_getElem? (i := 1086) (by decide +kernel), List.mem_of_getElem? (i := 1087) (by decide +kernel)⟩
theorem lw_p37 : lw_okq (⟨"ShuffledDaysModel", "asks", "(I)I"⟩, 39) := ⟨⟨by decide +kernel, by decide +kernel⟩, List.mem_of_getElem? (i := 865) (by decide +kernel), List.mem_of_getElem? (i := 1090) (by decide +kernel), List.mem_of_getElem? (i := 1091) (by decide +kernel)⟩
theorem lw_p38 : lw_okq (⟨"ShuffledDaysModel", "doesHang", "()Z"⟩, 39) := ⟨⟨by decide +kernel, by decide +kernel⟩, List.mem_of_getElem? (i := 865) (by decide +kernel), List.mem_of_getElem? (i := 1117) (by decide +kernel), List.mem_of_getElem? (i := 1118) (by decide +kernel)⟩
theorem lw_p39 : lw_okq (⟨"ShuffledDaysModel", "isTold", "()Z"⟩, 39) := ⟨⟨by decide +kernel, by decide +kernel⟩, List.mem_of_getElem? (i := 865) (by decide +kernel), List.mem_of_getElem? (i := 1121) (by decide +kernel), List.mem_of_getElem? (i := 1122) (by decide +kernel)⟩
theorem lw_p40 : lw_okq (⟨"ShuffledDaysModel", "turns", "([I)V"⟩, 39) := ⟨⟨by decide +kernel, by decide +kernel⟩, List.mem_of_getElem? (i := 865) (by decide +kernel), List.mem_of_getElem? (i := 1125) (by decide +kernel), List.mem_of_getElem? (i := 1126) (by decide +kernel)⟩
theorem lw_p41 : lw_okq (⟨"ShuffledDaysModel", "fewest", "()I"⟩, 39) := ⟨⟨by decide +kernel, by decide +kernel⟩, List.mem_of_getElem? (i := 865) (by decide +kernel), List.mem_of_getElem? (i := 1142) (by decide +kernel), List.mem_of_getElem? (i := 1143) (by decide +kernel)⟩
theorem lw_p42 : lw_okq (⟨"ShuffledDaysModel", "areWell", "()Z"⟩, 39) := ⟨⟨by decide +kernel, by decide +kernel⟩, List.mem_of_getElem? (i := 865) (by decide +kernel), List.mem_of_getElem? (i := 1146) (by decide +kernel), List.mem_of_getElem? (i := 1147) (by decide +kernel)⟩
theorem lw_p43 : lw_okq (⟨"ShuffledDaysModel", "adds", "(I)Z"⟩, 39) := ⟨⟨by decide +kernel, by decide +kernel⟩, List.mem_of_getElem? (i := 865) (by decide +kernel), List.mem_of_getElem? (i := 1150) (by decide +kernel), List.mem_of_getElem? (i := 1151) (by decide +kernel)⟩
theorem lw_p44 : lw_okq (⟨"ShuffledDaysModel", "tells", "(JJ)V"⟩, 39) := ⟨⟨by decide +kernel, by decide +kernel⟩, List.mem_of_getElem? (i := 865) (by decide +kernel), List.mem_of_getElem? (i := 1158) (by decide +kernel), List.mem_of_getElem? (i := 1159) (by decide +kernel)⟩
theorem lw_p45 : lw_okq (⟨"ShuffledDaysModel", "both", "()V"⟩, 39) := ⟨⟨by decide +kernel, by decide +kernel⟩, List.mem_of_getElem? (i := 865) (by decide +kernel), List.mem_of_getElem? (i := 1192) (by decide +kernel), List.mem_of_getElem? (i := 1193) (by decide +kernel)⟩
theorem lw_p46 : lw_okq (⟨"ShuffledDaysModel", "named", "(II)I"⟩, 39) := ⟨⟨by decide +kernel, by decide +kernel⟩, List.mem_of_getElem? (i := 865) (by decide +kernel), List.mem_of_getElem? (i := 1204) (by decide +kernel), List.mem_of_getElem? (i := 1205) (by decide +kernel)⟩
theorem lw_p47 : lw_okq (⟨"ShuffledDaysModel", "skips", "()V"⟩, 39) := ⟨⟨by decide +kernel, by decide +kernel⟩, List.mem_of_getElem? (i := 865) (by decide +kernel), List.mem_of_getElem? (i := 1236) (by decide +kernel), List.mem_of_getElem? (i := 1237) (by decide +kernel)⟩
def lw_privs_3 : List (MethodName × Nat) := [(⟨"ShuffledDaysModel", "orders", "()I"⟩, 39), (⟨"ShuffledDaysModel", "rankOf", "([I)I"⟩, 39), (⟨"ShuffledDaysModel", "rowOf", "(I[I)V"⟩, 39), (⟨"ShuffledDaysModel", "lives", "([I)V"⟩, 39), (⟨"ShuffledDaysModel", "learns", "(I)I"⟩, 39), (⟨"ShuffledDaysModel", "asks", "(I)I"⟩, 39), (⟨"ShuffledDaysModel", "doesHang", "()Z"⟩, 39), (⟨"ShuffledDaysModel", "isTold", "()Z"⟩, 39), (⟨"ShuffledDaysModel", "turns", "([I)V"⟩, 39), (⟨"ShuffledDaysModel", "fewest", "()I"⟩, 39), (⟨"ShuffledDaysModel", "areWell", "()Z"⟩, 39), (⟨"ShuffledDaysModel", "adds", "(I)Z"⟩, 39), (⟨"ShuffledDaysModel", "tells", "(JJ)V"⟩, 39), (⟨"ShuffledDaysModel", "both", "()V"⟩, 39), (⟨"ShuffledDaysModel", "named", "(II)I"⟩, 39), (⟨"ShuffledDaysModel", "skips", "()V"⟩, 39)]
theorem lw_r3 : ∀ q ∈ lw_privs_3, lw_okq q := List.forall_mem_cons.mpr ⟨lw_p32, List.forall_mem_cons.mpr ⟨lw_p33, List.forall_mem_cons.mpr ⟨lw_p34, List.forall_mem_cons.mpr ⟨lw_p35, List.forall_mem_cons.mpr ⟨lw_p36, List.forall_mem_cons.mpr ⟨lw_p37, List.forall_mem_cons.mpr ⟨lw_p38, List.forall_mem_cons.mpr ⟨lw_p39, List.forall_mem_cons.mpr ⟨lw_p40, List.forall_mem_cons.mpr ⟨lw_p41, List.forall_mem_cons.mpr ⟨lw_p42, List.forall_mem_cons.mpr ⟨lw_p43, List.forall_mem_cons.mpr ⟨lw_p44, List.forall_mem_cons.mpr ⟨lw_p45, List.forall_mem_cons.mpr ⟨lw_p46, List.forall_mem_cons.mpr ⟨lw_p47, fun _ h => absurd h List.not_mem_nil⟩⟩⟩⟩⟩⟩⟩⟩⟩⟩⟩⟩⟩⟩⟩⟩
theorem lw_p48 : lw_okq (⟨"ShuffledDaysModel", "readItem", "()V"⟩, 39) := ⟨⟨by decide +kernel, by decide +kernel⟩, List.mem_of_getElem? (i := 865) (by decide +kernel), List.mem_of_getElem? (i := 1240) (by decide +kernel), List.mem_of_getElem? (i := 1241) (by decide +kernel)⟩
theorem lw_p49 : lw_okq (⟨"ShuffledDaysModel", "word", "()I"⟩, 39) := ⟨⟨by decide +kernel, by decide +kernel⟩, List.mem_of_getElem? (i := 865) (by decide +kernel), List.mem_of_getElem? (i := 1244) (by decide +kernel), List.mem_of_getElem? (i := 1245) (by decide +kernel)⟩
theorem lw_p50 : lw_okq (⟨"ShuffledDaysModel", "figure", "()I"⟩, 39) := ⟨⟨by decide +kernel, by decide +kernel⟩, List.mem_of_getElem? (i := 865) (by decide +kernel), List.mem_of_getElem? (i := 1258) (by decide +kernel), List.mem_of_getElem? (i := 1259) (by decide +kernel)⟩
theorem lw_p51 : lw_okq (⟨"ShuffledDaysModel", "isFigure", "(I)Z"⟩, 39) := ⟨⟨by decide +kernel, by decide +kernel⟩, List.mem_of_getElem? (i := 865) (by decide +kernel), List.mem_of_getElem? (i := 1262) (by decide +kernel), List.mem_of_getElem? (i := 1263) (by decide +kernel)⟩
theorem lw_p52 : lw_okq (⟨"ShuffledDaysModel", "keeps", "(I)V"⟩, 39) := ⟨⟨by decide +kernel, by decide +kernel⟩, List.mem_of_getElem? (i := 865) (by decide +kernel), List.mem_of_getElem? (i := 1268) (by decide +kernel), List.mem_of_getElem? (i := 1269) (by decide +kernel)⟩
theorem lw_p53 : lw_okq (⟨"ShuffledDaysModel", "lay", "([III)I"⟩, 39) := ⟨⟨by decide +kernel, by decide +kernel⟩, List.mem_of_getElem? (i := 865) (by decide +kernel), List.mem_of_getElem? (i := 1272) (by decide +kernel), List.mem_of_getElem? (i := 1273) (by decide +kernel)⟩
theorem lw_p54 : lw_okq (⟨"ShuffledDaysModel", "toldAside", "(IZ)V"⟩, 39) := ⟨⟨by decide +kernel, by decide +kernel⟩, List.mem_of_getElem? (i := 865) (by decide +kernel), List.mem_of_getElem? (i := 1276) (by decide +kernel), List.mem_of_getElem? (i := 1277) (by decide +kernel)⟩
theorem lw_p55 : lw_okq (⟨"ShuffledDaysModel", "does", "(I)Z"⟩, 39) := ⟨⟨by decide +kernel, by decide +kernel⟩, List.mem_of_getElem? (i := 865) (by decide +kernel), List.mem_of_getElem? (i := 1280) (by decide +kernel), List.mem_of_getElem? (i := 1281) (by decide +kernel)⟩
theorem lw_p56 : lw_okq (⟨"ShuffledDaysModel", "goesOn", "(I)V"⟩, 39) := ⟨⟨by decide +kernel, by decide +kernel⟩, List.mem_of_getElem? (i := 865) (by decide +kernel), List.mem_of_getElem? (i := 1290) (by decide +kernel), List.mem_of_getElem? (i := 1291) (by decide +kernel)⟩
theorem lw_p57 : lw_okq (⟨"ShuffledDaysModel", "gives", "(I[II)I"⟩, 39) := ⟨⟨by decide +kernel, by decide +kernel⟩, List.mem_of_getElem? (i := 865) (by decide +kernel), List.mem_of_getElem? (i := 1294) (by decide +kernel), List.mem_of_getElem? (i := 1295) (by decide +kernel)⟩
theorem lw_p58 : lw_okq (⟨"ShuffledDaysModel", "counts", "(I)I"⟩, 39) := ⟨⟨by decide +kernel, by decide +kernel⟩, List.mem_of_getElem? (i := 865) (by decide +kernel), List.mem_of_getElem? (i := 1319) (by decide +kernel), List.mem_of_getElem? (i := 1320) (by decide +kernel)⟩
theorem lw_p59 : lw_okq (⟨"ShuffledDaysModel", "hashes", "(J)V"⟩, 39) := ⟨⟨by decide +kernel, by decide +kernel⟩, List.mem_of_getElem? (i := 865) (by decide +kernel), List.mem_of_getElem? (i := 1328) (by decide +kernel), List.mem_of_getElem? (i := 1329) (by decide +kernel)⟩
def lw_privs_4 : List (MethodName × Nat) := [(⟨"ShuffledDaysModel", "readItem", "()V"⟩, 39), (⟨"ShuffledDaysModel", "word", "()I"⟩, 39), (⟨"ShuffledDaysModel", "figure", "()I"⟩, 39), (⟨"ShuffledDaysModel", "isFigure", "(I)Z"⟩, 39), (⟨"ShuffledDaysModel", "keeps", "(I)V"⟩, 39), (⟨"ShuffledDaysModel", "lay", "([III)I"⟩, 39), (⟨"ShuffledDaysModel", "toldAside", "(IZ)V"⟩, 39), (⟨"ShuffledDaysModel", "does", "(I)Z"⟩, 39), (⟨"ShuffledDaysModel", "goesOn", "(I)V"⟩, 39), (⟨"ShuffledDaysModel", "gives", "(I[II)I"⟩, 39), (⟨"ShuffledDaysModel", "counts", "(I)I"⟩, 39), (⟨"ShuffledDaysModel", "hashes", "(J)V"⟩, 39)]
theorem lw_r4 : ∀ q ∈ lw_privs_4, lw_okq q := List.forall_mem_cons.mpr ⟨lw_p48, List.forall_mem_cons.mpr ⟨lw_p49, List.forall_mem_cons.mpr ⟨lw_p50, List.forall_mem_cons.mpr ⟨lw_p51, List.forall_mem_cons.mpr ⟨lw_p52, List.forall_mem_cons.mpr ⟨lw_p53, List.forall_mem_cons.mpr ⟨lw_p54, List.forall_mem_cons.mpr ⟨lw_p55, List.forall_mem_cons.mpr ⟨lw_p56, List.forall_mem_cons.mpr ⟨lw_p57, List.forall_mem_cons.mpr ⟨lw_p58, List.forall_mem_cons.mpr ⟨lw_p59, fun _ h => absurd h List.not_mem_nil⟩⟩⟩⟩⟩⟩⟩⟩⟩⟩⟩⟩
def lw_privs : List (MethodName × Nat) := lw_privs_1 ++ (lw_privs_2 ++ (lw_privs_3 ++ (lw_privs_4)))
def lw_tbl : List Cond := k2_sels lw_privs ++ tables_1
theorem lw_privs_ok : ∀ q ∈ lw_privs, lw_okq q := by
  show ∀ q ∈ lw_privs_1 ++ (lw_privs_2 ++ (lw_privs_3 ++ (lw_privs_4))), lw_okq q
  exact List.forall_mem_append.mpr ⟨lw_r1, List.forall_mem_append.mpr ⟨lw_r2, List.forall_mem_append.mpr ⟨lw_r3, lw_r4⟩⟩⟩
end
section
def RX0 : String := "ShuffledDays$BusyDay"
def TX0 : u_T := fun k => match k with
  | _ => ("", "", "", false)
def tyX0 : Nat → FieldType := fun k => match k with
  | _ => .int
abbrev wsX00 : List Cond := u_ws RX0 TX0 0
theorem nmX0 : ∀ a, a < 0 → ∀ b, b < 0 → a ≠ b → (TX0 a).2.1 ≠ (TX0 b).2.1 := by decide +kernel
theorem tyX0_ok : ∀ k, k < 0 → parseFieldDescriptor (TX0 k).2.2.1 = some (tyX0 k) := by decide +kernel
abbrev cX0_init : ByteArray := prog_2_method_1_code
def yX0_init : MethodName := ⟨RX0, "<init>", "()V"⟩
abbrev cX0_canWrite : ByteArray := prog_2_method_2_code
def yX0_canWrite : MethodName := ⟨RX0, "canWrite", "()Z"⟩
def RX1 : String := "ShuffledDays$ChildDay"
def TX1 : u_T := fun k => match k with
  | _ => ("", "", "", false)
def tyX1 : Nat → FieldType := fun k => match k with
  | _ => .int
abbrev wsX10 : List Cond := u_ws RX1 TX1 0
theorem nmX1 : ∀ a, a < 0 → ∀ b, b < 0 → a ≠ b → (TX1 a).2.1 ≠ (TX1 b).2.1 := by decide +kernel
theorem tyX1_ok : ∀ k, k < 0 → parseFieldDescriptor (TX1 k).2.2.1 = some (tyX1 k) := by decide +kernel
abbrev cX1_init : ByteArray := prog_3_method_1_code
def yX1_init : MethodName := ⟨RX1, "<init>", "()V"⟩
abbrev cX1_canRead : ByteArray := prog_3_method_2_code
def yX1_canRead : MethodName := ⟨RX1, "canRead", "()Z"⟩
def RX2 : String := "ShuffledDays$Course"
def TX2 : u_T := fun k => match k with
  | 0 => ("ShuffledDays$Course", "days", "I", false)
  | 1 => ("ShuffledDays$Course", "order", "[I", true)
  | 2 => ("ShuffledDays$Course", "place", "[I", true)
  | 3 => ("ShuffledDays$Course", "reading", "[Z", true)
  | 4 => ("ShuffledDays$Course", "writing", "[Z", true)
  | 5 => ("ShuffledDays$Course", "learnt", "[I", true)
  | 6 => ("ShuffledDays$Course", "needed", "[I", true)
  | 7 => ("ShuffledDays$Course", "noted", "[I", true)
  | 8 => ("ShuffledDays$Course", "before", "[I", true)
  | 9 => ("ShuffledDays$Course", "found", "[I", true)
  | _ => ("ShuffledDays$Course", "known", "[I", true)
def tyX2 : Nat → FieldType := fun k => match k with
  | 0 => .int
  | 1 => .array .int
  | 2 => .array .int
  | 3 => .array .boolean
  | 4 => .array .boolean
  | 5 => .array .int
  | 6 => .array .int
  | 7 => .array .int
  | 8 => .array .int
  | 9 => .array .int
  | _ => .array .int
abbrev wsX20 : List Cond := u_ws RX2 TX2 11
theorem nmX2 : ∀ a, a < 11 → ∀ b, b < 11 → a ≠ b → (TX2 a).2.1 ≠ (TX2 b).2.1 := by decide +kernel
theorem tyX2_ok : ∀ k, k < 11 → parseFieldDescriptor (TX2 k).2.2.1 = some (tyX2 k) := by decide +kernel
abbrev cX2_init : ByteArray := prog_4_method_1_code
def yX2_init : MethodName := ⟨RX2, "<init>", "()V"⟩
abbrev cX2_lookAt : ByteArray := prog_4_method_2_code
def yX2_lookAt : MethodName := ⟨RX2, "lookAt", "(LShuffledDays$Life;[LShuffledDays$PlainDay;)V"⟩
abbrev cX2_teachToo : ByteArray := prog_4_method_3_code
def yX2_teachToo : MethodName := ⟨RX2, "teachToo", "(LShuffledDays$Life;[LShuffledDays$PlainDay;II)V"⟩
abbrev cX2_kindOf : ByteArray := prog_4_method_4_code
def yX2_kindOf : MethodName := ⟨RX2, "kindOf", "(LShuffledDays$Life;[LShuffledDays$PlainDay;I)LShuffledDays$PlainDay;"⟩
abbrev cX2_goTo : ByteArray := prog_4_method_5_code
def yX2_goTo : MethodName := ⟨RX2, "goTo", "(I)V"⟩
abbrev cX2_goOn : ByteArray := prog_4_method_6_code
def yX2_goOn : MethodName := ⟨RX2, "goOn", "()V"⟩
abbrev cX2_swap : ByteArray := prog_4_method_7_code
def yX2_swap : MethodName := ⟨RX2, "swap", "(II)V"⟩
abbrev cX2_placeDays : ByteArray := prog_4_method_8_code
def yX2_placeDays : MethodName := ⟨RX2, "placeDays", "()V"⟩
abbrev cX2_liveThrough : ByteArray := prog_4_method_9_code
def yX2_liveThrough : MethodName := ⟨RX2, "liveThrough", "()V"⟩
abbrev cX2_readByDate : ByteArray := prog_4_method_10_code
def yX2_readByDate : MethodName := ⟨RX2, "readByDate", "([I)V"⟩
abbrev cX2_lacking : ByteArray := prog_4_method_11_code
def yX2_lacking : MethodName := ⟨RX2, "lacking", "(I)I"⟩
abbrev cX2_firstFailing : ByteArray := prog_4_method_12_code
def yX2_firstFailing : MethodName := ⟨RX2, "firstFailing", "()I"⟩
abbrev cX2_wellAmong : ByteArray := prog_4_method_13_code
def yX2_wellAmong : MethodName := ⟨RX2, "wellAmong", "(I)I"⟩
abbrev cX2_learntAmong : ByteArray := prog_4_method_14_code
def yX2_learntAmong : MethodName := ⟨RX2, "learntAmong", "(I)I"⟩
abbrev cX2_daysAheadOf : ByteArray := prog_4_method_15_code
def yX2_daysAheadOf : MethodName := ⟨RX2, "daysAheadOf", "(I)I"⟩
abbrev cX2_keepsTold : ByteArray := prog_4_method_16_code
def yX2_keepsTold : MethodName := ⟨RX2, "keepsTold", "(LShuffledDays$Life;)Z"⟩
abbrev cX2_fitsDiary : ByteArray := prog_4_method_17_code
def yX2_fitsDiary : MethodName := ⟨RX2, "fitsDiary", "([I)Z"⟩
def RX3 : String := "ShuffledDays$DreamDay"
def TX3 : u_T := fun k => match k with
  | _ => ("", "", "", false)
def tyX3 : Nat → FieldType := fun k => match k with
  | _ => .int
abbrev wsX30 : List Cond := u_ws RX3 TX3 0
theorem nmX3 : ∀ a, a < 0 → ∀ b, b < 0 → a ≠ b → (TX3 a).2.1 ≠ (TX3 b).2.1 := by decide +kernel
theorem tyX3_ok : ∀ k, k < 0 → parseFieldDescriptor (TX3 k).2.2.1 = some (tyX3 k) := by decide +kernel
abbrev cX3_init : ByteArray := prog_5_method_1_code
def yX3_init : MethodName := ⟨RX3, "<init>", "()V"⟩
abbrev cX3_canWrite : ByteArray := prog_5_method_2_code
def yX3_canWrite : MethodName := ⟨RX3, "canWrite", "()Z"⟩
abbrev cX3_neededOf : ByteArray := prog_5_method_3_code
def yX3_neededOf : MethodName := ⟨RX3, "neededOf", "(I)I"⟩
def RX4 : String := "ShuffledDays$IllDay"
def TX4 : u_T := fun k => match k with
  | _ => ("", "", "", false)
def tyX4 : Nat → FieldType := fun k => match k with
  | _ => .int
abbrev wsX40 : List Cond := u_ws RX4 TX4 0
theorem nmX4 : ∀ a, a < 0 → ∀ b, b < 0 → a ≠ b → (TX4 a).2.1 ≠ (TX4 b).2.1 := by decide +kernel
theorem tyX4_ok : ∀ k, k < 0 → parseFieldDescriptor (TX4 k).2.2.1 = some (tyX4 k) := by decide +kernel
abbrev cX4_init : ByteArray := prog_6_method_1_code
def yX4_init : MethodName := ⟨RX4, "<init>", "()V"⟩
abbrev cX4_learntOf : ByteArray := prog_6_method_2_code
def yX4_learntOf : MethodName := ⟨RX4, "learntOf", "(II)I"⟩
def RX5 : String := "ShuffledDays$Life"
def TX5 : u_T := fun k => match k with
  | 0 => ("ShuffledDays$Life", "days", "I", false)
  | 1 => ("ShuffledDays$Life", "notes", "I", false)
  | 2 => ("ShuffledDays$Life", "pairs", "I", false)
  | 3 => ("ShuffledDays$Life", "toldOrders", "I", false)
  | 4 => ("ShuffledDays$Life", "rank", "I", false)
  | 5 => ("ShuffledDays$Life", "otherRank", "I", false)
  | 6 => ("ShuffledDays$Life", "lived", "I", false)
  | 7 => ("ShuffledDays$Life", "kind", "[I", true)
  | 8 => ("ShuffledDays$Life", "needs", "[I", true)
  | 9 => ("ShuffledDays$Life", "teaches", "[I", true)
  | 10 => ("ShuffledDays$Life", "toldAt", "[I", true)
  | 11 => ("ShuffledDays$Life", "diary", "[I", true)
  | 12 => ("ShuffledDays$Life", "noteDay", "[I", true)
  | 13 => ("ShuffledDays$Life", "noteFact", "[I", true)
  | 14 => ("ShuffledDays$Life", "pairFirst", "[I", true)
  | 15 => ("ShuffledDays$Life", "pairSecond", "[I", true)
  | _ => ("ShuffledDays$Life", "toldRank", "[I", true)
def tyX5 : Nat → FieldType := fun k => match k with
  | 0 => .int
  | 1 => .int
  | 2 => .int
  | 3 => .int
  | 4 => .int
  | 5 => .int
  | 6 => .int
  | 7 => .array .int
  | 8 => .array .int
  | 9 => .array .int
  | 10 => .array .int
  | 11 => .array .int
  | 12 => .array .int
  | 13 => .array .int
  | 14 => .array .int
  | 15 => .array .int
  | _ => .array .int
abbrev wsX50 : List Cond := u_ws RX5 TX5 17
theorem nmX5 : ∀ a, a < 17 → ∀ b, b < 17 → a ≠ b → (TX5 a).2.1 ≠ (TX5 b).2.1 := by decide +kernel
theorem tyX5_ok : ∀ k, k < 17 → parseFieldDescriptor (TX5 k).2.2.1 = some (tyX5 k) := by decide +kernel
abbrev cX5_init : ByteArray := prog_7_method_1_code
def yX5_init : MethodName := ⟨RX5, "<init>", "()V"⟩
abbrev cX5_startAnew : ByteArray := prog_7_method_2_code
def yX5_startAnew : MethodName := ⟨RX5, "startAnew", "(I)V"⟩
abbrev cX5_copyFrom : ByteArray := prog_7_method_3_code
def yX5_copyFrom : MethodName := ⟨RX5, "copyFrom", "(LShuffledDays$Life;)V"⟩
abbrev cX5_hasDay : ByteArray := prog_7_method_4_code
def yX5_hasDay : MethodName := ⟨RX5, "hasDay", "(I)Z"⟩
abbrev cX5_orders : ByteArray := prog_7_method_5_code
def yX5_orders : MethodName := ⟨RX5, "orders", "()I"⟩
abbrev cX5_hasRank : ByteArray := prog_7_method_6_code
def yX5_hasRank : MethodName := ⟨RX5, "hasRank", "(I)Z"⟩
abbrev cX5_tellDays : ByteArray := prog_7_method_7_code
def yX5_tellDays : MethodName := ⟨RX5, "tellDays", "(I)I"⟩
abbrev cX5_tellKind : ByteArray := prog_7_method_8_code
def yX5_tellKind : MethodName := ⟨RX5, "tellKind", "(II)I"⟩
abbrev cX5_tellFact : ByteArray := prog_7_method_9_code
def yX5_tellFact : MethodName := ⟨RX5, "tellFact", "(IIIZ)I"⟩
abbrev cX5_tellNote : ByteArray := prog_7_method_10_code
def yX5_tellNote : MethodName := ⟨RX5, "tellNote", "(II)I"⟩
abbrev cX5_tellPair : ByteArray := prog_7_method_11_code
def yX5_tellPair : MethodName := ⟨RX5, "tellPair", "(II)I"⟩
abbrev cX5_tellPlace : ByteArray := prog_7_method_12_code
def yX5_tellPlace : MethodName := ⟨RX5, "tellPlace", "(II)I"⟩
abbrev cX5_tellDiary : ByteArray := prog_7_method_13_code
def yX5_tellDiary : MethodName := ⟨RX5, "tellDiary", "(II)I"⟩
abbrev cX5_tellOrder : ByteArray := prog_7_method_14_code
def yX5_tellOrder : MethodName := ⟨RX5, "tellOrder", "(I)I"⟩
abbrev cX5_tellOther : ByteArray := prog_7_method_15_code
def yX5_tellOther : MethodName := ⟨RX5, "tellOther", "(I)I"⟩
abbrev cX5_tellForNotes : ByteArray := prog_7_method_16_code
def yX5_tellForNotes : MethodName := ⟨RX5, "tellForNotes", "(I)I"⟩
abbrev cX5_tearOut : ByteArray := prog_7_method_17_code
def yX5_tearOut : MethodName := ⟨RX5, "tearOut", "(I)I"⟩
abbrev cX5_tellItem : ByteArray := prog_7_method_18_code
def yX5_tellItem : MethodName := ⟨RX5, "tellItem", "(I)I"⟩
abbrev cX5_notedOn : ByteArray := prog_7_method_19_code
def yX5_notedOn : MethodName := ⟨RX5, "notedOn", "(I)I"⟩
abbrev cX5_taughtBy : ByteArray := prog_7_method_20_code
def yX5_taughtBy : MethodName := ⟨RX5, "taughtBy", "(I)I"⟩
abbrev cX5_countOfRow : ByteArray := prog_7_method_21_code
def yX5_countOfRow : MethodName := ⟨RX5, "countOfRow", "(I)I"⟩
abbrev cX5_toldInDiary : ByteArray := prog_7_method_22_code
def yX5_toldInDiary : MethodName := ⟨RX5, "toldInDiary", "()I"⟩
abbrev cX5_digestOfDays : ByteArray := prog_7_method_23_code
def yX5_digestOfDays : MethodName := ⟨RX5, "digestOfDays", "(J)J"⟩
abbrev cX5_digestOfRows : ByteArray := prog_7_method_24_code
def yX5_digestOfRows : MethodName := ⟨RX5, "digestOfRows", "(J)J"⟩
def RX6 : String := "ShuffledDays$NoteSearch"
def TX6 : u_T := fun k => match k with
  | 0 => ("ShuffledDays$NoteSearch", "fewest", "I", false)
  | 1 => ("ShuffledDays$NoteSearch", "lesser", "I", false)
  | 2 => ("ShuffledDays$NoteSearch", "greater", "I", false)
  | 3 => ("ShuffledDays$NoteSearch", "rows", "I", false)
  | _ => ("ShuffledDays$NoteSearch", "learntBefore", "[[I", true)
def tyX6 : Nat → FieldType := fun k => match k with
  | 0 => .int
  | 1 => .int
  | 2 => .int
  | 3 => .int
  | _ => .array (.array .int)
abbrev wsX60 : List Cond := u_ws RX6 TX6 5
theorem nmX6 : ∀ a, a < 5 → ∀ b, b < 5 → a ≠ b → (TX6 a).2.1 ≠ (TX6 b).2.1 := by decide +kernel
theorem tyX6_ok : ∀ k, k < 5 → parseFieldDescriptor (TX6 k).2.2.1 = some (tyX6 k) := by decide +kernel
abbrev cX6_init : ByteArray := prog_8_method_1_code
def yX6_init : MethodName := ⟨RX6, "<init>", "()V"⟩
abbrev cX6_find : ByteArray := prog_8_method_2_code
def yX6_find : MethodName := ⟨RX6, "find", "(LShuffledDays$Life;LShuffledDays$Course;)V"⟩
abbrev cX6_keepRows : ByteArray := prog_8_method_3_code
def yX6_keepRows : MethodName := ⟨RX6, "keepRows", "(LShuffledDays$Life;LShuffledDays$Course;)V"⟩
abbrev cX6_allWell : ByteArray := prog_8_method_4_code
def yX6_allWell : MethodName := ⟨RX6, "allWell", "(LShuffledDays$Course;)Z"⟩
abbrev cX6_findOne : ByteArray := prog_8_method_5_code
def yX6_findOne : MethodName := ⟨RX6, "findOne", "(LShuffledDays$Course;)Z"⟩
abbrev cX6_findTwo : ByteArray := prog_8_method_6_code
def yX6_findTwo : MethodName := ⟨RX6, "findTwo", "(LShuffledDays$Course;)Z"⟩
abbrev cX6_wellWith : ByteArray := prog_8_method_7_code
def yX6_wellWith : MethodName := ⟨RX6, "wellWith", "(LShuffledDays$Course;II)Z"⟩
abbrev cX6_named : ByteArray := prog_8_method_8_code
def yX6_named : MethodName := ⟨RX6, "named", "(I)I"⟩
def RX7 : String := "ShuffledDays$PlainDay"
def TX7 : u_T := fun k => match k with
  | _ => ("", "", "", false)
def tyX7 : Nat → FieldType := fun k => match k with
  | _ => .int
abbrev wsX70 : List Cond := u_ws RX7 TX7 0
theorem nmX7 : ∀ a, a < 0 → ∀ b, b < 0 → a ≠ b → (TX7 a).2.1 ≠ (TX7 b).2.1 := by decide +kernel
theorem tyX7_ok : ∀ k, k < 0 → parseFieldDescriptor (TX7 k).2.2.1 = some (tyX7 k) := by decide +kernel
abbrev cX7_init : ByteArray := prog_9_method_1_code
def yX7_init : MethodName := ⟨RX7, "<init>", "()V"⟩
abbrev cX7_canRead : ByteArray := prog_9_method_2_code
def yX7_canRead : MethodName := ⟨RX7, "canRead", "()Z"⟩
abbrev cX7_canWrite : ByteArray := prog_9_method_3_code
def yX7_canWrite : MethodName := ⟨RX7, "canWrite", "()Z"⟩
abbrev cX7_learntOf : ByteArray := prog_9_method_4_code
def yX7_learntOf : MethodName := ⟨RX7, "learntOf", "(II)I"⟩
abbrev cX7_neededOf : ByteArray := prog_9_method_5_code
def yX7_neededOf : MethodName := ⟨RX7, "neededOf", "(I)I"⟩
def RX8 : String := "ShuffledDays$SchoolDay"
def TX8 : u_T := fun k => match k with
  | _ => ("", "", "", false)
def tyX8 : Nat → FieldType := fun k => match k with
  | _ => .int
abbrev wsX80 : List Cond := u_ws RX8 TX8 0
theorem nmX8 : ∀ a, a < 0 → ∀ b, b < 0 → a ≠ b → (TX8 a).2.1 ≠ (TX8 b).2.1 := by decide +kernel
theorem tyX8_ok : ∀ k, k < 0 → parseFieldDescriptor (TX8 k).2.2.1 = some (tyX8 k) := by decide +kernel
abbrev cX8_init : ByteArray := prog_10_method_1_code
def yX8_init : MethodName := ⟨RX8, "<init>", "()V"⟩
abbrev cX8_learntOf : ByteArray := prog_10_method_2_code
def yX8_learntOf : MethodName := ⟨RX8, "learntOf", "(II)I"⟩
def RX9 : String := "ShuffledDays$Text"
def TX9 : u_T := fun k => match k with
  | 0 => ("ShuffledDays$Text", "length", "I", false)
  | 1 => ("ShuffledDays$Text", "items", "I", false)
  | 2 => ("ShuffledDays$Text", "item", "[I", true)
  | 3 => ("ShuffledDays$Text", "bytes", "[B", true)
  | 4 => ("ShuffledDays$Text", "next", "I", false)
  | 5 => ("ShuffledDays$Text", "start", "I", false)
  | 6 => ("ShuffledDays$Text", "token", "I", false)
  | _ => ("ShuffledDays$Text", "figure", "I", false)
def tyX9 : Nat → FieldType := fun k => match k with
  | 0 => .int
  | 1 => .int
  | 2 => .array .int
  | 3 => .array .byte
  | 4 => .int
  | 5 => .int
  | 6 => .int
  | _ => .int
abbrev wsX90 : List Cond := u_ws RX9 TX9 8
theorem nmX9 : ∀ a, a < 8 → ∀ b, b < 8 → a ≠ b → (TX9 a).2.1 ≠ (TX9 b).2.1 := by decide +kernel
theorem tyX9_ok : ∀ k, k < 8 → parseFieldDescriptor (TX9 k).2.2.1 = some (tyX9 k) := by decide +kernel
abbrev cX9_init : ByteArray := prog_11_method_1_code
def yX9_init : MethodName := ⟨RX9, "<init>", "()V"⟩
abbrev cX9_take : ByteArray := prog_11_method_2_code
def yX9_take : MethodName := ⟨RX9, "take", "(I)I"⟩
abbrev cX9_findFault : ByteArray := prog_11_method_3_code
def yX9_findFault : MethodName := ⟨RX9, "findFault", "()I"⟩
abbrev cX9_takeItem : ByteArray := prog_11_method_4_code
def yX9_takeItem : MethodName := ⟨RX9, "takeItem", "()Z"⟩
abbrev cX9_nextToken : ByteArray := prog_11_method_5_code
def yX9_nextToken : MethodName := ⟨RX9, "nextToken", "()V"⟩
abbrev cX9_passLetters : ByteArray := prog_11_method_6_code
def yX9_passLetters : MethodName := ⟨RX9, "passLetters", "()V"⟩
abbrev cX9_passFigures : ByteArray := prog_11_method_7_code
def yX9_passFigures : MethodName := ⟨RX9, "passFigures", "()V"⟩
abbrev cX9_isLetter : ByteArray := prog_11_method_8_code
def yX9_isLetter : MethodName := ⟨RX9, "isLetter", "(I)Z"⟩
abbrev cX9_isFigure : ByteArray := prog_11_method_9_code
def yX9_isFigure : MethodName := ⟨RX9, "isFigure", "(I)Z"⟩
abbrev cX9_spells : ByteArray := prog_11_method_10_code
def yX9_spells : MethodName := ⟨RX9, "spells", "(Ljava/lang/String;)Z"⟩
abbrev cX9_word : ByteArray := prog_11_method_11_code
def yX9_word : MethodName := ⟨RX9, "word", "(I)Ljava/lang/String;"⟩
def RX10 : String := "ShuffledDays"
def TX10 : u_T := fun k => match k with
  | 0 => ("ShuffledDays", "kinds", "[LShuffledDays$PlainDay;", true)
  | 1 => ("ShuffledDays", "now", "LShuffledDays$Life;", true)
  | 2 => ("ShuffledDays", "spare", "LShuffledDays$Life;", true)
  | 3 => ("ShuffledDays", "images", "[LShuffledDays$Life;", true)
  | 4 => ("ShuffledDays", "kept", "[Z", true)
  | 5 => ("ShuffledDays", "text", "LShuffledDays$Text;", true)
  | 6 => ("ShuffledDays", "course", "LShuffledDays$Course;", true)
  | 7 => ("ShuffledDays", "search", "LShuffledDays$NoteSearch;", true)
  | 8 => ("ShuffledDays", "shared", "[I", true)
  | 9 => ("ShuffledDays", "leads", "[I", true)
  | 10 => ("ShuffledDays", "refusals", "[I", true)
  | 11 => ("ShuffledDays", "above", "J", false)
  | _ => ("ShuffledDays", "below", "J", false)
def tyX10 : Nat → FieldType := fun k => match k with
  | 0 => .array (.object "ShuffledDays$PlainDay")
  | 1 => .object "ShuffledDays$Life"
  | 2 => .object "ShuffledDays$Life"
  | 3 => .array (.object "ShuffledDays$Life")
  | 4 => .array .boolean
  | 5 => .object "ShuffledDays$Text"
  | 6 => .object "ShuffledDays$Course"
  | 7 => .object "ShuffledDays$NoteSearch"
  | 8 => .array .int
  | 9 => .array .int
  | 10 => .array .int
  | 11 => .long
  | _ => .long
abbrev wsX100 : List Cond := u_ws RX10 TX10 13
theorem nmX10 : ∀ a, a < 13 → ∀ b, b < 13 → a ≠ b → (TX10 a).2.1 ≠ (TX10 b).2.1 := by decide +kernel
theorem tyX10_ok : ∀ k, k < 13 → parseFieldDescriptor (TX10 k).2.2.1 = some (tyX10 k) := by decide +kernel
abbrev cX10_init : ByteArray := prog_1_method_1_code
def yX10_init : MethodName := ⟨RX10, "<init>", "()V"⟩
abbrev cX10_life : ByteArray := prog_1_method_2_code
def yX10_life : MethodName := ⟨RX10, "life", "(I)I"⟩
abbrev cX10_day : ByteArray := prog_1_method_3_code
def yX10_day : MethodName := ⟨RX10, "day", "(II)I"⟩
abbrev cX10_fact : ByteArray := prog_1_method_4_code
def yX10_fact : MethodName := ⟨RX10, "fact", "(IIIZ)I"⟩
abbrev cX10_note : ByteArray := prog_1_method_5_code
def yX10_note : MethodName := ⟨RX10, "note", "(II)I"⟩
abbrev cX10_ahead : ByteArray := prog_1_method_6_code
def yX10_ahead : MethodName := ⟨RX10, "ahead", "(II)I"⟩
abbrev cX10_at : ByteArray := prog_1_method_7_code
def yX10_at : MethodName := ⟨RX10, "at", "(II)I"⟩
abbrev cX10_tear : ByteArray := prog_1_method_8_code
def yX10_tear : MethodName := ⟨RX10, "tear", "(I)I"⟩
abbrev cX10_order : ByteArray := prog_1_method_9_code
def yX10_order : MethodName := ⟨RX10, "order", "(I)I"⟩
abbrev cX10_type : ByteArray := prog_1_method_10_code
def yX10_type : MethodName := ⟨RX10, "type", "(I)I"⟩
abbrev cX10_clear : ByteArray := prog_1_method_11_code
def yX10_clear : MethodName := ⟨RX10, "clear", "()I"⟩
abbrev cX10_read : ByteArray := prog_1_method_12_code
def yX10_read : MethodName := ⟨RX10, "read", "()I"⟩
abbrev cX10_lived : ByteArray := prog_1_method_13_code
def yX10_lived : MethodName := ⟨RX10, "lived", "(I)I"⟩
abbrev cX10_knows : ByteArray := prog_1_method_14_code
def yX10_knows : MethodName := ⟨RX10, "knows", "(I)I"⟩
abbrev cX10_reads : ByteArray := prog_1_method_15_code
def yX10_reads : MethodName := ⟨RX10, "reads", "(I)I"⟩
abbrev cX10_missing : ByteArray := prog_1_method_16_code
def yX10_missing : MethodName := ⟨RX10, "missing", "(I)I"⟩
abbrev cX10_first : ByteArray := prog_1_method_17_code
def yX10_first : MethodName := ⟨RX10, "first", "(I)I"⟩
abbrev cX10_cards : ByteArray := prog_1_method_18_code
def yX10_cards : MethodName := ⟨RX10, "cards", "(I)I"⟩
abbrev cX10_hang : ByteArray := prog_1_method_19_code
def yX10_hang : MethodName := ⟨RX10, "hang", "(I)I"⟩
abbrev cX10_must : ByteArray := prog_1_method_20_code
def yX10_must : MethodName := ⟨RX10, "must", "(I)I"⟩
abbrev cX10_told : ByteArray := prog_1_method_21_code
def yX10_told : MethodName := ⟨RX10, "told", "(I)I"⟩
abbrev cX10_notes : ByteArray := prog_1_method_22_code
def yX10_notes : MethodName := ⟨RX10, "notes", "(I)I"⟩
abbrev cX10_mean : ByteArray := prog_1_method_23_code
def yX10_mean : MethodName := ⟨RX10, "mean", "()I"⟩
abbrev cX10_best : ByteArray := prog_1_method_24_code
def yX10_best : MethodName := ⟨RX10, "best", "()I"⟩
abbrev cX10_when : ByteArray := prog_1_method_25_code
def yX10_when : MethodName := ⟨RX10, "when", "(II)I"⟩
abbrev cX10_diary : ByteArray := prog_1_method_26_code
def yX10_diary : MethodName := ⟨RX10, "diary", "(II)I"⟩
abbrev cX10_torn : ByteArray := prog_1_method_27_code
def yX10_torn : MethodName := ⟨RX10, "torn", "(I)I"⟩
abbrev cX10_promise : ByteArray := prog_1_method_28_code
def yX10_promise : MethodName := ⟨RX10, "promise", "(III)I"⟩
abbrev cX10_other : ByteArray := prog_1_method_29_code
def yX10_other : MethodName := ⟨RX10, "other", "(I)I"⟩
abbrev cX10_two : ByteArray := prog_1_method_30_code
def yX10_two : MethodName := ⟨RX10, "two", "(I)I"⟩
abbrev cX10_settle : ByteArray := prog_1_method_31_code
def yX10_settle : MethodName := ⟨RX10, "settle", "(II)I"⟩
abbrev cX10_game : ByteArray := prog_1_method_32_code
def yX10_game : MethodName := ⟨RX10, "game", "(I)I"⟩
abbrev cX10_live : ByteArray := prog_1_method_33_code
def yX10_live : MethodName := ⟨RX10, "live", "()I"⟩
abbrev cX10_undo : ByteArray := prog_1_method_34_code
def yX10_undo : MethodName := ⟨RX10, "undo", "()I"⟩
abbrev cX10_sofar : ByteArray := prog_1_method_35_code
def yX10_sofar : MethodName := ⟨RX10, "sofar", "(I)I"⟩
abbrev cX10_part : ByteArray := prog_1_method_36_code
def yX10_part : MethodName := ⟨RX10, "part", "(I)J"⟩
abbrev cX10_image : ByteArray := prog_1_method_37_code
def yX10_image : MethodName := ⟨RX10, "image", "(I)I"⟩
abbrev cX10_from : ByteArray := prog_1_method_38_code
def yX10_from : MethodName := ⟨RX10, "from", "(I)I"⟩
abbrev cX10_status : ByteArray := prog_1_method_39_code
def yX10_status : MethodName := ⟨RX10, "status", "(I)I"⟩
abbrev cX10_count : ByteArray := prog_1_method_40_code
def yX10_count : MethodName := ⟨RX10, "count", "(I)I"⟩
abbrev cX10_digest : ByteArray := prog_1_method_41_code
def yX10_digest : MethodName := ⟨RX10, "digest", "()J"⟩
abbrev cX10_counted : ByteArray := prog_1_method_42_code
def yX10_counted : MethodName := ⟨RX10, "counted", "(I)I"⟩
abbrev cX10_badAs : ByteArray := prog_1_method_43_code
def yX10_badAs : MethodName := ⟨RX10, "badAs", "(I)I"⟩
abbrev cX10_countOf : ByteArray := prog_1_method_44_code
def yX10_countOf : MethodName := ⟨RX10, "countOf", "(I)I"⟩
abbrev cX10_isFact : ByteArray := prog_1_method_45_code
def yX10_isFact : MethodName := ⟨RX10, "isFact", "(I)Z"⟩
abbrev cX10_follow : ByteArray := prog_1_method_46_code
def yX10_follow : MethodName := ⟨RX10, "follow", "(I)V"⟩
abbrev cX10_livesAsTold : ByteArray := prog_1_method_47_code
def yX10_livesAsTold : MethodName := ⟨RX10, "livesAsTold", "()Z"⟩
abbrev cX10_hangsTogether : ByteArray := prog_1_method_48_code
def yX10_hangsTogether : MethodName := ⟨RX10, "hangsTogether", "()Z"⟩
abbrev cX10_shareKnown : ByteArray := prog_1_method_49_code
def yX10_shareKnown : MethodName := ⟨RX10, "shareKnown", "()V"⟩
abbrev cX10_leadByNaming : ByteArray := prog_1_method_50_code
def yX10_leadByNaming : MethodName := ⟨RX10, "leadByNaming", "(II)I"⟩
abbrev cX10_bestNaming : ByteArray := prog_1_method_51_code
def yX10_bestNaming : MethodName := ⟨RX10, "bestNaming", "(I)I"⟩
abbrev cX10_setFraction : ByteArray := prog_1_method_52_code
def yX10_setFraction : MethodName := ⟨RX10, "setFraction", "(JJ)V"⟩
abbrev cX10_commonDivisor : ByteArray := prog_1_method_53_code
def yX10_commonDivisor : MethodName := ⟨RX10, "commonDivisor", "(JJ)J"⟩
def RX11 : String := "ShuffledDaysModel"
def TX11 : u_T := fun k => match k with
  | 0 => ("ShuffledDaysModel", "refused", "[I", true)
  | 1 => ("ShuffledDaysModel", "days", "I", false)
  | 2 => ("ShuffledDaysModel", "kinds", "[I", true)
  | 3 => ("ShuffledDaysModel", "needs", "[I", true)
  | 4 => ("ShuffledDaysModel", "teaches", "[I", true)
  | 5 => ("ShuffledDaysModel", "ats", "[I", true)
  | 6 => ("ShuffledDaysModel", "row", "[I", true)
  | 7 => ("ShuffledDaysModel", "notes", "I", false)
  | 8 => ("ShuffledDaysModel", "noteDays", "[I", true)
  | 9 => ("ShuffledDaysModel", "noteFacts", "[I", true)
  | 10 => ("ShuffledDaysModel", "pairs", "I", false)
  | 11 => ("ShuffledDaysModel", "firsts", "[I", true)
  | 12 => ("ShuffledDaysModel", "seconds", "[I", true)
  | 13 => ("ShuffledDaysModel", "tolds", "I", false)
  | 14 => ("ShuffledDaysModel", "told", "[I", true)
  | 15 => ("ShuffledDaysModel", "diary", "[I", true)
  | 16 => ("ShuffledDaysModel", "other", "I", false)
  | 17 => ("ShuffledDaysModel", "lived", "I", false)
  | 18 => ("ShuffledDaysModel", "ahead", "[I", true)
  | 19 => ("ShuffledDaysModel", "reads", "[I", true)
  | 20 => ("ShuffledDaysModel", "knows", "[I", true)
  | 21 => ("ShuffledDaysModel", "when", "[I", true)
  | 22 => ("ShuffledDaysModel", "well", "I", false)
  | 23 => ("ShuffledDaysModel", "tried", "[I", true)
  | 24 => ("ShuffledDaysModel", "above", "J", false)
  | 25 => ("ShuffledDaysModel", "below", "J", false)
  | 26 => ("ShuffledDaysModel", "hers", "[I", true)
  | 27 => ("ShuffledDaysModel", "games", "[I", true)
  | 28 => ("ShuffledDaysModel", "text", "[I", true)
  | 29 => ("ShuffledDaysModel", "bytes", "I", false)
  | 30 => ("ShuffledDaysModel", "place", "I", false)
  | 31 => ("ShuffledDaysModel", "begin", "I", false)
  | 32 => ("ShuffledDaysModel", "wrong", "Z", false)
  | 33 => ("ShuffledDaysModel", "items", "I", false)
  | 34 => ("ShuffledDaysModel", "read", "[I", true)
  | 35 => ("ShuffledDaysModel", "counted", "[I", true)
  | 36 => ("ShuffledDaysModel", "images", "[I", true)
  | 37 => ("ShuffledDaysModel", "aside", "[I", true)
  | _ => ("ShuffledDaysModel", "hash", "J", false)
def tyX11 : Nat → FieldType := fun k => match k with
  | 0 => .array .int
  | 1 => .int
  | 2 => .array .int
  | 3 => .array .int
  | 4 => .array .int
  | 5 => .array .int
  | 6 => .array .int
  | 7 => .int
  | 8 => .array .int
  | 9 => .array .int
  | 10 => .int
  | 11 => .array .int
  | 12 => .array .int
  | 13 => .int
  | 14 => .array .int
  | 15 => .array .int
  | 16 => .int
  | 17 => .int
  | 18 => .array .int
  | 19 => .array .int
  | 20 => .array .int
  | 21 => .array .int
  | 22 => .int
  | 23 => .array .int
  | 24 => .long
  | 25 => .long
  | 26 => .array .int
  | 27 => .array .int
  | 28 => .array .int
  | 29 => .int
  | 30 => .int
  | 31 => .int
  | 32 => .boolean
  | 33 => .int
  | 34 => .array .int
  | 35 => .array .int
  | 36 => .array .int
  | 37 => .array .int
  | _ => .long
abbrev wsX110 : List Cond := u_ws RX11 TX11 39
theorem nmX11 : ∀ a, a < 39 → ∀ b, b < 39 → a ≠ b → (TX11 a).2.1 ≠ (TX11 b).2.1 := by decide +kernel
theorem tyX11_ok : ∀ k, k < 39 → parseFieldDescriptor (TX11 k).2.2.1 = some (tyX11 k) := by decide +kernel
abbrev cX11_in : ByteArray := prog_13_method_2_code
def yX11_in : MethodName := ⟨RX11, "in", "(JJJ)Z"⟩
abbrev cX11_init : ByteArray := prog_13_method_3_code
def yX11_init : MethodName := ⟨RX11, "<init>", "()V"⟩
abbrev cX11_bad : ByteArray := prog_13_method_4_code
def yX11_bad : MethodName := ⟨RX11, "bad", "(I)I"⟩
abbrev cX11_no : ByteArray := prog_13_method_5_code
def yX11_no : MethodName := ⟨RX11, "no", "()I"⟩
abbrev cX11_full : ByteArray := prog_13_method_6_code
def yX11_full : MethodName := ⟨RX11, "full", "()I"⟩
abbrev cX11_isDay : ByteArray := prog_13_method_7_code
def yX11_isDay : MethodName := ⟨RX11, "isDay", "(I)Z"⟩
abbrev cX11_isFact : ByteArray := prog_13_method_8_code
def yX11_isFact : MethodName := ⟨RX11, "isFact", "(I)Z"⟩
abbrev cX11_begins : ByteArray := prog_13_method_9_code
def yX11_begins : MethodName := ⟨RX11, "begins", "(I)V"⟩
abbrev cX11_life : ByteArray := prog_13_method_10_code
def yX11_life : MethodName := ⟨RX11, "life", "(I)I"⟩
abbrev cX11_day : ByteArray := prog_13_method_11_code
def yX11_day : MethodName := ⟨RX11, "day", "(II)I"⟩
abbrev cX11_fact : ByteArray := prog_13_method_12_code
def yX11_fact : MethodName := ⟨RX11, "fact", "(IIIZ)I"⟩
abbrev cX11_isNote : ByteArray := prog_13_method_13_code
def yX11_isNote : MethodName := ⟨RX11, "isNote", "(II)Z"⟩
abbrev cX11_note : ByteArray := prog_13_method_14_code
def yX11_note : MethodName := ⟨RX11, "note", "(II)I"⟩
abbrev cX11_ahead : ByteArray := prog_13_method_15_code
def yX11_ahead : MethodName := ⟨RX11, "ahead", "(II)I"⟩
abbrev cX11_at : ByteArray := prog_13_method_16_code
def yX11_at : MethodName := ⟨RX11, "at", "(II)I"⟩
abbrev cX11_diaries : ByteArray := prog_13_method_17_code
def yX11_diaries : MethodName := ⟨RX11, "diaries", "()I"⟩
abbrev cX11_tear : ByteArray := prog_13_method_18_code
def yX11_tear : MethodName := ⟨RX11, "tear", "(I)I"⟩
abbrev cX11_orders : ByteArray := prog_13_method_19_code
def yX11_orders : MethodName := ⟨RX11, "orders", "()I"⟩
abbrev cX11_starts : ByteArray := prog_13_method_20_code
def yX11_starts : MethodName := ⟨RX11, "starts", "([I)V"⟩
abbrev cX11_turns : ByteArray := prog_13_method_21_code
def yX11_turns : MethodName := ⟨RX11, "turns", "([I)V"⟩
abbrev cX11_rankOf : ByteArray := prog_13_method_22_code
def yX11_rankOf : MethodName := ⟨RX11, "rankOf", "([I)I"⟩
abbrev cX11_rowOf : ByteArray := prog_13_method_23_code
def yX11_rowOf : MethodName := ⟨RX11, "rowOf", "(I[I)V"⟩
abbrev cX11_isRank : ByteArray := prog_13_method_24_code
def yX11_isRank : MethodName := ⟨RX11, "isRank", "(I)Z"⟩
abbrev cX11_order : ByteArray := prog_13_method_25_code
def yX11_order : MethodName := ⟨RX11, "order", "(I)I"⟩
abbrev cX11_learns : ByteArray := prog_13_method_26_code
def yX11_learns : MethodName := ⟨RX11, "learns", "(I)I"⟩
abbrev cX11_asks : ByteArray := prog_13_method_27_code
def yX11_asks : MethodName := ⟨RX11, "asks", "(I)I"⟩
abbrev cX11_lives : ByteArray := prog_13_method_28_code
def yX11_lives : MethodName := ⟨RX11, "lives", "([I)V"⟩
abbrev cX11_lived : ByteArray := prog_13_method_29_code
def yX11_lived : MethodName := ⟨RX11, "lived", "(I)I"⟩
abbrev cX11_knows : ByteArray := prog_13_method_30_code
def yX11_knows : MethodName := ⟨RX11, "knows", "(I)I"⟩
abbrev cX11_reads : ByteArray := prog_13_method_31_code
def yX11_reads : MethodName := ⟨RX11, "reads", "(I)I"⟩
abbrev cX11_missing : ByteArray := prog_13_method_32_code
def yX11_missing : MethodName := ⟨RX11, "missing", "(I)I"⟩
abbrev cX11_first : ByteArray := prog_13_method_33_code
def yX11_first : MethodName := ⟨RX11, "first", "(I)I"⟩
abbrev cX11_cards : ByteArray := prog_13_method_34_code
def yX11_cards : MethodName := ⟨RX11, "cards", "(I)I"⟩
abbrev cX11_isTold : ByteArray := prog_13_method_35_code
def yX11_isTold : MethodName := ⟨RX11, "isTold", "()Z"⟩
abbrev cX11_doesHang : ByteArray := prog_13_method_36_code
def yX11_doesHang : MethodName := ⟨RX11, "doesHang", "()Z"⟩
abbrev cX11_hang : ByteArray := prog_13_method_37_code
def yX11_hang : MethodName := ⟨RX11, "hang", "(I)I"⟩
abbrev cX11_must : ByteArray := prog_13_method_38_code
def yX11_must : MethodName := ⟨RX11, "must", "(I)I"⟩
abbrev cX11_told : ByteArray := prog_13_method_39_code
def yX11_told : MethodName := ⟨RX11, "told", "(I)I"⟩
abbrev cX11_areWell : ByteArray := prog_13_method_40_code
def yX11_areWell : MethodName := ⟨RX11, "areWell", "()Z"⟩
abbrev cX11_adds : ByteArray := prog_13_method_41_code
def yX11_adds : MethodName := ⟨RX11, "adds", "(I)Z"⟩
abbrev cX11_fewest : ByteArray := prog_13_method_42_code
def yX11_fewest : MethodName := ⟨RX11, "fewest", "()I"⟩
abbrev cX11_notes : ByteArray := prog_13_method_43_code
def yX11_notes : MethodName := ⟨RX11, "notes", "(I)I"⟩
abbrev cX11_tells : ByteArray := prog_13_method_44_code
def yX11_tells : MethodName := ⟨RX11, "tells", "(JJ)V"⟩
abbrev cX11_mean : ByteArray := prog_13_method_45_code
def yX11_mean : MethodName := ⟨RX11, "mean", "()I"⟩
abbrev cX11_best : ByteArray := prog_13_method_46_code
def yX11_best : MethodName := ⟨RX11, "best", "()I"⟩
abbrev cX11_when : ByteArray := prog_13_method_47_code
def yX11_when : MethodName := ⟨RX11, "when", "(II)I"⟩
abbrev cX11_diary : ByteArray := prog_13_method_48_code
def yX11_diary : MethodName := ⟨RX11, "diary", "(II)I"⟩
abbrev cX11_torn : ByteArray := prog_13_method_49_code
def yX11_torn : MethodName := ⟨RX11, "torn", "(I)I"⟩
abbrev cX11_promise : ByteArray := prog_13_method_50_code
def yX11_promise : MethodName := ⟨RX11, "promise", "(III)I"⟩
abbrev cX11_other : ByteArray := prog_13_method_51_code
def yX11_other : MethodName := ⟨RX11, "other", "(I)I"⟩
abbrev cX11_both : ByteArray := prog_13_method_52_code
def yX11_both : MethodName := ⟨RX11, "both", "()V"⟩
abbrev cX11_two : ByteArray := prog_13_method_53_code
def yX11_two : MethodName := ⟨RX11, "two", "(I)I"⟩
abbrev cX11_settle : ByteArray := prog_13_method_54_code
def yX11_settle : MethodName := ⟨RX11, "settle", "(II)I"⟩
abbrev cX11_size : ByteArray := prog_13_method_55_code
def yX11_size : MethodName := ⟨RX11, "size", "(I)I"⟩
abbrev cX11_named : ByteArray := prog_13_method_56_code
def yX11_named : MethodName := ⟨RX11, "named", "(II)I"⟩
abbrev cX11_game : ByteArray := prog_13_method_57_code
def yX11_game : MethodName := ⟨RX11, "game", "(I)I"⟩
abbrev cX11_live : ByteArray := prog_13_method_58_code
def yX11_live : MethodName := ⟨RX11, "live", "()I"⟩
abbrev cX11_undo : ByteArray := prog_13_method_59_code
def yX11_undo : MethodName := ⟨RX11, "undo", "()I"⟩
abbrev cX11_sofar : ByteArray := prog_13_method_60_code
def yX11_sofar : MethodName := ⟨RX11, "sofar", "(I)I"⟩
abbrev cX11_type : ByteArray := prog_13_method_61_code
def yX11_type : MethodName := ⟨RX11, "type", "(I)I"⟩
abbrev cX11_clear : ByteArray := prog_13_method_62_code
def yX11_clear : MethodName := ⟨RX11, "clear", "()I"⟩
abbrev cX11_skips : ByteArray := prog_13_method_63_code
def yX11_skips : MethodName := ⟨RX11, "skips", "()V"⟩
abbrev cX11_word : ByteArray := prog_13_method_64_code
def yX11_word : MethodName := ⟨RX11, "word", "()I"⟩
abbrev cX11_isFigure : ByteArray := prog_13_method_65_code
def yX11_isFigure : MethodName := ⟨RX11, "isFigure", "(I)Z"⟩
abbrev cX11_figure : ByteArray := prog_13_method_66_code
def yX11_figure : MethodName := ⟨RX11, "figure", "()I"⟩
abbrev cX11_readItem : ByteArray := prog_13_method_67_code
def yX11_readItem : MethodName := ⟨RX11, "readItem", "()V"⟩
abbrev cX11_does : ByteArray := prog_13_method_68_code
def yX11_does : MethodName := ⟨RX11, "does", "(I)Z"⟩
abbrev cX11_read : ByteArray := prog_13_method_69_code
def yX11_read : MethodName := ⟨RX11, "read", "()I"⟩
abbrev cX11_lay : ByteArray := prog_13_method_70_code
def yX11_lay : MethodName := ⟨RX11, "lay", "([III)I"⟩
abbrev cX11_gives : ByteArray := prog_13_method_71_code
def yX11_gives : MethodName := ⟨RX11, "gives", "(I[II)I"⟩
abbrev cX11_keeps : ByteArray := prog_13_method_72_code
def yX11_keeps : MethodName := ⟨RX11, "keeps", "(I)V"⟩
abbrev cX11_toldAside : ByteArray := prog_13_method_73_code
def yX11_toldAside : MethodName := ⟨RX11, "toldAside", "(IZ)V"⟩
abbrev cX11_goesOn : ByteArray := prog_13_method_74_code
def yX11_goesOn : MethodName := ⟨RX11, "goesOn", "(I)V"⟩
abbrev cX11_image : ByteArray := prog_13_method_75_code
def yX11_image : MethodName := ⟨RX11, "image", "(I)I"⟩
abbrev cX11_from : ByteArray := prog_13_method_76_code
def yX11_from : MethodName := ⟨RX11, "from", "(I)I"⟩
abbrev cX11_part : ByteArray := prog_13_method_77_code
def yX11_part : MethodName := ⟨RX11, "part", "(I)J"⟩
abbrev cX11_status : ByteArray := prog_13_method_78_code
def yX11_status : MethodName := ⟨RX11, "status", "(I)I"⟩
abbrev cX11_counts : ByteArray := prog_13_method_79_code
def yX11_counts : MethodName := ⟨RX11, "counts", "(I)I"⟩
abbrev cX11_count : ByteArray := prog_13_method_80_code
def yX11_count : MethodName := ⟨RX11, "count", "(I)I"⟩
abbrev cX11_hashes : ByteArray := prog_13_method_81_code
def yX11_hashes : MethodName := ⟨RX11, "hashes", "(J)V"⟩
abbrev cX11_digest : ByteArray := prog_13_method_82_code
def yX11_digest : MethodName := ⟨RX11, "digest", "()J"⟩
def RJ6 : String := "java/lang/Integer"
def TJ6 : u_T := fun k => match k with
  | _ => ("", "", "", false)
def tyJ6 : Nat → FieldType := fun k => match k with
  | _ => .int
abbrev wsJ60 : List Cond := u_ws RJ6 TJ6 0
theorem nmJ6 : ∀ a, a < 0 → ∀ b, b < 0 → a ≠ b → (TJ6 a).2.1 ≠ (TJ6 b).2.1 := by decide +kernel
theorem tyJ6_ok : ∀ k, k < 0 → parseFieldDescriptor (TJ6 k).2.2.1 = some (tyJ6 k) := by decide +kernel
abbrev cJ6_bitCount_0f7a4 : ByteArray := prog_14_method_49_code
def yJ6_bitCount_0f7a4 : MethodName := ⟨RJ6, "bitCount", "(I)I"⟩
def RJ0 : String := "java/lang/String"
def TJ0 : u_T := fun k => match k with
  | _ => ("", "", "", false)
def tyJ0 : Nat → FieldType := fun k => match k with
  | _ => .int
abbrev wsJ00 : List Cond := u_ws RJ0 TJ0 0
theorem nmJ0 : ∀ a, a < 0 → ∀ b, b < 0 → a ≠ b → (TJ0 a).2.1 ≠ (TJ0 b).2.1 := by decide +kernel
theorem tyJ0_ok : ∀ k, k < 0 → parseFieldDescriptor (TJ0 k).2.2.1 = some (tyJ0 k) := by decide +kernel
abbrev cJ0_length_8abf5 : ByteArray := prog_15_method_54_code
def yJ0_length_8abf5 : MethodName := ⟨RJ0, "length", "()I"⟩
abbrev cJ0_charAt_5068e : ByteArray := prog_15_method_56_code
def yJ0_charAt_5068e : MethodName := ⟨RJ0, "charAt", "(I)C"⟩
abbrev cJ0_coder_7d493 : ByteArray := prog_15_method_152_code
def yJ0_coder_7d493 : MethodName := ⟨RJ0, "coder", "()B"⟩
abbrev cJ0_isLatin1_aae02 : ByteArray := prog_15_method_154_code
def yJ0_isLatin1_aae02 : MethodName := ⟨RJ0, "isLatin1", "()Z"⟩
abbrev cJ0_checkIndex_df160 : ByteArray := prog_15_method_155_code
def yJ0_checkIndex_df160 : MethodName := ⟨RJ0, "checkIndex", "(II)V"⟩
def RJ1 : String := "java/lang/StringLatin1"
def TJ1 : u_T := fun k => match k with
  | _ => ("", "", "", false)
def tyJ1 : Nat → FieldType := fun k => match k with
  | _ => .int
abbrev wsJ10 : List Cond := u_ws RJ1 TJ1 0
theorem nmJ1 : ∀ a, a < 0 → ∀ b, b < 0 → a ≠ b → (TJ1 a).2.1 ≠ (TJ1 b).2.1 := by decide +kernel
theorem tyJ1_ok : ∀ k, k < 0 → parseFieldDescriptor (TJ1 k).2.2.1 = some (tyJ1 k) := by decide +kernel
abbrev cJ1_charAt_3b067 : ByteArray := prog_16_method_2_code
def yJ1_charAt_3b067 : MethodName := ⟨RJ1, "charAt", "([BI)C"⟩
def RJ2 : String := "java/lang/StringUTF16"
def TJ2 : u_T := fun k => match k with
  | _ => ("", "", "", false)
def tyJ2 : Nat → FieldType := fun k => match k with
  | _ => .int
abbrev wsJ20 : List Cond := u_ws RJ2 TJ2 0
theorem nmJ2 : ∀ a, a < 0 → ∀ b, b < 0 → a ≠ b → (TJ2 a).2.1 ≠ (TJ2 b).2.1 := by decide +kernel
theorem tyJ2_ok : ∀ k, k < 0 → parseFieldDescriptor (TJ2 k).2.2.1 = some (tyJ2 k) := by decide +kernel
abbrev cJ2_getChar_3b067 : ByteArray := prog_17_method_5_code
def yJ2_getChar_3b067 : MethodName := ⟨RJ2, "getChar", "([BI)C"⟩
abbrev cJ2_length_9d52b : ByteArray := prog_17_method_6_code
def yJ2_length_9d52b : MethodName := ⟨RJ2, "length", "([B)I"⟩
abbrev cJ2_charAt_3b067 : ByteArray := prog_17_method_83_code
def yJ2_charAt_3b067 : MethodName := ⟨RJ2, "charAt", "([BI)C"⟩
abbrev cJ2_checkIndex_2214a : ByteArray := prog_17_method_91_code
def yJ2_checkIndex_2214a : MethodName := ⟨RJ2, "checkIndex", "(I[B)V"⟩
def RJ10 : String := "java/lang/System"
def TJ10 : u_T := fun k => match k with
  | _ => ("", "", "", false)
def tyJ10 : Nat → FieldType := fun k => match k with
  | _ => .int
abbrev wsJ100 : List Cond := u_ws RJ10 TJ10 0
theorem nmJ10 : ∀ a, a < 0 → ∀ b, b < 0 → a ≠ b → (TJ10 a).2.1 ≠ (TJ10 b).2.1 := by decide +kernel
theorem tyJ10_ok : ∀ k, k < 0 → parseFieldDescriptor (TJ10 k).2.2.1 = some (tyJ10 k) := by decide +kernel
def RJ3 : String := "jdk/internal/util/Preconditions"
def TJ3 : u_T := fun k => match k with
  | _ => ("", "", "", false)
def tyJ3 : Nat → FieldType := fun k => match k with
  | _ => .int
abbrev wsJ30 : List Cond := u_ws RJ3 TJ3 0
theorem nmJ3 : ∀ a, a < 0 → ∀ b, b < 0 → a ≠ b → (TJ3 a).2.1 ≠ (TJ3 b).2.1 := by decide +kernel
theorem tyJ3_ok : ∀ k, k < 0 → parseFieldDescriptor (TJ3 k).2.2.1 = some (tyJ3 k) := by decide +kernel
abbrev cJ3_checkIndex_8e157 : ByteArray := prog_19_method_11_code
def yJ3_checkIndex_8e157 : MethodName := ⟨RJ3, "checkIndex", "(IILjava/util/function/BiFunction;)I"⟩
def RL : String := "ShuffledDaysLaw"
abbrev cL_law : ByteArray := code
def yL_law : MethodName := ⟨RL, "law", "([I)Z"⟩
abbrev vwCl : List vw_C := [(RX0, TX0, 0), (RX1, TX1, 0), (RX2, TX2, 11), (RX3, TX3, 0), (RX4, TX4, 0), (RX5, TX5, 17), (RX6, TX6, 5), (RX7, TX7, 0), (RX8, TX8, 0), (RX9, TX9, 8), (RX10, TX10, 13), (RX11, TX11, 39)]
end
section
/-! ===== the foundation: one judgement for a method's body over a fixed shape of the heap ===== -/
/-- ints and longs by cell and place -/
abbrev fdI : Type := Nat → Nat → Int32
abbrev fdL : Type := Nat → Nat → Int64
/-- a cell's shape: an object (class, what each field is: 0 int, 1 long, k + 2 the cell k), a row of numbers (type, length), a row of cells (type, which) -/
abbrev fdE : Type := (Nat × List Nat) ⊕ ((Nat × Nat) ⊕ (Nat × List Nat))
/-- a method: its bytes, its locals, its class, its return type, how deep it calls -/
abbrev fdM : Type := ByteArray × Nat × String × Option FieldType × Nat
abbrev fd_tys (dA : Nat → ClassId) : List (ClassId × FieldType) := [(dA 0, .int), (dA 1, .boolean), (dA 2, .byte), (dA 3, .object "ShuffledDays$PlainDay"), (dA 4, .object "ShuffledDays$Life"), (dA 5, .array .int)]
def fd_fv (α : Nat → Nat) (I : fdI) (L : fdL) (k j : Nat) (kd : Nat) : Value := match kd with
  | 0 => .int (I k j)
  | 1 => .long (L k j)
  | n + 2 => .ref (α n)
def fd_en (α : Nat → Nat) (dA : Nat → ClassId) (I : fdI) (L : fdL) (k : Nat) (e : fdE) : va_E := match e with
  | .inl (ci, ks) => .inr (ci, ks.mapIdx (fun j kd => fd_fv α I L k j kd))
  | .inr (.inl (t, n)) => .inl (dA t, n, .inl (I k))
  | .inr (.inr (t, rs)) => .inl (dA t, rs.length, .inr (.inr (.inr (.inr (fun j => (rs[j]?).map α)))))
def fd_ws (S : List fdE) (α : Nat → Nat) (dA : Nat → ClassId) (I : fdI) (L : fdL) : va_W := S.mapIdx (fun k e => (α k, fd_en α dA I L k e))
def fd_up {β : Type} (I : Nat → Nat → β) (k j : Nat) (v : β) : Nat → Nat → β := fun a b => if a = k then (if b = j then v else I a b) else I a b
/-- a whole row anew -/
def fd_row {β : Type} (I : Nat → Nat → β) (k : Nat) (f : Nat → β) : Nat → Nat → β := fun a => if a = k then f else I a
theorem fd_up_same {β : Type} {I : Nat → Nat → β} {k j : Nat} {v : β} : fd_up I k j v k j = v := by simp [fd_up]
theorem fd_up_cell {β : Type} {I : Nat → Nat → β} {k j a : Nat} {v : β} (h : a ≠ k) : fd_up I k j v a = I a := by funext b; simp [fd_up, h]
theorem fd_up_ne {β : Type} {I : Nat → Nat → β} {k j a b : Nat} {v : β} (h : a ≠ k) : fd_up I k j v a b = I a b := by simp [fd_up, h]
theorem fd_up_pl {β : Type} {I : Nat → Nat → β} {k j b : Nat} {v : β} (h : b ≠ j) : fd_up I k j v k b = I k b := by simp [fd_up, h]
theorem fd_up_at {β : Type} {I : Nat → Nat → β} {k j b : Nat} {v : β} : fd_up I k j v k b = if b = j then v else I k b := by simp [fd_up]
theorem fd_row_same {β : Type} {I : Nat → Nat → β} {k : Nat} {f : Nat → β} : fd_row I k f k = f := by simp [fd_row]
theorem fd_row_ne {β : Type} {I : Nat → Nat → β} {k a : Nat} {f : Nat → β} (h : a ≠ k) : fd_row I k f a = I a := by simp [fd_row, h]
theorem fd_get (S : List fdE) (α : Nat → Nat) (dA : Nat → ClassId) (I : fdI) (L : fdL) {k : Nat} {e : fdE} (h : S[k]? = some e) : (fd_ws S α dA I L)[k]? = some (α k, fd_en α dA I L k e) := by
  unfold fd_ws
  rw [List.getElem?_mapIdx, h]
  rfl
theorem fd_en_eq {α : Nat → Nat} {dA : Nat → ClassId} {I I' : fdI} {L L' : fdL} {k : Nat} {e : fdE} (h : I' k = I k) (h2 : L' k = L k) : fd_en α dA I' L' k e = fd_en α dA I L k e := by
  match e with
  | .inl (ci, ks) =>
    show (Sum.inr (ci, _) : va_E) = .inr (ci, _)
    congr 3
    funext j kd
    match kd with
    | 0 => show Value.int _ = Value.int _; rw [h]
    | 1 => show Value.long _ = Value.long _; rw [h2]
    | n + 2 => rfl
  | .inr (.inl (t, n)) => show (Sum.inl (dA t, n, .inl (I' k)) : va_E) = _; rw [h]; rfl
  | .inr (.inr (t, rs)) => rfl
theorem fd_ws_set {S : List fdE} {α : Nat → Nat} {dA : Nat → ClassId} {I I' : fdI} {L L' : fdL} {k : Nat} {e : fdE} {x : va_E} (h : S[k]? = some e) (hI : ∀ a, a ≠ k → I' a = I a) (hL : ∀ a, a ≠ k → L' a = L a) (hx : x = fd_en α dA I' L' k e) : (fd_ws S α dA I L).set k (α k, x) = fd_ws S α dA I' L' := by
  apply List.ext_getElem?
  intro i
  rw [List.getElem?_set]
  have hk : k < S.length := (List.getElem?_eq_some_iff.mp h).1
  by_cases hi : k = i
  · subst hi
    have hl : k < (fd_ws S α dA I L).length := by simpa [fd_ws] using hk
    rw [if_pos rfl, if_pos hl, fd_get S α dA I' L' h, hx]
  · rw [if_neg hi]
    unfold fd_ws
    rw [List.getElem?_mapIdx, List.getElem?_mapIdx]
    cases S[i]? with
    | none => rfl
    | some e => simp only [Option.map_some]; rw [fd_en_eq (hI i (fun q => hi q.symm)) (hL i (fun q => hi q.symm))]
theorem fd_wsI {S : List fdE} {α : Nat → Nat} {dA : Nat → ClassId} {I : fdI} {L : fdL} {k ci j : Nat} {ks : List Nat} {v : Int32} (h : S[k]? = some (.inl (ci, ks))) (hj : ks[j]? = some 0) : (fd_ws S α dA I L).set k (α k, .inr (ci, (ks.mapIdx (fun j kd => fd_fv α I L k j kd)).set j (.int v))) = fd_ws S α dA (fd_up I k j v) L := by
  refine fd_ws_set h (fun a ha => fd_up_cell ha) (fun _ _ => rfl) ?_
  show (Sum.inr (ci, _) : va_E) = .inr (ci, _)
  congr 2
  apply List.ext_getElem?
  intro i
  rw [List.getElem?_set, List.getElem?_mapIdx, List.getElem?_mapIdx]
  have hk : j < ks.length := (List.getElem?_eq_some_iff.mp hj).1
  by_cases hi : j = i
  · subst hi
    rw [if_pos rfl, if_pos (by simpa using hk), hj]
    show some (Value.int v) = some (Value.int _)
    rw [fd_up_same]
  · rw [if_neg hi]
    cases ks[i]? with
    | none => rfl
    | some kd =>
      show some (fd_fv α I L k i kd) = some (fd_fv α _ L k i kd)
      match kd with
      | 0 => show some (Value.int _) = some (Value.int _); rw [fd_up_pl (fun q => hi q.symm)]
      | 1 => rfl
      | n + 2 => rfl
theorem fd_wsJ {S : List fdE} {α : Nat → Nat} {dA : Nat → ClassId} {I : fdI} {L : fdL} {k ci j : Nat} {ks : List Nat} {v : Int64} (h : S[k]? = some (.inl (ci, ks))) (hj : ks[j]? = some 1) : (fd_ws S α dA I L).set k (α k, .inr (ci, (ks.mapIdx (fun j kd => fd_fv α I L k j kd)).set j (.long v))) = fd_ws S α dA I (fd_up L k j v) := by
  refine fd_ws_set h (fun _ _ => rfl) (fun a ha => fd_up_cell ha) ?_
  show (Sum.inr (ci, _) : va_E) = .inr (ci, _)
  congr 2
  apply List.ext_getElem?
  intro i
  rw [List.getElem?_set, List.getElem?_mapIdx, List.getElem?_mapIdx]
  have hk : j < ks.length := (List.getElem?_eq_some_iff.mp hj).1
  by_cases hi : j = i
  · subst hi
    rw [if_pos rfl, if_pos (by simpa using hk), hj]
    show some (Value.long v) = some (Value.long _)
    rw [fd_up_same]
  · rw [if_neg hi]
    cases ks[i]? with
    | none => rfl
    | some kd =>
      show some (fd_fv α I L k i kd) = some (fd_fv α I _ k i kd)
      match kd with
      | 0 => rfl
      | 1 => show some (Value.long _) = some (Value.long _); rw [fd_up_pl (fun q => hi q.symm)]
      | n + 2 => rfl
theorem fd_wsA {S : List fdE} {α : Nat → Nat} {dA : Nat → ClassId} {I : fdI} {L : fdL} {k t n j : Nat} {v : Int32} (h : S[k]? = some (.inr (.inl (t, n)))) : (fd_ws S α dA I L).set k (α k, .inl (dA t, n, .inl (upd (I k) j v))) = fd_ws S α dA (fd_up I k j v) L := by
  refine fd_ws_set h (fun a ha => fd_up_cell ha) (fun _ _ => rfl) ?_
  show (Sum.inl (dA t, n, .inl _) : va_E) = .inl (dA t, n, .inl _)
  congr 4
  funext b
  simp [fd_up, upd]
theorem fd_wsR {S : List fdE} {α : Nat → Nat} {dA : Nat → ClassId} {I : fdI} {L : fdL} {k t n : Nat} {f : Nat → Int32} (h : S[k]? = some (.inr (.inl (t, n)))) : (fd_ws S α dA I L).set k (α k, .inl (dA t, n, .inl f)) = fd_ws S α dA (fd_row I k f) L := by
  refine fd_ws_set h (fun a ha => fd_row_ne ha) (fun _ _ => rfl) ?_
  show (Sum.inl (dA t, n, .inl _) : va_E) = .inl (dA t, n, .inl _)
  rw [fd_row_same]
theorem fd_wsP {S : List fdE} {α : Nat → Nat} {dA : Nat → ClassId} {I I' : fdI} {L L' : fdL} {k : Nat} {q : Nat × va_E} (h : (fd_ws S α dA I L)[k]? = some q) : ∃ e', (fd_ws S α dA I' L')[k]? = some (q.1, e') := by
  unfold fd_ws at h ⊢
  rw [List.getElem?_mapIdx] at h ⊢
  cases hs : S[k]? with
  | none => rw [hs] at h; cases h
  | some e => rw [hs] at h; cases h; exact ⟨_, rfl⟩
theorem fd_D {S : List fdE} {α : Nat → Nat} {dA : Nat → ClassId} {I I' : fdI} {L L' : fdL} {A : Nat → Prop} (h : va_D A (fd_ws S α dA I L)) : va_D A (fd_ws S α dA I' L') := by
  refine ⟨fun i j p q hi hj e => ?_, fun k q hk => ?_⟩
  · obtain ⟨e1, h1⟩ := fd_wsP (I' := I) (L' := L) hi
    obtain ⟨e2, h2⟩ := fd_wsP (I' := I) (L' := L) hj
    exact h.1 i j _ _ h1 h2 e
  · obtain ⟨e1, h1⟩ := fd_wsP (I' := I) (L' := L) hk
    have h2 := h.2 k (q.1, e1) h1
    exact h2
theorem fd_A {S : List fdE} {α : Nat → Nat} {dA : Nat → ClassId} {I I' : fdI} {L L' : fdL} {sz q : Nat} (h : va_A (fd_ws S α dA I L) sz q) : va_A (fd_ws S α dA I' L') sz q := by
  rcases h with ⟨k, e, hk⟩ | h
  · obtain ⟨e1, h1⟩ := fd_wsP (I' := I') (L' := L') hk
    exact Or.inl ⟨k, e1, h1⟩
  · exact Or.inr h
/-- the words of every method: all of the tables that last -/
def fd_tb : List Cond := lw_tbl.filter goodWord
theorem fd_in {w : Cond} (i : Nat) (h : lw_tbl[i]? = some w) (hg : goodWord w = true) : w ∈ fd_tb := List.mem_filter.mpr ⟨List.mem_of_getElem? h, hg⟩
theorem fd_good {w : Cond} (h : w ∈ fd_tb) : goodWord w = true := (List.mem_filter.mp h).2
theorem fd_goodIn : GoodIn fd_tb fd_tb := fun w h => ⟨h, good_of_word (fd_good h)⟩
def fd_rm (d : Nat) : Room := { frames := d, cells := 0, slots := 0, locals := 36 * d }

def fd_facts : List Int32 := [1, 1, 2, 6, 24, 120, 720, 5040]
def fd_words : List String := ["life", "day", "needs", "teaches", "note", "ahead", "at"]
def fd_len : List Nat := [4, 3, 5, 7, 4, 5, 2]
def fd_byt : List (List Int32) := [[108, 105, 102, 101], [100, 97, 121], [110, 101, 101, 100, 115], [116, 101, 97, 99, 104, 101, 115], [110, 111, 116, 101], [97, 104, 101, 97, 100], [97, 116]]
def fd_nest : List Cond := [.methodLinkNest RX5 85 ⟨RX10, "isFact", "(I)Z"⟩ RX10, .fieldLinkNest RX5 74 RX10 "ORDERS_OF" "[I" RX10, .fieldLinkNest RX2 83 RX10 "ORDERS_OF" "[I" RX10]
/-- what stays as it is: the row ORDERS_OF, the seven words, what the JDK's classes hold, the links between nest mates -/
def fd_PF (α : Nat → Nat) (A : Nat → Prop) (U : State) (H : Heap) : Prop :=
  va_Z RX10 "ORDERS_OF" "[I" (.ref (α 1000)) A U H ∧ va_T .int (α 1000) 8 (fun j => .int (fd_facts.getD j 0)) A U H ∧
  vk_S 7 fd_len fd_byt (fun i => α (1001 + i)) (fun i => α (1011 + i)) A U H ∧
  (∀ i, i < 7 → vk_R RX9 (75 + 2 * i) (fd_words.getD i "") (α (1001 + i)) U) ∧
  va_Z "java/lang/String" "COMPACT_STRINGS" "Z" (.int 1) A U H ∧ va_Zq "jdk/internal/util/Preconditions" "SIOOBE_FORMATTER" "Ljava/util/function/BiFunction;" A U H ∧
  ∀ w ∈ fd_nest, va_Nw w U
theorem fd_PF.at {α : Nat → Nat} {A B : Nat → Prop} {s U : State} {H : Heap} (h : fd_PF α A s s.heap) (hW : s.WarmedH U.vm) (hq : ∀ a : Nat, a < s.heap.size → ¬ A a → H[a]? = s.heap[a]?) (hAB : ∀ q, B q → A q) : fd_PF α B U H := by
  obtain ⟨h1, h2, h3, h4, h5, h6, h7⟩ := h
  refine ⟨((h1.moved hW.alike).kept hq).narrow hAB, ((h2.moved hW.alike).kept hq).narrow hAB, ((h3.moved hW.alike).kept hq).narrow hAB, fun i hi => (h4 i hi).warm hW, ((h5.moved hW.alike).kept hq).narrow hAB, ((h6.moved hW.alike).kept hq).narrow hAB, ?_⟩
  intro w hw
  have h := h7 w hw
  simp only [fd_nest, List.mem_cons, List.not_mem_nil, or_false] at hw
  rcases hw with rfl | rfl | rfl
  · exact va_Nw.warmM hW h
  · exact va_Nw.warmF hW h
  · exact va_Nw.warmF hW h
theorem fd_PF.vm {α : Nat → Nat} {A : Nat → Prop} {u U : State} {H : Heap} (h : fd_PF α A u H) (hv : U.vm = u.vm) : fd_PF α A U H := by
  obtain ⟨h1, h2, h3, h4, h5, h6, h7⟩ := h
  have ha : u.vm.Alike U.vm := by rw [hv]; exact Vm.Alike.refl u.vm
  refine ⟨h1.moved ha, h2.moved ha, h3.moved ha, fun i hi => (h4 i hi).same hv, h5.moved ha, h6.moved ha, ?_⟩
  intro w hw
  have h := h7 w hw
  simp only [fd_nest, List.mem_cons, List.not_mem_nil, or_false] at hw
  rcases hw with rfl | rfl | rfl <;> exact va_Nw.same rfl hv.symm h
/-- what a method's frame stands on -/
def fd_Fix (S : List fdE) (α : Nat → Nat) (y : fdM) (p : Program) (s : State) (m : MethodId) (args : Array Value) (meth : Method) (c : Code) (A : Nat → Prop) (dC : Nat → ClassId) (dI : Nat → Nat → Nat) (dA : Nat → ClassId) : Prop :=
  p.tables.exec = Jvm.exec ∧ c.code = y.1 ∧ c.maxLocals = y.2.1 ∧ s.vm.findClass y.2.2.1 = some m.cls ∧ meth.sig.returnType = y.2.2.2.1 ∧ meth.locks = false ∧ (∀ w ∈ fd_tb, w.before args s = true) ∧ va_K (dC, dI) vwCl (fd_tys dA) s ∧ (∀ I L, va_D A (fd_ws S α dA I L)) ∧ fd_PF α A s s.heap ∧ (∀ q, s.heap.size ≤ q → A q)
def fd_Q (S : List fdE) (α : Nat → Nat) (dC : Nat → ClassId) (dI : Nat → Nat → Nat) (dA : Nat → ClassId) (A : Nat → Prop) (Q : Option Value → fdI → fdL → Prop) : Array Value → State → Outcome → State → Prop := fun _ st oc t =>
  (∃ (rv : Option Value) (I' : fdI) (L' : fdL), oc = .returned rv ∧ Q rv I' L' ∧ va_P (dC, dI) vwCl (fd_ws S α dA I' L') t.heap) ∧ va_F A st t
/-- THE JUDGEMENT: at this place of the method, with these locals and this stack, the cells as I and L say, it comes to its end, and Q holds of its answer and of the cells then -/
def Rn (S : List fdE) (α : Nat → Nat) (y : fdM) (pc : Nat) (lv : List (Nat × Value)) (st : List Value) (I : fdI) (L : fdL) (Q : Option Value → fdI → fdL → Prop) : Prop :=
  ∀ (p : Program) (l : Launch) (e : Env) (s : State) (m : MethodId) (args : Array Value) (below : List Frame) (meth : Method) (c : Code) (A : Nat → Prop) (dC : Nat → ClassId) (dI : Nat → Nat → Nat) (dA : Nat → ClassId), fd_Fix S α y p s m args meth c A dC dI dA →
  ∀ (H : Heap) (locs : List Loc) (ls : Array Slot), va_P (dC, dI) vwCl (fd_ws S α dA I L) H → va_S A s.heap H locs → lv_has ls y.2.1 lv →
  W p l e (fd_rm y.2.2.2.2) s m args below meth c H locs 0 0 (MQ below (fd_Q S α dC dI dA A Q) args s 0 0 A) (F0 m pc ls st)
/-- a method's contract -/
def Con (S : List fdE) (α : Nat → Nat) (y : MethodName) (mi : fdM) (av : List Value) (I : fdI) (L : fdL) (Q : Option Value → fdI → fdL → Prop) : Prop :=
  ∀ (l : Launch) (dC : Nat → ClassId) (dI : Nat → Nat → Nat) (dA : Nat → ClassId) (sz : Nat), Met l y (.code y mi.1 mi.2.1 mi.2.2.2.1 :: fd_tb) (fd_rm mi.2.2.2.2)
    (va_Pc av (fun U => U.heap.size = sz ∧ va_P (dC, dI) vwCl (fd_ws S α dA I L) U.heap ∧ va_K (dC, dI) vwCl (fd_tys dA) U ∧ va_D (fun _ => True) (fd_ws S α dA I L) ∧ fd_PF α (va_A (fd_ws S α dA I L) sz) U U.heap))
    (fd_Q S α dC dI dA (va_A (fd_ws S α dA I L) sz) Q) 0 0 (va_A (fd_ws S α dA I L) sz)
theorem Con.of {S : List fdE} {α : Nat → Nat} {y : MethodName} {mi : fdM} {av : List Value} {I : fdI} {L : fdL} {Q : Option Value → fdI → fdL → Prop} (hy : plainName y.cls = true) (hc : mi.2.2.1 = y.cls) (hn : (lg_sl av).length ≤ mi.2.1) (h : Rn S α mi 0 (lv_args 0 av) [] I L Q) : Con S α y mi av I L Q := by
  intro l dC dI dA sz
  refine Met.ofW (cc := mi.1) (maxL := mi.2.1) (ret := mi.2.2.2.1) hy rfl ?_
  intro p e s m args below meth c s₁ B hml hv
  obtain ⟨rfl, hsz, hP, hK, hD0, hPF⟩ := hv
  have hts := atoms_spec (ws := .code y mi.1 mi.2.1 mi.2.2.2.1 :: fd_tb) B.pre
  have hown : s.vm.findClass y.cls = some m.cls := findClass_of_methodNamed B.named
  subst hsz
  have hD := hD0.self (sz := s.heap.size)
  have hl := lv_entry av (n := mi.2.1) hn
  rw [lg_entry_eq]
  exact h p l e s m _ below meth c (va_A (fd_ws S α dA I L) s.heap.size) dC dI dA ⟨B.exec, B.bytes, hml, by rw [hc]; exact hown, B.returns, B.notSynchronized, fun w hw => hts w (List.mem_cons_of_mem _ hw), hK, fun I' L' => fd_D hD, hPF, fun q hq => Or.inr hq⟩ s.heap [] _ hP va_S.rf hl
theorem Con.weaken {S : List fdE} {α : Nat → Nat} {y : MethodName} {mi : fdM} {av : List Value} {I : fdI} {L : fdL} {Q Q' : Option Value → fdI → fdL → Prop} (h : Con S α y mi av I L Q) (hQ : ∀ rv I' L', Q rv I' L' → Q' rv I' L') : Con S α y mi av I L Q' := by
  intro l dC dI dA sz
  have k := h l dC dI dA sz
  intro p e ha hc hk s m args below hf happ hP hK
  obtain ⟨t, o, h1, h2, h3, ⟨⟨rv, I', L', q1, q2, q3⟩, q4⟩, q5⟩ := k p e ha hc hk s m args below hf happ hP hK
  exact ⟨t, o, h1, h2, h3, ⟨⟨rv, I', L', q1, hQ _ _ _ q2, q3⟩, q4⟩, q5⟩
/-- locals: what is listed for one, the list without it -/
def fd_lk : List (Nat × Value) → Nat → Option Value
  | [], _ => none
  | (j, v) :: t, i => cond (Nat.beq j i) (some v) (fd_lk t i)
theorem fd_lk_at {ls : Array Slot} {nL : Nat} {lv : List (Nat × Value)} (h : lv_has ls nL lv) {i : Nat} {v : Value} (hk : fd_lk lv i = some v) : ls[i]? = some (.val v) := by
  have : ∀ lv : List (Nat × Value), fd_lk lv i = some v → (i, v) ∈ lv := by
    intro lv
    induction lv with
    | nil => intro q; cases q
    | cons a t ih =>
      obtain ⟨j, w⟩ := a
      intro q
      unfold fd_lk at q
      cases hb : Nat.beq j i with
      | true =>
        rw [hb] at q
        cases q
        rw [Nat.eq_of_beq_eq_true hb]
        exact List.mem_cons_self
      | false =>
        rw [hb] at q
        exact List.mem_cons_of_mem _ (ih q)
  exact h.2.2 (i, v) (this lv hk)
def fd_pk (lv : List (Nat × Value)) : List Nat → List (Nat × Value)
  | [] => []
  | i :: is => match fd_lk lv i with
    | some v => (i, v) :: fd_pk lv is
    | none => fd_pk lv is
theorem fd_pk_has {ls : Array Slot} {nL : Nat} {lv : List (Nat × Value)} (h : lv_has ls nL lv) (ks : List Nat) : lv_has ls nL (fd_pk lv ks) := by
  refine ⟨h.1, h.2.1, ?_⟩
  induction ks with
  | nil => intro q hq; cases hq
  | cons i is ih =>
    intro q hq
    unfold fd_pk at hq
    cases hk : fd_lk lv i with
    | none => rw [hk] at hq; exact ih q hq
    | some v =>
      rw [hk] at hq
      rcases List.mem_cons.mp hq with e | hq
      · subst e; exact fd_lk_at h hk
      · exact ih q hq
abbrev fd_s1 (lv : List (Nat × Value)) (i : Nat) (v : Value) : List (Nat × Value) := (i, v) :: lv.filter (fun q => !(q.1 == i) && !(q.1 + 1 == i && q.2.category == 2))
abbrev fd_s2 (lv : List (Nat × Value)) (i : Nat) (v : Value) : List (Nat × Value) := (i, v) :: lv.filter (fun q => !(q.1 == i) && (!(q.1 == i + 1) && !(q.1 + 1 == i && q.2.category == 2)))
section FDR
variable {S : List fdE} {α : Nat → Nat} {y : fdM} {pc : Nat} {lv lv' : List (Nat × Value)} {st : List Value} {I I' : fdI} {L L' : fdL} {Q : Option Value → fdI → fdL → Prop}
theorem r_keep (ks : List Nat) (hl : fd_pk lv ks = lv') (K : Rn S α y pc lv' st I L Q) : Rn S α y pc lv st I L Q := by
  subst hl
  intro p l e s m args below meth c A dC dI dA F H locs ls hP hS hl
  exact K p l e s m args below meth c A dC dI dA F H locs ls hP hS (fd_pk_has hl ks)
theorem r_eq {st' : List Value} (K : Rn S α y pc lv' st' I' L' Q) (h1 : lv = lv') (h2 : st = st') (h3 : I = I') (h4 : L = L') : Rn S α y pc lv st I L Q := by
  subst h1; subst h2; subst h3; subst h4; exact K
theorem r_post {Q' : Option Value → fdI → fdL → Prop} (K : Rn S α y pc lv st I L Q') (h : ∀ rv I' L', Q' rv I' L' → Q rv I' L') : Rn S α y pc lv st I L Q := by
  intro p l e s m args below meth c A dC dI dA F H locs ls hP hS hl T hT X
  obtain ⟨t, a, o, b1, b2, ⟨⟨rv, J, M, c1, c2, c3⟩, c4⟩, b4⟩ := K p l e s m args below meth c A dC dI dA F H locs ls hP hS hl T hT X
  exact ⟨t, a, o, b1, b2, ⟨⟨rv, J, M, c1, h _ _ _ c2, c3⟩, c4⟩, b4⟩
theorem r_iload_n {k : Fin 4} {x : Int32} (hdg : decode y.1 pc = .ok (.iload_n k, 1)) (hk : fd_lk lv k.val = some (.int x)) (K : Rn S α y (pc + 1) lv (.int x :: st) I L Q) : Rn S α y pc lv (st) I L Q := by
  intro p l e s m args below meth c A dC dI dA F H locs ls hP hS hl
  exact lv_iload_n F.1 F.2.1 hdg rfl (fd_lk_at hl hk) (K p l e s m args below meth c A dC dI dA F H locs ls hP hS hl)
theorem r_iload {i : Nat} {x : Int32} (hdg : decode y.1 pc = .ok (.iload i, 2)) (hk : fd_lk lv i = some (.int x)) (K : Rn S α y (pc + 2) lv (.int x :: st) I L Q) : Rn S α y pc lv (st) I L Q := by
  intro p l e s m args below meth c A dC dI dA F H locs ls hP hS hl
  exact lv_iload F.1 F.2.1 hdg (fd_lk_at hl hk) (K p l e s m args below meth c A dC dI dA F H locs ls hP hS hl)
theorem r_lload_n {k : Fin 4} {x : Int64} (hdg : decode y.1 pc = .ok (.lload_n k, 1)) (hk : fd_lk lv k.val = some (.long x)) (K : Rn S α y (pc + 1) lv (.long x :: st) I L Q) : Rn S α y pc lv (st) I L Q := by
  intro p l e s m args below meth c A dC dI dA F H locs ls hP hS hl
  exact lv_lload_n F.1 F.2.1 hdg rfl (fd_lk_at hl hk) (K p l e s m args below meth c A dC dI dA F H locs ls hP hS hl)
theorem r_lload {i : Nat} {x : Int64} (hdg : decode y.1 pc = .ok (.lload i, 2)) (hk : fd_lk lv i = some (.long x)) (K : Rn S α y (pc + 2) lv (.long x :: st) I L Q) : Rn S α y pc lv (st) I L Q := by
  intro p l e s m args below meth c A dC dI dA F H locs ls hP hS hl
  exact lv_lload F.1 F.2.1 hdg (fd_lk_at hl hk) (K p l e s m args below meth c A dC dI dA F H locs ls hP hS hl)
theorem r_aload_n {k : Fin 4} {x : Nat} (hdg : decode y.1 pc = .ok (.aload_n k, 1)) (hk : fd_lk lv k.val = some (.ref x)) (K : Rn S α y (pc + 1) lv (.ref x :: st) I L Q) : Rn S α y pc lv (st) I L Q := by
  intro p l e s m args below meth c A dC dI dA F H locs ls hP hS hl
  exact lv_aload_n F.1 F.2.1 hdg rfl (fd_lk_at hl hk) (K p l e s m args below meth c A dC dI dA F H locs ls hP hS hl)
theorem r_aload {i : Nat} {x : Nat} (hdg : decode y.1 pc = .ok (.aload i, 2)) (hk : fd_lk lv i = some (.ref x)) (K : Rn S α y (pc + 2) lv (.ref x :: st) I L Q) : Rn S α y pc lv (st) I L Q := by
  intro p l e s m args below meth c A dC dI dA F H locs ls hP hS hl
  exact lv_aload F.1 F.2.1 hdg (fd_lk_at hl hk) (K p l e s m args below meth c A dC dI dA F H locs ls hP hS hl)
theorem r_istore_n {k : Fin 4} {x : Int32} (hdg : decode y.1 pc = .ok (.istore_n k, 1)) (hn : k.val < y.2.1) (hl' : fd_s1 lv k.val (.int x) = lv') (K : Rn S α y (pc + 1) lv' (st) I L Q) : Rn S α y pc lv (.int x :: st) I L Q := by
  intro p l e s m args below meth c A dC dI dA F H locs ls hP hS hl
  exact lv_istore_n F.1 F.2.1 hdg rfl hl hn hl' (fun ls hl => K p l e s m args below meth c A dC dI dA F H locs ls hP hS hl)
theorem r_istore {i : Nat} {x : Int32} (hdg : decode y.1 pc = .ok (.istore i, 2)) (hn : i < y.2.1) (hl' : fd_s1 lv i (.int x) = lv') (K : Rn S α y (pc + 2) lv' (st) I L Q) : Rn S α y pc lv (.int x :: st) I L Q := by
  intro p l e s m args below meth c A dC dI dA F H locs ls hP hS hl
  exact lv_istore F.1 F.2.1 hdg hl hn hl' (fun ls hl => K p l e s m args below meth c A dC dI dA F H locs ls hP hS hl)
theorem r_lstore_n {k : Fin 4} {x : Int64} (hdg : decode y.1 pc = .ok (.lstore_n k, 1)) (hn : k.val + 1 < y.2.1) (hl' : fd_s2 lv k.val (.long x) = lv') (K : Rn S α y (pc + 1) lv' (st) I L Q) : Rn S α y pc lv (.long x :: st) I L Q := by
  intro p l e s m args below meth c A dC dI dA F H locs ls hP hS hl
  exact lv_lstore_n F.1 F.2.1 hdg rfl hl hn hl' (fun ls hl => K p l e s m args below meth c A dC dI dA F H locs ls hP hS hl)
theorem r_lstore {i : Nat} {x : Int64} (hdg : decode y.1 pc = .ok (.lstore i, 2)) (hn : i + 1 < y.2.1) (hl' : fd_s2 lv i (.long x) = lv') (K : Rn S α y (pc + 2) lv' (st) I L Q) : Rn S α y pc lv (.long x :: st) I L Q := by
  intro p l e s m args below meth c A dC dI dA F H locs ls hP hS hl
  exact lv_lstore F.1 F.2.1 hdg hl hn hl' (fun ls hl => K p l e s m args below meth c A dC dI dA F H locs ls hP hS hl)
theorem r_astore_n {k : Fin 4} {x : Nat} (hdg : decode y.1 pc = .ok (.astore_n k, 1)) (hn : k.val < y.2.1) (hl' : fd_s1 lv k.val (.ref x) = lv') (K : Rn S α y (pc + 1) lv' (st) I L Q) : Rn S α y pc lv (.ref x :: st) I L Q := by
  intro p l e s m args below meth c A dC dI dA F H locs ls hP hS hl
  exact lv_astore_n F.1 F.2.1 hdg rfl hl hn hl' (fun ls hl => K p l e s m args below meth c A dC dI dA F H locs ls hP hS hl)
theorem r_astore {i : Nat} {x : Nat} (hdg : decode y.1 pc = .ok (.astore i, 2)) (hn : i < y.2.1) (hl' : fd_s1 lv i (.ref x) = lv') (K : Rn S α y (pc + 2) lv' (st) I L Q) : Rn S α y pc lv (.ref x :: st) I L Q := by
  intro p l e s m args below meth c A dC dI dA F H locs ls hP hS hl
  exact lv_astore F.1 F.2.1 hdg hl hn hl' (fun ls hl => K p l e s m args below meth c A dC dI dA F H locs ls hP hS hl)
theorem fd_lk_pl {lv : List (Nat × Value)} {i : Nat} {v : Value} (hk : fd_lk lv i = some v) : ∃ k : Nat, lv[k]? = some (i, v) := by
  induction lv with
  | nil => cases hk
  | cons a t ih =>
    obtain ⟨j, w⟩ := a
    unfold fd_lk at hk
    cases hb : Nat.beq j i with
    | true =>
      rw [hb] at hk
      cases hk
      rw [Nat.eq_of_beq_eq_true hb]
      exact ⟨0, rfl⟩
    | false =>
      rw [hb] at hk
      obtain ⟨k, h⟩ := ih hk
      exact ⟨k + 1, h⟩
theorem r_iinc {i : Nat} {n : Int} {x v : Int32} (hdg : decode y.1 pc = .ok (.iinc i n, 3)) (hk : fd_lk lv i = some (.int x)) (hv : x + Int32.ofInt n = v) (hn : i < y.2.1) (hl' : fd_s1 lv i (.int v) = lv') (K : Rn S α y (pc + 3) lv' (st) I L Q) : Rn S α y pc lv (st) I L Q := by
  intro p l e s m args below meth c A dC dI dA F H locs ls hP hS hl
  obtain ⟨k, hk2⟩ := fd_lk_pl hk
  exact lv_iinc F.1 F.2.1 hdg hl hk2 hv hn hl' (fun ls hl => K p l e s m args below meth c A dC dI dA F H locs ls hP hS hl)
theorem r_iconst {n : Int} {v : Int32} (hdg : decode y.1 pc = .ok (.iconst n, 1)) (hv : Int32.ofInt n = v) (K : Rn S α y (pc + 1) lv (.int v :: st) I L Q) : Rn S α y pc lv (st) I L Q := by
  intro p l e s m args below meth c A dC dI dA F H locs ls hP hS hl
  exact lv_iconst F.1 F.2.1 hdg hv (K p l e s m args below meth c A dC dI dA F H locs ls hP hS hl)
theorem r_bipush {n : Int} {v : Int32} (hdg : decode y.1 pc = .ok (.bipush n, 2)) (hv : (Int8.ofInt n).toInt32 = v) (K : Rn S α y (pc + 2) lv (.int v :: st) I L Q) : Rn S α y pc lv (st) I L Q := by
  intro p l e s m args below meth c A dC dI dA F H locs ls hP hS hl
  exact lv_bipush F.1 F.2.1 hdg hv (K p l e s m args below meth c A dC dI dA F H locs ls hP hS hl)
theorem r_sipush {n : Int} {v : Int32} (hdg : decode y.1 pc = .ok (.sipush n, 3)) (hv : (Int16.ofInt n).toInt32 = v) (K : Rn S α y (pc + 3) lv (.int v :: st) I L Q) : Rn S α y pc lv (st) I L Q := by
  intro p l e s m args below meth c A dC dI dA F H locs ls hP hS hl
  exact lv_sipush F.1 F.2.1 hdg hv (K p l e s m args below meth c A dC dI dA F H locs ls hP hS hl)
theorem r_lconst {n : Fin 2} {v : Int64} (hdg : decode y.1 pc = .ok (.lconst n, 1)) (hv : Int64.ofNat (n : Nat) = v) (K : Rn S α y (pc + 1) lv (.long v :: st) I L Q) : Rn S α y pc lv (st) I L Q := by
  intro p l e s m args below meth c A dC dI dA F H locs ls hP hS hl
  exact lv_lconst F.1 F.2.1 hdg hv (K p l e s m args below meth c A dC dI dA F H locs ls hP hS hl)
theorem r_ldc2 {index : Nat} {v : Int64} (hw : Cond.constantLong y.2.2.1 index v ∈ fd_tb) (hdg : decode y.1 pc = .ok (.ldc2_w index, 3)) (K : Rn S α y (pc + 3) lv (.long v :: st) I L Q) : Rn S α y pc lv (st) I L Q := by
  intro p l e s m args below meth c A dC dI dA F H locs ls hP hS hl
  exact lv_ldc2 F.1 F.2.1 F.2.2.2.1 (F.2.2.2.2.2.2.1 _ hw) hdg (K p l e s m args below meth c A dC dI dA F H locs ls hP hS hl)
theorem r_iadd {x z : Int32} (hdg : decode y.1 pc = .ok (.iadd, 1)) (K : Rn S α y (pc + 1) lv (.int (x + z) :: st) I L Q) : Rn S α y pc lv (.int z :: .int x :: st) I L Q := by
  intro p l e s m args below meth c A dC dI dA F H locs ls hP hS hl
  exact lv_iadd F.1 F.2.1 hdg (K p l e s m args below meth c A dC dI dA F H locs ls hP hS hl)
theorem r_isub {x z : Int32} (hdg : decode y.1 pc = .ok (.isub, 1)) (K : Rn S α y (pc + 1) lv (.int (x - z) :: st) I L Q) : Rn S α y pc lv (.int z :: .int x :: st) I L Q := by
  intro p l e s m args below meth c A dC dI dA F H locs ls hP hS hl
  exact lv_isub F.1 F.2.1 hdg (K p l e s m args below meth c A dC dI dA F H locs ls hP hS hl)
theorem r_imul {x z : Int32} (hdg : decode y.1 pc = .ok (.imul, 1)) (K : Rn S α y (pc + 1) lv (.int (x * z) :: st) I L Q) : Rn S α y pc lv (.int z :: .int x :: st) I L Q := by
  intro p l e s m args below meth c A dC dI dA F H locs ls hP hS hl
  exact lv_imul F.1 F.2.1 hdg (K p l e s m args below meth c A dC dI dA F H locs ls hP hS hl)
theorem r_iand {x z : Int32} (hdg : decode y.1 pc = .ok (.iand, 1)) (K : Rn S α y (pc + 1) lv (.int (x &&& z) :: st) I L Q) : Rn S α y pc lv (.int z :: .int x :: st) I L Q := by
  intro p l e s m args below meth c A dC dI dA F H locs ls hP hS hl
  exact lv_iand F.1 F.2.1 hdg (K p l e s m args below meth c A dC dI dA F H locs ls hP hS hl)
theorem r_ior {x z : Int32} (hdg : decode y.1 pc = .ok (.ior, 1)) (K : Rn S α y (pc + 1) lv (.int (x ||| z) :: st) I L Q) : Rn S α y pc lv (.int z :: .int x :: st) I L Q := by
  intro p l e s m args below meth c A dC dI dA F H locs ls hP hS hl
  exact lv_ior F.1 F.2.1 hdg (K p l e s m args below meth c A dC dI dA F H locs ls hP hS hl)
theorem r_ixor {x z : Int32} (hdg : decode y.1 pc = .ok (.ixor, 1)) (K : Rn S α y (pc + 1) lv (.int (x ^^^ z) :: st) I L Q) : Rn S α y pc lv (.int z :: .int x :: st) I L Q := by
  intro p l e s m args below meth c A dC dI dA F H locs ls hP hS hl
  exact lv_ixor F.1 F.2.1 hdg (K p l e s m args below meth c A dC dI dA F H locs ls hP hS hl)
theorem r_ishl {x z : Int32} (hdg : decode y.1 pc = .ok (.ishl, 1)) (K : Rn S α y (pc + 1) lv (.int (x <<< (z &&& 31)) :: st) I L Q) : Rn S α y pc lv (.int z :: .int x :: st) I L Q := by
  intro p l e s m args below meth c A dC dI dA F H locs ls hP hS hl
  exact lv_ishl F.1 F.2.1 hdg (K p l e s m args below meth c A dC dI dA F H locs ls hP hS hl)
theorem r_ishr {x z : Int32} (hdg : decode y.1 pc = .ok (.ishr, 1)) (K : Rn S α y (pc + 1) lv (.int (x >>> (z &&& 31)) :: st) I L Q) : Rn S α y pc lv (.int z :: .int x :: st) I L Q := by
  intro p l e s m args below meth c A dC dI dA F H locs ls hP hS hl
  exact lv_ishr F.1 F.2.1 hdg (K p l e s m args below meth c A dC dI dA F H locs ls hP hS hl)
theorem r_idiv {x z : Int32} (hdg : decode y.1 pc = .ok (.idiv, 1)) (hne : ¬ z = 0) (K : Rn S α y (pc + 1) lv (.int (x / z) :: st) I L Q) : Rn S α y pc lv (.int z :: .int x :: st) I L Q := by
  intro p l e s m args below meth c A dC dI dA F H locs ls hP hS hl
  exact lv_idiv F.1 F.2.1 hdg hne (K p l e s m args below meth c A dC dI dA F H locs ls hP hS hl)
theorem r_irem {x z : Int32} (hdg : decode y.1 pc = .ok (.irem, 1)) (hne : ¬ z = 0) (K : Rn S α y (pc + 1) lv (.int (x - x / z * z) :: st) I L Q) : Rn S α y pc lv (.int z :: .int x :: st) I L Q := by
  intro p l e s m args below meth c A dC dI dA F H locs ls hP hS hl
  exact lv_irem F.1 F.2.1 hdg hne (K p l e s m args below meth c A dC dI dA F H locs ls hP hS hl)
theorem r_ladd {x z : Int64} (hdg : decode y.1 pc = .ok (.ladd, 1)) (K : Rn S α y (pc + 1) lv (.long (x + z) :: st) I L Q) : Rn S α y pc lv (.long z :: .long x :: st) I L Q := by
  intro p l e s m args below meth c A dC dI dA F H locs ls hP hS hl
  exact lv_ladd F.1 F.2.1 hdg (K p l e s m args below meth c A dC dI dA F H locs ls hP hS hl)
theorem r_lmul {x z : Int64} (hdg : decode y.1 pc = .ok (.lmul, 1)) (K : Rn S α y (pc + 1) lv (.long (x * z) :: st) I L Q) : Rn S α y pc lv (.long z :: .long x :: st) I L Q := by
  intro p l e s m args below meth c A dC dI dA F H locs ls hP hS hl
  exact lv_lmul F.1 F.2.1 hdg (K p l e s m args below meth c A dC dI dA F H locs ls hP hS hl)
theorem r_ldiv {x z : Int64} (hdg : decode y.1 pc = .ok (.ldiv, 1)) (hne : ¬ z = 0) (K : Rn S α y (pc + 1) lv (.long (x / z) :: st) I L Q) : Rn S α y pc lv (.long z :: .long x :: st) I L Q := by
  intro p l e s m args below meth c A dC dI dA F H locs ls hP hS hl
  exact lv_ldiv F.1 F.2.1 hdg hne (K p l e s m args below meth c A dC dI dA F H locs ls hP hS hl)
theorem r_lrem {x z : Int64} (hdg : decode y.1 pc = .ok (.lrem, 1)) (hne : ¬ z = 0) (K : Rn S α y (pc + 1) lv (.long (x - x / z * z) :: st) I L Q) : Rn S α y pc lv (.long z :: .long x :: st) I L Q := by
  intro p l e s m args below meth c A dC dI dA F H locs ls hP hS hl
  exact lv_lrem F.1 F.2.1 hdg hne (K p l e s m args below meth c A dC dI dA F H locs ls hP hS hl)
theorem r_i2l {x : Int32} {v : Int64} (hdg : decode y.1 pc = .ok (.i2l, 1)) (hv : x.toInt64 = v) (K : Rn S α y (pc + 1) lv (.long v :: st) I L Q) : Rn S α y pc lv (.int x :: st) I L Q := by
  intro p l e s m args below meth c A dC dI dA F H locs ls hP hS hl
  exact lv_i2l F.1 F.2.1 hdg hv (K p l e s m args below meth c A dC dI dA F H locs ls hP hS hl)
theorem r_i2b {x v : Int32} (hdg : decode y.1 pc = .ok (.i2b, 1)) (hv : x.toInt8.toInt32 = v) (K : Rn S α y (pc + 1) lv (.int v :: st) I L Q) : Rn S α y pc lv (.int x :: st) I L Q := by
  intro p l e s m args below meth c A dC dI dA F H locs ls hP hS hl
  exact lv_i2b F.1 F.2.1 hdg hv (K p l e s m args below meth c A dC dI dA F H locs ls hP hS hl)
theorem r_i2c {x v : Int32} (hdg : decode y.1 pc = .ok (.i2c, 1)) (hv : (x.toUInt32 % 65536).toInt32 = v) (K : Rn S α y (pc + 1) lv (.int v :: st) I L Q) : Rn S α y pc lv (.int x :: st) I L Q := by
  intro p l e s m args below meth c A dC dI dA F H locs ls hP hS hl
  exact lv_i2c F.1 F.2.1 hdg hv (K p l e s m args below meth c A dC dI dA F H locs ls hP hS hl)
theorem r_dup {v : Value} (hdg : decode y.1 pc = .ok (.dup, 1)) (hv : v.category = 1) (K : Rn S α y (pc + 1) lv (v :: v :: st) I L Q) : Rn S α y pc lv (v :: st) I L Q := by
  intro p l e s m args below meth c A dC dI dA F H locs ls hP hS hl
  exact lv_dup F.1 F.2.1 hdg hv (K p l e s m args below meth c A dC dI dA F H locs ls hP hS hl)
theorem r_pop {v : Value} (hdg : decode y.1 pc = .ok (.pop, 1)) (hv : v.category = 1) (K : Rn S α y (pc + 1) lv (st) I L Q) : Rn S α y pc lv (v :: st) I L Q := by
  intro p l e s m args below meth c A dC dI dA F H locs ls hP hS hl
  exact lv_pop F.1 F.2.1 hdg hv (K p l e s m args below meth c A dC dI dA F H locs ls hP hS hl)
theorem r_goto {off : Int} {tgt : Nat} (hdg : decode y.1 pc = .ok (.goto off, 3)) (ht : (pc : Int) + off = (tgt : Int)) (K : Rn S α y tgt lv st I L Q) : Rn S α y pc lv st I L Q := by
  intro p l e s m args below meth c A dC dI dA F H locs ls hP hS hl
  exact lv_goto F.1 F.2.1 hdg ht (K p l e s m args below meth c A dC dI dA F H locs ls hP hS hl)
theorem r_if_eq {x : Int32} {off : Int} (tgt : Nat) (hdg : decode y.1 pc = .ok (.ifCond .eq off, 3)) (ht : (pc : Int) + off = (tgt : Int)) (KT : x = 0 → Rn S α y tgt lv st I L Q) (KF : ¬ x = 0 → Rn S α y (pc + 3) lv st I L Q) : Rn S α y pc lv (.int x :: st) I L Q := by
  intro p l e s m args below meth c A dC dI dA F H locs ls hP hS hl
  exact lv_if_eq F.1 F.2.1 hdg ht (fun h => KT h p l e s m args below meth c A dC dI dA F H locs ls hP hS hl) (fun h => KF h p l e s m args below meth c A dC dI dA F H locs ls hP hS hl)
theorem r_if_ne {x : Int32} {off : Int} (tgt : Nat) (hdg : decode y.1 pc = .ok (.ifCond .ne off, 3)) (ht : (pc : Int) + off = (tgt : Int)) (KT : ¬ x = 0 → Rn S α y tgt lv st I L Q) (KF : x = 0 → Rn S α y (pc + 3) lv st I L Q) : Rn S α y pc lv (.int x :: st) I L Q := by
  intro p l e s m args below meth c A dC dI dA F H locs ls hP hS hl
  exact lv_if_ne F.1 F.2.1 hdg ht (fun h => KT h p l e s m args below meth c A dC dI dA F H locs ls hP hS hl) (fun h => KF h p l e s m args below meth c A dC dI dA F H locs ls hP hS hl)
theorem r_if_lt {x : Int32} {off : Int} (tgt : Nat) (hdg : decode y.1 pc = .ok (.ifCond .lt off, 3)) (ht : (pc : Int) + off = (tgt : Int)) (KT : x < 0 → Rn S α y tgt lv st I L Q) (KF : ¬ x < 0 → Rn S α y (pc + 3) lv st I L Q) : Rn S α y pc lv (.int x :: st) I L Q := by
  intro p l e s m args below meth c A dC dI dA F H locs ls hP hS hl
  exact lv_if_lt F.1 F.2.1 hdg ht (fun h => KT h p l e s m args below meth c A dC dI dA F H locs ls hP hS hl) (fun h => KF h p l e s m args below meth c A dC dI dA F H locs ls hP hS hl)
theorem r_if_ge {x : Int32} {off : Int} (tgt : Nat) (hdg : decode y.1 pc = .ok (.ifCond .ge off, 3)) (ht : (pc : Int) + off = (tgt : Int)) (KT : 0 ≤ x → Rn S α y tgt lv st I L Q) (KF : ¬ 0 ≤ x → Rn S α y (pc + 3) lv st I L Q) : Rn S α y pc lv (.int x :: st) I L Q := by
  intro p l e s m args below meth c A dC dI dA F H locs ls hP hS hl
  exact lv_if_ge F.1 F.2.1 hdg ht (fun h => KT h p l e s m args below meth c A dC dI dA F H locs ls hP hS hl) (fun h => KF h p l e s m args below meth c A dC dI dA F H locs ls hP hS hl)
theorem r_if_gt {x : Int32} {off : Int} (tgt : Nat) (hdg : decode y.1 pc = .ok (.ifCond .gt off, 3)) (ht : (pc : Int) + off = (tgt : Int)) (KT : 0 < x → Rn S α y tgt lv st I L Q) (KF : ¬ 0 < x → Rn S α y (pc + 3) lv st I L Q) : Rn S α y pc lv (.int x :: st) I L Q := by
  intro p l e s m args below meth c A dC dI dA F H locs ls hP hS hl
  exact lv_if_gt F.1 F.2.1 hdg ht (fun h => KT h p l e s m args below meth c A dC dI dA F H locs ls hP hS hl) (fun h => KF h p l e s m args below meth c A dC dI dA F H locs ls hP hS hl)
theorem r_if_le {x : Int32} {off : Int} (tgt : Nat) (hdg : decode y.1 pc = .ok (.ifCond .le off, 3)) (ht : (pc : Int) + off = (tgt : Int)) (KT : x ≤ 0 → Rn S α y tgt lv st I L Q) (KF : ¬ x ≤ 0 → Rn S α y (pc + 3) lv st I L Q) : Rn S α y pc lv (.int x :: st) I L Q := by
  intro p l e s m args below meth c A dC dI dA F H locs ls hP hS hl
  exact lv_if_le F.1 F.2.1 hdg ht (fun h => KT h p l e s m args below meth c A dC dI dA F H locs ls hP hS hl) (fun h => KF h p l e s m args below meth c A dC dI dA F H locs ls hP hS hl)
theorem r_icmp_eq {x z : Int32} {off : Int} (tgt : Nat) (hdg : decode y.1 pc = .ok (.if_icmp .eq off, 3)) (ht : (pc : Int) + off = (tgt : Int)) (KT : x = z → Rn S α y tgt lv st I L Q) (KF : ¬ x = z → Rn S α y (pc + 3) lv st I L Q) : Rn S α y pc lv (.int z :: .int x :: st) I L Q := by
  intro p l e s m args below meth c A dC dI dA F H locs ls hP hS hl
  exact lv_icmp_eq F.1 F.2.1 hdg ht (fun h => KT h p l e s m args below meth c A dC dI dA F H locs ls hP hS hl) (fun h => KF h p l e s m args below meth c A dC dI dA F H locs ls hP hS hl)
theorem r_icmp_ne {x z : Int32} {off : Int} (tgt : Nat) (hdg : decode y.1 pc = .ok (.if_icmp .ne off, 3)) (ht : (pc : Int) + off = (tgt : Int)) (KT : ¬ x = z → Rn S α y tgt lv st I L Q) (KF : x = z → Rn S α y (pc + 3) lv st I L Q) : Rn S α y pc lv (.int z :: .int x :: st) I L Q := by
  intro p l e s m args below meth c A dC dI dA F H locs ls hP hS hl
  exact lv_icmp_ne F.1 F.2.1 hdg ht (fun h => KT h p l e s m args below meth c A dC dI dA F H locs ls hP hS hl) (fun h => KF h p l e s m args below meth c A dC dI dA F H locs ls hP hS hl)
theorem r_icmp_lt {x z : Int32} {off : Int} (tgt : Nat) (hdg : decode y.1 pc = .ok (.if_icmp .lt off, 3)) (ht : (pc : Int) + off = (tgt : Int)) (KT : x < z → Rn S α y tgt lv st I L Q) (KF : ¬ x < z → Rn S α y (pc + 3) lv st I L Q) : Rn S α y pc lv (.int z :: .int x :: st) I L Q := by
  intro p l e s m args below meth c A dC dI dA F H locs ls hP hS hl
  exact lv_icmp_lt F.1 F.2.1 hdg ht (fun h => KT h p l e s m args below meth c A dC dI dA F H locs ls hP hS hl) (fun h => KF h p l e s m args below meth c A dC dI dA F H locs ls hP hS hl)
theorem r_icmp_ge {x z : Int32} {off : Int} (tgt : Nat) (hdg : decode y.1 pc = .ok (.if_icmp .ge off, 3)) (ht : (pc : Int) + off = (tgt : Int)) (KT : z ≤ x → Rn S α y tgt lv st I L Q) (KF : ¬ z ≤ x → Rn S α y (pc + 3) lv st I L Q) : Rn S α y pc lv (.int z :: .int x :: st) I L Q := by
  intro p l e s m args below meth c A dC dI dA F H locs ls hP hS hl
  exact lv_icmp_ge F.1 F.2.1 hdg ht (fun h => KT h p l e s m args below meth c A dC dI dA F H locs ls hP hS hl) (fun h => KF h p l e s m args below meth c A dC dI dA F H locs ls hP hS hl)
theorem r_icmp_gt {x z : Int32} {off : Int} (tgt : Nat) (hdg : decode y.1 pc = .ok (.if_icmp .gt off, 3)) (ht : (pc : Int) + off = (tgt : Int)) (KT : z < x → Rn S α y tgt lv st I L Q) (KF : ¬ z < x → Rn S α y (pc + 3) lv st I L Q) : Rn S α y pc lv (.int z :: .int x :: st) I L Q := by
  intro p l e s m args below meth c A dC dI dA F H locs ls hP hS hl
  exact lv_icmp_gt F.1 F.2.1 hdg ht (fun h => KT h p l e s m args below meth c A dC dI dA F H locs ls hP hS hl) (fun h => KF h p l e s m args below meth c A dC dI dA F H locs ls hP hS hl)
theorem r_icmp_le {x z : Int32} {off : Int} (tgt : Nat) (hdg : decode y.1 pc = .ok (.if_icmp .le off, 3)) (ht : (pc : Int) + off = (tgt : Int)) (KT : x ≤ z → Rn S α y tgt lv st I L Q) (KF : ¬ x ≤ z → Rn S α y (pc + 3) lv st I L Q) : Rn S α y pc lv (.int z :: .int x :: st) I L Q := by
  intro p l e s m args below meth c A dC dI dA F H locs ls hP hS hl
  exact lv_icmp_le F.1 F.2.1 hdg ht (fun h => KT h p l e s m args below meth c A dC dI dA F H locs ls hP hS hl) (fun h => KF h p l e s m args below meth c A dC dI dA F H locs ls hP hS hl)
theorem r_ifnull {x : Nat} {off : Int} (hdg : decode y.1 pc = .ok (.ifnull off, 3)) (K : Rn S α y (pc + 3) lv (st) I L Q) : Rn S α y pc lv (.ref x :: st) I L Q := by
  intro p l e s m args below meth c A dC dI dA F H locs ls hP hS hl
  exact lv_ifnull F.1 F.2.1 hdg (K p l e s m args below meth c A dC dI dA F H locs ls hP hS hl)
theorem r_lcmp {x z : Int64} (hdg : decode y.1 pc = .ok (.lcmp, 1)) (K : Rn S α y (pc + 1) lv (.int (lg_cmp x z) :: st) I L Q) : Rn S α y pc lv (.long z :: .long x :: st) I L Q := by
  intro p l e s m args below meth c A dC dI dA F H locs ls hP hS hl
  exact W.lcmp F.1 F.2.1 hdg (K p l e s m args below meth c A dC dI dA F H locs ls hP hS hl)
theorem r_dup2 {v u : Value} (hdg : decode y.1 pc = .ok (.dup2, 1)) (hv : v.category = 1) (hu : u.category = 1) (K : Rn S α y (pc + 1) lv (v :: u :: v :: u :: st) I L Q) : Rn S α y pc lv (v :: u :: st) I L Q := by
  intro p l e s m args below meth c A dC dI dA F H locs ls hP hS hl
  exact lv_dup2_11 F.1 F.2.1 hdg hv hu (K p l e s m args below meth c A dC dI dA F H locs ls hP hS hl)
theorem r_dup_x1 {v u : Value} (hdg : decode y.1 pc = .ok (.dup_x1, 1)) (hv : v.category = 1) (hu : u.category = 1) (K : Rn S α y (pc + 1) lv (v :: u :: v :: st) I L Q) : Rn S α y pc lv (v :: u :: st) I L Q := by
  intro p l e s m args below meth c A dC dI dA F H locs ls hP hS hl
  exact lv_dup_x1 F.1 F.2.1 hdg hv hu (K p l e s m args below meth c A dC dI dA F H locs ls hP hS hl)
theorem r_tswOut {dflt lo hi : Int} {offs : Array Int} {len : Nat} {x : Int32} {tgt : Nat} (hdg : decode y.1 pc = .ok (.tableswitch dflt lo hi offs, len)) (h : x.toInt < lo ∨ hi < x.toInt) (ht : (pc : Int) + dflt = (tgt : Int)) (K : Rn S α y tgt lv st I L Q) : Rn S α y pc lv (.int x :: st) I L Q := by
  intro p l e s m args below meth c A dC dI dA F H locs ls hP hS hl
  exact lv_tableOut F.1 F.2.1 hdg h ht (K p l e s m args below meth c A dC dI dA F H locs ls hP hS hl)
theorem r_tswIn {dflt lo hi : Int} {offs : Array Int} {len : Nat} {x : Int32} {off : Int} {tgt : Nat} (hdg : decode y.1 pc = .ok (.tableswitch dflt lo hi offs, len)) (h1 : ¬ x.toInt < lo) (h2 : ¬ hi < x.toInt) (ho : offs[(x.toInt - lo).toNat]? = some off) (ht : (pc : Int) + off = (tgt : Int)) (K : Rn S α y tgt lv st I L Q) : Rn S α y pc lv (.int x :: st) I L Q := by
  intro p l e s m args below meth c A dC dI dA F H locs ls hP hS hl
  exact lv_tableIn F.1 F.2.1 hdg h1 h2 ho ht (K p l e s m args below meth c A dC dI dA F H locs ls hP hS hl)
end FDR
/-- a field's link: from the class own by its entry idx to the field j of the class ci -/
def fd_fl (own : String) (idx ci j : Nat) : Prop := ∃ r : vw_C, vwCl[ci]? = some r ∧ j < r.2.2 ∧ Cond.fieldLink own idx (r.2.1 j).1 (r.2.1 j).2.1 (r.2.1 j).2.2.1 ∈ fd_tb
/-- that it may be written, with its type -/
def fd_fw (ci j : Nat) (ty : FieldType) : Prop := ∀ r : vw_C, vwCl[ci]? = some r → (r.2.1 j).2.2.2 = false ∧ parseFieldDescriptor (r.2.1 j).2.2.1 = some ty
def fd_okC (r : vw_C) : Prop := (∀ w ∈ u_ws r.1 r.2.1 r.2.2, w ∈ fd_tb) ∧ (∃ ty : Nat → FieldType, ∀ k, k < r.2.2 → parseFieldDescriptor (r.2.1 k).2.2.1 = some (ty k)) ∧ ∀ a, a < r.2.2 → ∀ b, b < r.2.2 → a ≠ b → (r.2.1 a).2.1 ≠ (r.2.1 b).2.1
theorem fd_okL {ws : List Cond} (ps : List Nat) (h : ws = ps.filterMap (fun i => lw_tbl[i]?)) (hg : ws.all goodWord = true) : ∀ w ∈ ws, w ∈ fd_tb := by
  intro w hw
  have h1 := List.all_eq_true.mp hg w hw
  rw [h] at hw
  obtain ⟨i, -, hi⟩ := List.mem_filterMap.mp hw
  exact fd_in i hi h1
theorem fd_ok0 : fd_okC (RX0, TX0, 0) := ⟨fd_okL [] (by decide +kernel) (by decide +kernel), ⟨tyX0, tyX0_ok⟩, nmX0⟩
theorem fd_ok1 : fd_okC (RX1, TX1, 0) := ⟨fd_okL [] (by decide +kernel) (by decide +kernel), ⟨tyX1, tyX1_ok⟩, nmX1⟩
theorem fd_ok2 : fd_okC (RX2, TX2, 11) := ⟨fd_okL [230, 232, 234, 236, 238, 240, 242, 244, 246, 248, 250] (by decide +kernel) (by decide +kernel), ⟨tyX2, tyX2_ok⟩, nmX2⟩
theorem fd_ok3 : fd_okC (RX3, TX3, 0) := ⟨fd_okL [] (by decide +kernel) (by decide +kernel), ⟨tyX3, tyX3_ok⟩, nmX3⟩
theorem fd_ok4 : fd_okC (RX4, TX4, 0) := ⟨fd_okL [] (by decide +kernel) (by decide +kernel), ⟨tyX4, tyX4_ok⟩, nmX4⟩
theorem fd_ok5 : fd_okC (RX5, TX5, 17) := ⟨fd_okL [133, 135, 137, 139, 141, 143, 145, 147, 149, 151, 153, 155, 157, 159, 161, 163, 165] (by decide +kernel) (by decide +kernel), ⟨tyX5, tyX5_ok⟩, nmX5⟩
theorem fd_ok6 : fd_okC (RX6, TX6, 5) := ⟨fd_okL [269, 271, 273, 275, 277] (by decide +kernel) (by decide +kernel), ⟨tyX6, tyX6_ok⟩, nmX6⟩
theorem fd_ok7 : fd_okC (RX7, TX7, 0) := ⟨fd_okL [] (by decide +kernel) (by decide +kernel), ⟨tyX7, tyX7_ok⟩, nmX7⟩
theorem fd_ok8 : fd_okC (RX8, TX8, 0) := ⟨fd_okL [] (by decide +kernel) (by decide +kernel), ⟨tyX8, tyX8_ok⟩, nmX8⟩
theorem fd_ok9 : fd_okC (RX9, TX9, 8) := ⟨fd_okL [187, 189, 191, 193, 195, 197, 199, 201] (by decide +kernel) (by decide +kernel), ⟨tyX9, tyX9_ok⟩, nmX9⟩
theorem fd_ok10 : fd_okC (RX10, TX10, 13) := ⟨fd_okL [334, 336, 338, 340, 342, 344, 346, 348, 350, 352, 354, 356, 358] (by decide +kernel) (by decide +kernel), ⟨tyX10, tyX10_ok⟩, nmX10⟩
theorem fd_ok11 : fd_okC (RX11, TX11, 39) := ⟨fd_okL [973, 975, 977, 979, 981, 983, 985, 987, 989, 991, 993, 995, 997, 999, 1001, 1003, 1005, 1007, 1009, 1011, 1013, 1015, 1017, 1019, 1021, 1023, 1025, 1027, 1029, 1031, 1033, 1035, 1037, 1039, 1041, 1043, 1045, 1047, 1049] (by decide +kernel) (by decide +kernel), ⟨tyX11, tyX11_ok⟩, nmX11⟩
theorem fd_okA : ∀ (ci : Nat) (r : vw_C), vwCl[ci]? = some r → fd_okC r := by
  intro ci r h
  match ci, h with
  | 0, h => cases h; exact fd_ok0
  | 1, h => cases h; exact fd_ok1
  | 2, h => cases h; exact fd_ok2
  | 3, h => cases h; exact fd_ok3
  | 4, h => cases h; exact fd_ok4
  | 5, h => cases h; exact fd_ok5
  | 6, h => cases h; exact fd_ok6
  | 7, h => cases h; exact fd_ok7
  | 8, h => cases h; exact fd_ok8
  | 9, h => cases h; exact fd_ok9
  | 10, h => cases h; exact fd_ok10
  | 11, h => cases h; exact fd_ok11
  | k + 12, h => cases h
section FDR2
variable {S : List fdE} {α : Nat → Nat} {y : fdM} {pc : Nat} {lv lv' : List (Nat × Value)} {st : List Value} {I I' : fdI} {L L' : fdL} {Q : Option Value → fdI → fdL → Prop}
theorem r_getI {k ci j idx : Nat} {ks : List Nat} (hS0 : S[k]? = some (.inl (ci, ks))) (hj : ks[j]? = some (0)) (hfl : fd_fl y.2.2.1 idx ci j) (hdg : decode y.1 pc = .ok (.getfield idx, 3)) (K : Rn S α y (pc + 3) lv (.int (I k j) :: st) I L Q) : Rn S α y pc lv (.ref (α k) :: st) I L Q := by
  intro p l e s m args below meth c A dC dI dA F H locs ls hP hS hl
  obtain ⟨r, hr, hjN, hw⟩ := hfl
  obtain ⟨c1, ⟨ty, hty⟩, c3⟩ := fd_okA ci r hr
  exact va_get F.1 F.2.1 F.2.2.2.2.2.2.1 c1 F.2.2.2.1 F.2.2.2.2.2.2.2.1 hP k (fd_get S α dA I L hS0) hr j hjN (F.2.2.2.2.2.2.1 _ hw) (fun x hx => hx) (by rw [List.getElem?_mapIdx, hj]; rfl) hdg (K p l e s m args below meth c A dC dI dA F H locs ls hP hS hl)
theorem r_getJ {k ci j idx : Nat} {ks : List Nat} (hS0 : S[k]? = some (.inl (ci, ks))) (hj : ks[j]? = some (1)) (hfl : fd_fl y.2.2.1 idx ci j) (hdg : decode y.1 pc = .ok (.getfield idx, 3)) (K : Rn S α y (pc + 3) lv (.long (L k j) :: st) I L Q) : Rn S α y pc lv (.ref (α k) :: st) I L Q := by
  intro p l e s m args below meth c A dC dI dA F H locs ls hP hS hl
  obtain ⟨r, hr, hjN, hw⟩ := hfl
  obtain ⟨c1, ⟨ty, hty⟩, c3⟩ := fd_okA ci r hr
  exact va_get F.1 F.2.1 F.2.2.2.2.2.2.1 c1 F.2.2.2.1 F.2.2.2.2.2.2.2.1 hP k (fd_get S α dA I L hS0) hr j hjN (F.2.2.2.2.2.2.1 _ hw) (fun x hx => hx) (by rw [List.getElem?_mapIdx, hj]; rfl) hdg (K p l e s m args below meth c A dC dI dA F H locs ls hP hS hl)
theorem r_getR {k ci j idx n : Nat} {ks : List Nat} (hS0 : S[k]? = some (.inl (ci, ks))) (hj : ks[j]? = some (n + 2)) (hfl : fd_fl y.2.2.1 idx ci j) (hdg : decode y.1 pc = .ok (.getfield idx, 3)) (K : Rn S α y (pc + 3) lv (.ref (α n) :: st) I L Q) : Rn S α y pc lv (.ref (α k) :: st) I L Q := by
  intro p l e s m args below meth c A dC dI dA F H locs ls hP hS hl
  obtain ⟨r, hr, hjN, hw⟩ := hfl
  obtain ⟨c1, ⟨ty, hty⟩, c3⟩ := fd_okA ci r hr
  exact va_get F.1 F.2.1 F.2.2.2.2.2.2.1 c1 F.2.2.2.1 F.2.2.2.2.2.2.2.1 hP k (fd_get S α dA I L hS0) hr j hjN (F.2.2.2.2.2.2.1 _ hw) (fun x hx => hx) (by rw [List.getElem?_mapIdx, hj]; rfl) hdg (K p l e s m args below meth c A dC dI dA F H locs ls hP hS hl)
theorem r_putI {k ci j idx : Nat} {ks : List Nat} {v : Int32} (hS0 : S[k]? = some (.inl (ci, ks))) (hj : ks[j]? = some (0)) (hfl : fd_fl y.2.2.1 idx ci j) (hfw : fd_fw ci j .int) (hdg : decode y.1 pc = .ok (.putfield idx, 3)) (K : Rn S α y (pc + 3) lv st (fd_up I k j v) L Q) : Rn S α y pc lv (.int v :: .ref (α k) :: st) I L Q := by
  intro p l e s m args below meth c A dC dI dA F H locs ls hP hS hl
  obtain ⟨r, hr, hjN, hw⟩ := hfl
  obtain ⟨c1, ⟨ty, hty⟩, c3⟩ := fd_okA ci r hr
  obtain ⟨hfin, hd⟩ := hfw r hr
  refine va_put F.1 F.2.1 F.2.2.2.2.2.2.1 c1 ty hty c3 F.2.2.2.1 F.2.2.2.2.2.2.2.1 hP (F.2.2.2.2.2.2.2.2.1 I L) hS k (fd_get S α dA I L hS0) hr j hjN (F.2.2.2.2.2.2.1 _ hw) (fun x hx => hx) hfin hd rfl rfl (by rw [List.length_mapIdx]; exact (List.getElem?_eq_some_iff.mp hj).1) hdg (fun H1 locs1 hP1 _ hS1 => ?_)
  rw [fd_wsI hS0 hj] at hP1
  exact K p l e s m args below meth c A dC dI dA F H1 locs1 ls hP1 hS1 hl
theorem r_putZ {k ci j idx : Nat} {ks : List Nat} {v : Int32} (hS0 : S[k]? = some (.inl (ci, ks))) (hj : ks[j]? = some (0)) (hfl : fd_fl y.2.2.1 idx ci j) (hfw : fd_fw ci j .boolean) (hv : v = 0 ∨ v = 1) (hdg : decode y.1 pc = .ok (.putfield idx, 3)) (K : Rn S α y (pc + 3) lv st (fd_up I k j v) L Q) : Rn S α y pc lv (.int v :: .ref (α k) :: st) I L Q := by
  intro p l e s m args below meth c A dC dI dA F H locs ls hP hS hl
  obtain ⟨r, hr, hjN, hw⟩ := hfl
  obtain ⟨c1, ⟨ty, hty⟩, c3⟩ := fd_okA ci r hr
  obtain ⟨hfin, hd⟩ := hfw r hr
  refine va_put F.1 F.2.1 F.2.2.2.2.2.2.1 c1 ty hty c3 F.2.2.2.1 F.2.2.2.2.2.2.2.1 hP (F.2.2.2.2.2.2.2.2.1 I L) hS k (fd_get S α dA I L hS0) hr j hjN (F.2.2.2.2.2.2.1 _ hw) (fun x hx => hx) hfin hd (by rcases hv with h | h <;> subst h <;> rfl) (by rcases hv with h | h <;> subst h <;> rfl) (by rw [List.length_mapIdx]; exact (List.getElem?_eq_some_iff.mp hj).1) hdg (fun H1 locs1 hP1 _ hS1 => ?_)
  rw [fd_wsI hS0 hj] at hP1
  exact K p l e s m args below meth c A dC dI dA F H1 locs1 ls hP1 hS1 hl
theorem r_putJ {k ci j idx : Nat} {ks : List Nat} {v : Int64} (hS0 : S[k]? = some (.inl (ci, ks))) (hj : ks[j]? = some (1)) (hfl : fd_fl y.2.2.1 idx ci j) (hfw : fd_fw ci j .long) (hdg : decode y.1 pc = .ok (.putfield idx, 3)) (K : Rn S α y (pc + 3) lv st I (fd_up L k j v) Q) : Rn S α y pc lv (.long v :: .ref (α k) :: st) I L Q := by
  intro p l e s m args below meth c A dC dI dA F H locs ls hP hS hl
  obtain ⟨r, hr, hjN, hw⟩ := hfl
  obtain ⟨c1, ⟨ty, hty⟩, c3⟩ := fd_okA ci r hr
  obtain ⟨hfin, hd⟩ := hfw r hr
  refine va_put F.1 F.2.1 F.2.2.2.2.2.2.1 c1 ty hty c3 F.2.2.2.1 F.2.2.2.2.2.2.2.1 hP (F.2.2.2.2.2.2.2.2.1 I L) hS k (fd_get S α dA I L hS0) hr j hjN (F.2.2.2.2.2.2.1 _ hw) (fun x hx => hx) hfin hd rfl rfl (by rw [List.length_mapIdx]; exact (List.getElem?_eq_some_iff.mp hj).1) hdg (fun H1 locs1 hP1 _ hS1 => ?_)
  rw [fd_wsJ hS0 hj] at hP1
  exact K p l e s m args below meth c A dC dI dA F H1 locs1 ls hP1 hS1 hl
theorem r_iald {k n : Nat} {i : Int32} (hS0 : S[k]? = some (.inr (.inl (0, n)))) (hdg : decode y.1 pc = .ok (.iaload, 1)) (hin : vp_in i n) (K : Rn S α y (pc + 1) lv (.int (I k i.toNatClampNeg) :: st) I L Q) : Rn S α y pc lv (.int i :: .ref (α k) :: st) I L Q := by
  intro p l e s m args below meth c A dC dI dA F H locs ls hP hS hl
  exact va_iald F.1 F.2.1 F.2.2.2.2.2.2.2.1 hP k 0 (fd_get S α dA I L hS0) rfl hin hdg (K p l e s m args below meth c A dC dI dA F H locs ls hP hS hl)
theorem r_zald {k n : Nat} {i : Int32} (hS0 : S[k]? = some (.inr (.inl (1, n)))) (hdg : decode y.1 pc = .ok (.baload, 1)) (hin : vp_in i n) (K : Rn S α y (pc + 1) lv (.int (I k i.toNatClampNeg) :: st) I L Q) : Rn S α y pc lv (.int i :: .ref (α k) :: st) I L Q := by
  intro p l e s m args below meth c A dC dI dA F H locs ls hP hS hl
  exact va_zald F.1 F.2.1 F.2.2.2.2.2.2.2.1 hP k 1 (fd_get S α dA I L hS0) rfl hin hdg (K p l e s m args below meth c A dC dI dA F H locs ls hP hS hl)
theorem r_bald {k n : Nat} {i : Int32} (hS0 : S[k]? = some (.inr (.inl (2, n)))) (hdg : decode y.1 pc = .ok (.baload, 1)) (hin : vp_in i n) (K : Rn S α y (pc + 1) lv (.int (I k i.toNatClampNeg) :: st) I L Q) : Rn S α y pc lv (.int i :: .ref (α k) :: st) I L Q := by
  intro p l e s m args below meth c A dC dI dA F H locs ls hP hS hl
  exact va_bald F.1 F.2.1 F.2.2.2.2.2.2.2.1 hP k 2 (fd_get S α dA I L hS0) rfl hin hdg (K p l e s m args below meth c A dC dI dA F H locs ls hP hS hl)
theorem r_iast {k n : Nat} {i x : Int32} (hS0 : S[k]? = some (.inr (.inl (0, n)))) (hdg : decode y.1 pc = .ok (.iastore, 1)) (hin : vp_in i n) (K : Rn S α y (pc + 1) lv st (fd_up I k i.toNatClampNeg x) L Q) : Rn S α y pc lv (.int x :: .int i :: .ref (α k) :: st) I L Q := by
  intro p l e s m args below meth c A dC dI dA F H locs ls hP hS hl
  refine va_iast F.1 F.2.1 F.2.2.2.2.2.2.2.1 hP (F.2.2.2.2.2.2.2.2.1 I L) hS k 0 (fd_get S α dA I L hS0) rfl hin hdg (fun H1 locs1 hP1 _ hS1 => ?_)
  skip
  rw [fd_wsA hS0] at hP1
  exact K p l e s m args below meth c A dC dI dA F H1 locs1 ls hP1 hS1 hl
theorem r_zast {k n : Nat} {i x : Int32} (hS0 : S[k]? = some (.inr (.inl (1, n)))) (hx : x = 0 ∨ x = 1) (hdg : decode y.1 pc = .ok (.bastore, 1)) (hin : vp_in i n) (K : Rn S α y (pc + 1) lv st (fd_up I k i.toNatClampNeg x) L Q) : Rn S α y pc lv (.int x :: .int i :: .ref (α k) :: st) I L Q := by
  intro p l e s m args below meth c A dC dI dA F H locs ls hP hS hl
  refine va_zast F.1 F.2.1 F.2.2.2.2.2.2.2.1 hP (F.2.2.2.2.2.2.2.2.1 I L) hS k 1 (fd_get S α dA I L hS0) rfl hin hdg (fun H1 locs1 hP1 _ hS1 => ?_)
  rw [show vp_nar .boolean x = x by rcases hx with h | h <;> subst h <;> rfl] at hP1
  rw [fd_wsA hS0] at hP1
  exact K p l e s m args below meth c A dC dI dA F H1 locs1 ls hP1 hS1 hl
theorem r_bast {k n : Nat} {i x : Int32} (hS0 : S[k]? = some (.inr (.inl (2, n)))) (hx : x.toInt8.toInt32 = x) (hdg : decode y.1 pc = .ok (.bastore, 1)) (hin : vp_in i n) (K : Rn S α y (pc + 1) lv st (fd_up I k i.toNatClampNeg x) L Q) : Rn S α y pc lv (.int x :: .int i :: .ref (α k) :: st) I L Q := by
  intro p l e s m args below meth c A dC dI dA F H locs ls hP hS hl
  refine va_bast F.1 F.2.1 F.2.2.2.2.2.2.2.1 hP (F.2.2.2.2.2.2.2.2.1 I L) hS k 2 (fd_get S α dA I L hS0) rfl hin hdg (fun H1 locs1 hP1 _ hS1 => ?_)
  rw [vp_nar_byte, hx] at hP1
  rw [fd_wsA hS0] at hP1
  exact K p l e s m args below meth c A dC dI dA F H1 locs1 ls hP1 hS1 hl
theorem r_aald {k t n : Nat} {C : String} {rs : List Nat} {i : Int32} (hS0 : S[k]? = some (.inr (.inr (t, rs)))) (ht : ∀ dA : Nat → ClassId, (fd_tys dA)[t]? = some (dA t, .object C)) (hdg : decode y.1 pc = .ok (.aaload, 1)) (hin : vp_in i rs.length) (hr : rs[i.toNatClampNeg]? = some n) (K : Rn S α y (pc + 1) lv (.ref (α n) :: st) I L Q) : Rn S α y pc lv (.int i :: .ref (α k) :: st) I L Q := by
  intro p l e s m args below meth c A dC dI dA F H locs ls hP hS hl
  refine va_aldq F.1 F.2.1 F.2.2.2.2.2.2.2.1 hP k t (fd_get S α dA I L hS0) (ht dA) hin hdg ?_
  rw [hr]
  exact (K p l e s m args below meth c A dC dI dA F H locs ls hP hS hl)
theorem r_aaldA {k n : Nat} {rs : List Nat} {i : Int32} (hS0 : S[k]? = some (.inr (.inr (5, rs)))) (hdg : decode y.1 pc = .ok (.aaload, 1)) (hin : vp_in i rs.length) (hr : rs[i.toNatClampNeg]? = some n) (K : Rn S α y (pc + 1) lv (.ref (α n) :: st) I L Q) : Rn S α y pc lv (.int i :: .ref (α k) :: st) I L Q := by
  intro p l e s m args below meth c A dC dI dA F H locs ls hP hS hl
  have hlt : i.toNatClampNeg < rs.length := Nat.not_le.mp fun q => hin (Or.inr q)
  have hg := fd_get S α dA I L hS0
  have ht : (fd_tys dA)[5]? = some (dA 5, .array .int) := rfl
  refine W.aald (v := va_rf ((rs[i.toNatClampNeg]?).map α)) (ty := .array .int) F.1 F.2.1 (hP k _ hg) ((F.2.2.2.2.2.2.2.1.2 5 _ ht).1 rs.length (fun j => va_rf ((rs[j]?).map α))) rfl (fun q => by cases q) (by show ¬ (i < 0 ∨ (arrV _ _ _).slots.size ≤ _); rw [arrV_size]; exact hin) (by show (arrV _ _ _).slots[_]? = _; rw [arrV_read _ _ hlt]) rfl rfl hdg ?_
  rw [hr]
  exact (K p l e s m args below meth c A dC dI dA F H locs ls hP hS hl)
theorem r_alen {k t n : Nat} {ty : FieldType} (hS0 : S[k]? = some (.inr (.inl (t, n)))) (ht : ∀ dA : Nat → ClassId, (fd_tys dA)[t]? = some (dA t, ty)) (hdg : decode y.1 pc = .ok (.arraylength, 1)) (K : Rn S α y (pc + 1) lv (.int (nI n) :: st) I L Q) : Rn S α y pc lv (.ref (α k) :: st) I L Q := by
  intro p l e s m args below meth c A dC dI dA F H locs ls hP hS hl
  exact va_alen F.1 F.2.1 F.2.2.2.2.2.2.2.1 hP k t (fd_get S α dA I L hS0) (ht dA) rfl hdg (K p l e s m args below meth c A dC dI dA F H locs ls hP hS hl)
theorem r_orders {own : String} {idx : Nat} (ho : y.2.2.1 = own) (hw : Cond.fieldLinkNest own idx RX10 "ORDERS_OF" "[I" RX10 ∈ fd_nest) (hdg : decode y.1 pc = .ok (.getstatic idx, 3)) (K : Rn S α y (pc + 3) lv (.ref (α 1000) :: st) I L Q) : Rn S α y pc lv (st) I L Q := by
  intro p l e s m args below meth c A dC dI dA F H locs ls hP hS hl
  subst ho
  exact va_getsN F.1 F.2.1 F.2.2.2.2.2.2.2.2.2.1.1 hS F.2.2.2.1 ((F.2.2.2.2.2.2.2.2.2.1.2.2.2.2.2.2 _ hw).use rfl) (fun x hx => hx) hdg (K p l e s m args below meth c A dC dI dA F H locs ls hP hS hl)
theorem r_oald {i : Int32} (hdg : decode y.1 pc = .ok (.iaload, 1)) (hin : vp_in i 8) (K : Rn S α y (pc + 1) lv (.int (fd_facts.getD i.toNatClampNeg 0) :: st) I L Q) : Rn S α y pc lv (.int i :: .ref (α 1000) :: st) I L Q := by
  intro p l e s m args below meth c A dC dI dA F H locs ls hP hS hl
  exact va_ti F.1 F.2.1 F.2.2.2.2.2.2.2.2.2.1.2.1 hS hin rfl hdg (K p l e s m args below meth c A dC dI dA F H locs ls hP hS hl)
theorem r_iret {v : Int32} (hr : y.2.2.2.1 = some .int) (hdg : decode y.1 pc = .ok (.ireturn, 1)) (hq : Q (some (.int v)) I L) : Rn S α y pc lv ([.int v]) I L Q := by
  intro p l e s m args below meth c A dC dI dA F H locs ls hP hS hl
  have hlocks : meth.locks = false := F.2.2.2.2.2.1
  exact W.iret F.1 F.2.1 (F.2.2.2.2.1.trans hr) (fun t ht hW => ⟨⟨_, I, L, rfl, hq, by rw [ht]; exact hP⟩, hS.F ht⟩) hS.2.2 hdg
theorem r_zret {v : Int32} (hr : y.2.2.2.1 = some .boolean) (hv : v = 0 ∨ v = 1) (hdg : decode y.1 pc = .ok (.ireturn, 1)) (hq : Q (some (.int v)) I L) : Rn S α y pc lv ([.int v]) I L Q := by
  intro p l e s m args below meth c A dC dI dA F H locs ls hP hS hl
  have hlocks : meth.locks = false := F.2.2.2.2.2.1
  exact W.zret F.1 F.2.1 (F.2.2.2.2.1.trans hr) (by rcases hv with h | h <;> subst h <;> rfl) (fun t ht hW => ⟨⟨_, I, L, rfl, hq, by rw [ht]; exact hP⟩, hS.F ht⟩) hS.2.2 hdg
theorem r_lret {v : Int64} (hr : y.2.2.2.1 = some .long) (hdg : decode y.1 pc = .ok (.lreturn, 1)) (hq : Q (some (.long v)) I L) : Rn S α y pc lv ([.long v]) I L Q := by
  intro p l e s m args below meth c A dC dI dA F H locs ls hP hS hl
  have hlocks : meth.locks = false := F.2.2.2.2.2.1
  exact W.lret F.1 F.2.1 (F.2.2.2.2.1.trans hr) (fun t ht hW => ⟨⟨_, I, L, rfl, hq, by rw [ht]; exact hP⟩, hS.F ht⟩) hS.2.2 hdg
theorem r_vret (hr : y.2.2.2.1 = none) (hdg : decode y.1 pc = .ok (.return_, 1)) (hq : Q (none) I L) : Rn S α y pc lv ([]) I L Q := by
  intro p l e s m args below meth c A dC dI dA F H locs ls hP hS hl
  have hlocks : meth.locks = false := F.2.2.2.2.2.1
  exact W.vret F.1 F.2.1 (F.2.2.2.2.1.trans hr) (fun t ht hW => ⟨⟨_, I, L, rfl, hq, by rw [ht]; exact hP⟩, hS.F ht⟩) hS.2.2 hdg
theorem r_aret {a : Nat} {C : String} (hr : y.2.2.2.1 = some (.object C)) (hdg : decode y.1 pc = .ok (.areturn, 1)) (hq : Q (some (.ref a)) I L) : Rn S α y pc lv ([.ref a]) I L Q := by
  intro p l e s m args below meth c A dC dI dA F H locs ls hP hS hl
  have hlocks : meth.locks = false := F.2.2.2.2.2.1
  exact W.aret F.1 F.2.1 (F.2.2.2.2.1.trans hr) (Or.inl ⟨C, rfl⟩) (Or.inr ⟨a, rfl⟩) (fun t ht hW => ⟨⟨_, I, L, rfl, hq, by rw [ht]; exact hP⟩, hS.F ht⟩) hS.2.2 hdg
theorem r_copy {k k2 t n n2 idx : Nat} {ty : FieldType} {sp dp len : Int32} (hS0 : S[k]? = some (.inr (.inl (t, n)))) (hS2 : S[k2]? = some (.inr (.inl (t, n2)))) (ht : ∀ dA : Nat → ClassId, (fd_tys dA)[t]? = some (dA t, ty)) (hprim : refKind ty = false)
    (hl1 : Cond.methodLink y.2.2.1 idx arraycopyName ∈ fd_tb) (hl2 : Cond.native arraycopyName ∈ fd_tb) (hl3 : Cond.static arraycopyName ∈ fd_tb) (hl4 : Cond.initialized "java/lang/System" ∈ fd_tb)
    (h1 : ¬ sp < 0) (h2 : ¬ dp < 0) (h3 : ¬ len < 0) (h4 : sp.toNatClampNeg + len.toNatClampNeg ≤ n) (h5 : dp.toNatClampNeg + len.toNatClampNeg ≤ n2) (hfit : ∀ i, i < len.toNatClampNeg → fits ty (.int (I k (sp.toNatClampNeg + i))) = true)
    (hfr : 1 ≤ y.2.2.2.2) (hst : (st.map fun v => v.category).sum + (nativeFrameWords "java/lang/System" "arraycopy" 5 + 11) ≤ 36 * y.2.2.2.2) (hdg : decode y.1 pc = .ok (.invokestatic idx, 3))
    (K : Rn S α y (pc + 3) lv st (fd_row I k2 (va_cpy (I k) (I k2) sp.toNatClampNeg dp.toNatClampNeg len.toNatClampNeg)) L Q) : Rn S α y pc lv (.int len :: .int dp :: .ref (α k2) :: .int sp :: .ref (α k) :: st) I L Q := by
  intro p l e s m args below meth c A dC dI dA F H locs ls hP hS hl
  refine va_copyi F.1 F.2.1 (F.2.2.1.trans hl.1.symm) F.2.2.2.1 (F.2.2.2.2.2.2.1 _ hl1) (F.2.2.2.2.2.2.1 _ hl2) (F.2.2.2.2.2.2.1 _ hl3) (F.2.2.2.2.2.2.1 _ hl4) F.2.2.2.2.2.2.2.1 hP (F.2.2.2.2.2.2.2.2.1 I L) hS k k2 t t (fd_get S α dA I L hS0) (fd_get S α dA I L hS2) (ht dA) (ht dA) hprim h1 h2 h3 h4 h5 hfit hfr hst hdg (fun H1 locs1 hP1 _ hS1 => ?_)
  rw [fd_wsR hS2] at hP1
  exact K p l e s m args below meth c A dC dI dA F H1 locs1 ls hP1 hS1 hl
end FDR2
section FDC
variable {S : List fdE} {α : Nat → Nat} {y mz : fdM} {z x : MethodName} {pc idx n : Nat} {lv lv' : List (Nat × Value)} {st av As : List Value} {I I' : fdI} {L L' : fdL} {Q Qz : Option Value → fdI → fdL → Prop}
abbrev fd_Pc (S : List fdE) (α : Nat → Nat) (dC : Nat → ClassId) (dI : Nat → Nat → Nat) (dA : Nat → ClassId) (av : List Value) (I : fdI) (L : fdL) (sz : Nat) : Array Value → State → Prop := va_Pc av (fun U => U.heap.size = sz ∧ va_P (dC, dI) vwCl (fd_ws S α dA I L) U.heap ∧ va_K (dC, dI) vwCl (fd_tys dA) U ∧ va_D (fun _ => True) (fd_ws S α dA I L) ∧ fd_PF α (va_A (fd_ws S α dA I L) sz) U U.heap)
theorem fd_blind {dC : Nat → ClassId} {dI : Nat → Nat → Nat} {dA : Nat → ClassId} {sz : Nat} : FrameBlind (fd_Pc S α dC dI dA av I L sz) := by
  intro a U g mk q
  obtain ⟨h1, h2, h3, h4, h5, h6⟩ := q
  exact ⟨h1, h2, h3, va_K.moved (u := U) (U := U.calling g mk a) (Vm.Alike.refl U.vm) h4, h5, h6.vm (U := U.calling g mk a) rfl⟩
theorem fd_pre {p : Program} {s : State} {m : MethodId} {args : Array Value} {meth : Method} {c : Code} {A : Nat → Prop} {dC : Nat → ClassId} {dI : Nat → Nat → Nat} {dA : Nat → ClassId} (F : fd_Fix S α y p s m args meth c A dC dI dA) {H : Heap} {locs : List Loc} (hP : va_P (dC, dI) vwCl (fd_ws S α dA I L) H) (hS : va_S A s.heap H locs) : ∀ U : State, U.heap = H → s.WarmedH U.vm → fd_Pc S α dC dI dA av I L H.size av.toArray U := by
  intro U hU hW
  refine ⟨rfl, by rw [hU], by rw [hU]; exact hP, va_K.moved hW.alike F.2.2.2.2.2.2.2.1, (F.2.2.2.2.2.2.2.2.1 I L).weaken (fun _ _ _ _ => trivial), ?_⟩
  rw [hU]
  refine F.2.2.2.2.2.2.2.2.2.1.at hW hS.2.1 (fun q hq => ?_)
  rcases hq with ⟨k, e, hk⟩ | hq
  · exact (F.2.2.2.2.2.2.2.2.1 I L).2 k _ hk
  · exact F.2.2.2.2.2.2.2.2.2.2 q (Nat.le_trans hS.1 hq)
theorem fd_cont {p : Program} {l : Launch} {e : Env} {R : Room} {s : State} {m : MethodId} {args : Array Value} {below : List Frame} {meth : Method} {c : Code} {A : Nat → Prop} {dC : Nat → ClassId} {dI : Nat → Nat → Nat} {dA : Nat → ClassId} {Qm : State → Prop} (F : fd_Fix S α y p s m args meth c A dC dI dA) {H : Heap} {locs : List Loc} {ls : Array Slot} {st0 : List Value} {a : Array Value} (hS : va_S A s.heap H locs)
    (hr : va_Run p l e R s m args below meth c H locs 0 0 0 0 (F0 m pc ls st0) st (fd_Q S α dC dI dA (va_A (fd_ws S α dA I L) H.size) Qz a) (va_A (fd_ws S α dA I L) H.size))
    (K : ∀ (rv : Option Value) (I' : fdI) (L' : fdL), Qz rv I' L' → ∀ (H1 : Heap) (locs1 : List Loc), va_P (dC, dI) vwCl (fd_ws S α dA I' L') H1 → va_S A s.heap H1 locs1 → W p l e R s m args below meth c H1 locs1 0 0 Qm (F0 m (pc + 3) ls (rv.toList ++ st))) : W p l e R s m args below meth c H locs 0 0 Qm (F0 m pc ls st0) := by
  have hA : ∀ q, va_A (fd_ws S α dA I L) H.size q → A q := by
    intro q hq
    rcases hq with ⟨k, e, hk⟩ | hq
    · exact (F.2.2.2.2.2.2.2.2.1 I L).2 k _ hk
    · exact F.2.2.2.2.2.2.2.2.2.2 q (Nat.le_trans hS.1 hq)
  intro T hT X
  obtain ⟨v, st₀, t, T', L1, h0, X', hL, e1, e2, ⟨⟨rv, I', L', hv, hq, hP1⟩, hz, hk⟩, hst⟩ := hr T hT X
  cases hv
  rw [h0] at hz hk
  obtain ⟨t2, a1, b1⟩ := K v I' L' hq T'.heap (locs ++ L1) (by rw [e1]; exact hP1)
    ⟨Nat.le_trans hS.1 (by rw [e1]; exact hz), fun q h1 h2 => by rw [e1, hk q (Nat.lt_of_lt_of_le h1 hS.1) (fun z => h2 (hA q z))]; exact hS.2.1 q h1 h2, fun q hq => by
      rcases List.mem_append.mp hq with h | h
      · exact hS.2.2 q h
      · exact hA _ (hL q h)⟩ T' rfl X'
  exact ⟨t2, hst t2 a1, b1⟩
/-- a link to a method of its own receiver's class -/
def fd_lkV (own : String) (idx : Nat) (z : MethodName) (mz : fdM) (n : Nat) : Prop := Cond.methodLink own idx z ∈ fd_tb ∧ Cond.instanceMethod z ∈ fd_tb ∧ Cond.selects z.cls z z ∈ fd_tb ∧ Cond.initialized z.cls ∈ fd_tb ∧ Cond.code z mz.1 mz.2.1 mz.2.2.2.1 ∈ fd_tb ∧ z.cls ≠ "java/lang/invoke/MethodHandle" ∧ z.cls ≠ "java/lang/invoke/VarHandle" ∧ (parseMethodDescriptor z.desc).map (fun d => d.parameters.length) = some n
def fd_lkS (own : String) (idx : Nat) (z : MethodName) (mz : fdM) (n : Nat) : Prop := Cond.methodLink own idx z ∈ fd_tb ∧ Cond.static z ∈ fd_tb ∧ Cond.initialized z.cls ∈ fd_tb ∧ Cond.code z mz.1 mz.2.1 mz.2.2.2.1 ∈ fd_tb ∧ z.cls ≠ "java/lang/invoke/MethodHandle" ∧ z.cls ≠ "java/lang/invoke/VarHandle" ∧ (parseMethodDescriptor z.desc).map (fun d => d.parameters.length) = some n
theorem fd_gi {ws : List Cond} (h : ∀ w ∈ ws, w ∈ fd_tb) : GoodIn fd_tb ws := fun w hw => ⟨h w hw, good_of_word (fd_good (h w hw))⟩
theorem fd_gc {w : Cond} (h : w ∈ fd_tb) : ∀ v ∈ w :: fd_tb, v ∈ fd_tb := fun v hv => (List.mem_cons.mp hv).elim (fun e => e ▸ h) id
theorem fd_room {dz dy maxL : Nat} (h : dz + 1 ≤ dy) (hm : maxL ≤ 17) : (fd_rm dz).frames + 1 ≤ (fd_rm dy).frames ∧ 8 + (maxL + 11) + (fd_rm dz).locals ≤ (fd_rm dy).locals := by
  refine ⟨h, ?_⟩
  show 8 + (maxL + 11) + 36 * dz ≤ 36 * dy
  omega
theorem r_callV {k ci : Nat} {ks : List Nat} (hc : Con S α z mz (.ref (α k) :: As) I L Qz) (hlk : fd_lkV y.2.2.1 idx z mz n) (hS0 : S[k]? = some (.inl (ci, ks))) (hcl : (vwCl[ci]?).map (fun r => r.1) = some z.cls) (hd : mz.2.2.2.2 + 1 ≤ y.2.2.2.2) (hm : mz.2.1 ≤ 17) (hn : As.length = n) (hcat : (st.map fun v => v.category).sum ≤ 8) (hdg : decode y.1 pc = .ok (.invokevirtual idx, 3))
    (K : ∀ (rv : Option Value) (I' : fdI) (L' : fdL), Qz rv I' L' → Rn S α y (pc + 3) lv (rv.toList ++ st) I' L' Q) : Rn S α y pc lv (As.reverse ++ .ref (α k) :: st) I L Q := by
  intro p l e s m args below meth c A dC dI dA F H locs ls hP hS hl
  obtain ⟨k1, k2, k3, k4, k5, k6, k7, k8⟩ := hlk
  have hg := fd_get S α dA I L hS0
  have hrc : ∃ q : vw_C, vwCl[ci]? = some q ∧ q.1 = z.cls := by
    cases hq : vwCl[ci]? with
    | none => rw [hq] at hcl; cases hcl
    | some q => rw [hq] at hcl; exact ⟨q, rfl, Option.some.inj hcl⟩
  obtain ⟨q, hq, hqc⟩ := hrc
  have hrv := va_recv F.2.2.2.2.2.2.2.1 hP hq hg
  rw [hqc] at hrv
  refine fd_cont F hS (va_runV (As := As) (C := z.cls) (own := y.2.2.1) (n := n) ⟨F.1, F.2.1, F.2.2.1, F.2.2.2.1, F.2.2.2.2.2.2.1⟩ (hc l dC dI dA H.size) (cwV n F.2.2.2.2.2.2.1 (fd_gi ?_) rfl rfl rfl ⟨rfl, k6, k7, k8⟩ (fd_room hd hm)) ⟨fd_blind, hrv, fd_pre F hP hS⟩ rfl hn hl.1 rfl (lv_room hcat) hdg ⟨Nat.zero_le _, Nat.zero_le _⟩) (fun rv I' L' hq H1 locs1 hP1 hS1 => K rv I' L' hq p l e s m args below meth c A dC dI dA F H1 locs1 ls hP1 hS1 hl)
  intro w hw
  simp only [wsV, List.cons_append, List.nil_append, List.mem_cons] at hw
  rcases hw with rfl | rfl | rfl | rfl | rfl | hw
  · exact k1
  · exact k2
  · exact k3
  · exact k4
  · exact k5
  · exact hw
theorem r_callS (hc : Con S α z mz As I L Qz) (hlk : fd_lkS y.2.2.1 idx z mz n) (hd : mz.2.2.2.2 + 1 ≤ y.2.2.2.2) (hm : mz.2.1 ≤ 17) (hn : As.length = n) (hcat : (st.map fun v => v.category).sum ≤ 8) (hdg : decode y.1 pc = .ok (.invokestatic idx, 3))
    (K : ∀ (rv : Option Value) (I' : fdI) (L' : fdL), Qz rv I' L' → Rn S α y (pc + 3) lv (rv.toList ++ st) I' L' Q) : Rn S α y pc lv (As.reverse ++ st) I L Q := by
  intro p l e s m args below meth c A dC dI dA F H locs ls hP hS hl
  obtain ⟨k1, k2, k4, k5, k6, k7, k8⟩ := hlk
  refine fd_cont F hS (va_runS (As := As) (own := y.2.2.1) (n := n) ⟨F.1, F.2.1, F.2.2.1, F.2.2.2.1, F.2.2.2.2.2.2.1⟩ (hc l dC dI dA H.size) (va_cwS n F.2.2.2.2.2.2.1 (fd_gi ?_) rfl rfl rfl ⟨k6, k7, k8⟩ (fd_room hd hm)) ⟨fd_blind, fd_pre F hP hS⟩ rfl hn hl.1 rfl (lv_room hcat) hdg ⟨Nat.zero_le _, Nat.zero_le _⟩) (fun rv I' L' hq H1 locs1 hP1 hS1 => K rv I' L' hq p l e s m args below meth c A dC dI dA F H1 locs1 ls hP1 hS1 hl)
  intro w hw
  simp only [va_wsS, List.cons_append, List.nil_append, List.mem_cons] at hw
  rcases hw with rfl | rfl | rfl | rfl | hw
  · exact k1
  · exact k2
  · exact k4
  · exact k5
  · exact hw
/-- a private static method of a nest mate -/
theorem r_callN {own : String} (ho : y.2.2.1 = own) (hc : Con S α z mz As I L Qz) (h1 : Cond.methodLinkNest own idx z RX10 ∈ fd_nest) (k2 : Cond.static z ∈ fd_tb) (k4 : Cond.initialized z.cls ∈ fd_tb) (k5 : Cond.code z mz.1 mz.2.1 mz.2.2.2.1 ∈ fd_tb) (k6 : z.cls ≠ "java/lang/invoke/MethodHandle" ∧ z.cls ≠ "java/lang/invoke/VarHandle" ∧ (parseMethodDescriptor z.desc).map (fun d => d.parameters.length) = some n) (hd : mz.2.2.2.2 + 1 ≤ y.2.2.2.2) (hm : mz.2.1 ≤ 17) (hn : As.length = n) (hcat : (st.map fun v => v.category).sum ≤ 8) (hdg : decode y.1 pc = .ok (.invokestatic idx, 3))
    (K : ∀ (rv : Option Value) (I' : fdI) (L' : fdL), Qz rv I' L' → Rn S α y (pc + 3) lv (rv.toList ++ st) I' L' Q) : Rn S α y pc lv (As.reverse ++ st) I L Q := by
  subst ho
  intro p l e s m args below meth c A dC dI dA F H locs ls hP hS hl
  refine fd_cont F hS (va_runSN (As := As) (own := y.2.2.1) (n := n) ⟨F.1, F.2.1, F.2.2.1, F.2.2.2.1, F.2.2.2.2.2.2.1⟩ (hc l dC dI dA H.size) ⟨va_cnB n F.2.2.2.2.2.2.1 (fd_gi (fd_gc k5)) rfl rfl rfl (F.2.2.2.2.2.2.2.2.2.1.2.2.2.2.2.2 _ h1) (F.2.2.2.2.2.2.1 _ k4) k6 (fd_room hd hm), F.2.2.2.2.2.2.1 _ k2, trivial⟩ ⟨fd_blind, fd_pre F hP hS⟩ rfl hn hl.1 rfl (lv_room hcat) hdg ⟨Nat.zero_le _, Nat.zero_le _⟩) (fun rv I' L' hq H1 locs1 hP1 hS1 => K rv I' L' hq p l e s m args below meth c A dC dI dA F H1 locs1 ls hP1 hS1 hl)
/-- a method that is found from the receiver's class C: the link names x, owner's; y's code is run -/
def fd_lkO (own : String) (idx : Nat) (C : String) (x z : MethodName) (mz : fdM) (n : Nat) : Prop := Cond.methodLink own idx x ∈ fd_tb ∧ Cond.sameMethod x.cls x.cls x.name x.desc ∈ fd_tb ∧ Cond.instanceMethod x ∈ fd_tb ∧ Cond.selects C x z ∈ fd_tb ∧ Cond.instanceMethod z ∈ fd_tb ∧ Cond.initialized z.cls ∈ fd_tb ∧ Cond.code z mz.1 mz.2.1 mz.2.2.2.1 ∈ fd_tb ∧ (∃ (b0 : ByteArray) (m0 : Nat) (r0 : Option FieldType), Cond.code x b0 m0 r0 ∈ fd_tb) ∧ x.cls ≠ "java/lang/invoke/MethodHandle" ∧ x.cls ≠ "java/lang/invoke/VarHandle" ∧ (parseMethodDescriptor x.desc).map (fun d => d.parameters.length) = some n
theorem r_callO {C : String} {k ci : Nat} {ks : List Nat} (hc : Con S α z mz (.ref (α k) :: As) I L Qz) (hlk : fd_lkO y.2.2.1 idx C x z mz n) (hS0 : S[k]? = some (.inl (ci, ks))) (hcl : (vwCl[ci]?).map (fun r => r.1) = some C) (hd : mz.2.2.2.2 + 1 ≤ y.2.2.2.2) (hm : mz.2.1 ≤ 17) (hn : As.length = n) (hcat : (st.map fun v => v.category).sum ≤ 8) (hdg : decode y.1 pc = .ok (.invokevirtual idx, 3))
    (K : ∀ (rv : Option Value) (I' : fdI) (L' : fdL), Qz rv I' L' → Rn S α y (pc + 3) lv (rv.toList ++ st) I' L' Q) : Rn S α y pc lv (As.reverse ++ .ref (α k) :: st) I L Q := by
  intro p l e s m args below meth c A dC dI dA F H locs ls hP hS hl
  obtain ⟨k1, k2, k3, k4, k5, k6, k7, ⟨b0, m0, r0, k8⟩, k9, k10, k11⟩ := hlk
  have hg := fd_get S α dA I L hS0
  have hrc : ∃ q : vw_C, vwCl[ci]? = some q ∧ q.1 = C := by
    cases hq : vwCl[ci]? with
    | none => rw [hq] at hcl; cases hcl
    | some q => rw [hq] at hcl; exact ⟨q, rfl, Option.some.inj hcl⟩
  obtain ⟨q, hq, hqc⟩ := hrc
  have hrv := va_recv F.2.2.2.2.2.2.2.1 hP hq hg
  rw [hqc] at hrv
  refine fd_cont F hS (va_runU (As := As) (C := C) (own := y.2.2.1) (n := n) ⟨F.1, F.2.1, F.2.2.1, F.2.2.2.1, F.2.2.2.2.2.2.1⟩ (hc l dC dI dA H.size) (va_cwO (owner := x.cls) (x := x) n F.2.2.2.2.2.2.1 (fd_gi ?_) rfl rfl rfl (b0 := b0) (m0 := m0) (r0 := r0) k8 ⟨k9, k10, k11⟩ (fd_room hd hm)) ⟨fd_blind, hrv, fd_pre F hP hS⟩ rfl hn hl.1 rfl (lv_room hcat) hdg ⟨Nat.zero_le _, Nat.zero_le _⟩) (fun rv I' L' hq H1 locs1 hP1 hS1 => K rv I' L' hq p l e s m args below meth c A dC dI dA F H1 locs1 ls hP1 hS1 hl)
  intro w hw
  simp only [va_wsO, List.cons_append, List.nil_append, List.mem_cons] at hw
  rcases hw with rfl | rfl | rfl | rfl | rfl | rfl | rfl | hw
  · exact k1
  · exact k2
  · exact k3
  · exact k4
  · exact k5
  · exact k6
  · exact k7
  · exact hw
end FDC
end
section
/-! shapes, methods, links -/
def fd_SX : List fdE := [.inl (10, [3, 10, 21, 54, 55, 56, 59, 70, 76, 77, 78, 1, 1]), .inr (.inr (3, [2, 3, 4, 5, 6, 7])), .inl (8, []), .inl (1, []), .inl (4, []), .inl (0, []), .inl (7, []), .inl (3, []), .inl (5, [0, 0, 0, 0, 0, 0, 0, 11, 12, 13, 14, 15, 16, 17, 18, 19, 20]), .inr (.inl (0, 7)), .inr (.inl (0, 7)), .inr (.inl (0, 7)), .inr (.inl (0, 7)), .inr (.inl (0, 7)), .inr (.inl (0, 6)), .inr (.inl (0, 6)), .inr (.inl (0, 6)), .inr (.inl (0, 6)), .inr (.inl (0, 3)), .inl (5, [0, 0, 0, 0, 0, 0, 0, 22, 23, 24, 25, 26, 27, 28, 29, 30, 31]), .inr (.inl (0, 7)), .inr (.inl (0, 7)), .inr (.inl (0, 7)), .inr (.inl (0, 7)), .inr (.inl (0, 7)), .inr (.inl (0, 6)), .inr (.inl (0, 6)), .inr (.inl (0, 6)), .inr (.inl (0, 6)), .inr (.inl (0, 3)), .inl (5, [0, 0, 0, 0, 0, 0, 0, 33, 34, 35, 36, 37, 38, 39, 40, 41, 42]), .inr (.inl (0, 7)), .inr (.inl (0, 7)), .inr (.inl (0, 7)), .inr (.inl (0, 7)), .inr (.inl (0, 7)), .inr (.inl (0, 6)), .inr (.inl (0, 6)), .inr (.inl (0, 6)), .inr (.inl (0, 6)), .inr (.inl (0, 3)), .inl (5, [0, 0, 0, 0, 0, 0, 0, 44, 45, 46, 47, 48, 49, 50, 51, 52, 53]), .inr (.inl (0, 7)), .inr (.inl (0, 7)), .inr (.inl (0, 7)), .inr (.inl (0, 7)), .inr (.inl (0, 7)), .inr (.inl (0, 6)), .inr (.inl (0, 6)), .inr (.inl (0, 6)), .inr (.inl (0, 6)), .inr (.inl (0, 3)), .inr (.inr (4, [30, 41])), .inr (.inl (1, 2)), .inl (9, [0, 0, 57, 58, 0, 0, 0, 0]), .inr (.inl (0, 30)), .inr (.inl (2, 150)), .inl (2, [0, 60, 61, 62, 63, 64, 65, 66, 67, 68, 69]), .inr (.inl (0, 7)), .inr (.inl (0, 7)), .inr (.inl (1, 7)), .inr (.inl (1, 7)), .inr (.inl (0, 7)), .inr (.inl (0, 7)), .inr (.inl (0, 7)), .inr (.inl (0, 7)), .inr (.inl (0, 7)), .inr (.inl (0, 7)), .inl (6, [0, 0, 0, 0, 71]), .inr (.inr (5, [70, 71, 72, 73])), .inr (.inl (0, 7)), .inr (.inl (0, 7)), .inr (.inl (0, 7)), .inr (.inl (0, 7)), .inr (.inl (0, 7)), .inr (.inl (0, 128)), .inr (.inl (0, 3))]
def fd_SM : List fdE := [.inl (11, [3, 0, 4, 5, 6, 7, 8, 0, 9, 10, 0, 11, 12, 0, 13, 14, 0, 0, 15, 16, 17, 18, 0, 19, 1, 1, 20, 21, 22, 0, 0, 0, 0, 0, 23, 24, 25, 26, 1]), .inr (.inl (0, 3)), .inr (.inl (0, 7)), .inr (.inl (0, 7)), .inr (.inl (0, 7)), .inr (.inl (0, 7)), .inr (.inl (0, 7)), .inr (.inl (0, 8)), .inr (.inl (0, 8)), .inr (.inl (0, 6)), .inr (.inl (0, 6)), .inr (.inl (0, 3)), .inr (.inl (0, 7)), .inr (.inl (0, 7)), .inr (.inl (0, 7)), .inr (.inl (0, 7)), .inr (.inl (0, 7)), .inr (.inl (0, 7)), .inr (.inl (0, 7)), .inr (.inl (0, 128)), .inr (.inl (0, 150)), .inr (.inl (0, 150)), .inr (.inl (0, 3)), .inr (.inl (0, 216)), .inr (.inl (0, 9))]
abbrev mX0_init : fdM := (cX0_init, 1, RX0, none, 2)
abbrev mX0_canWrite : fdM := (cX0_canWrite, 1, RX0, (some FieldType.boolean), 0)
abbrev mX1_init : fdM := (cX1_init, 1, RX1, none, 2)
abbrev mX1_canRead : fdM := (cX1_canRead, 1, RX1, (some FieldType.boolean), 0)
abbrev mX2_init : fdM := (cX2_init, 1, RX2, none, 1)
abbrev mX2_lookAt : fdM := (cX2_lookAt, 5, RX2, none, 1)
abbrev mX2_teachToo : fdM := (cX2_teachToo, 6, RX2, none, 1)
abbrev mX2_kindOf : fdM := (cX2_kindOf, 4, RX2, (some (FieldType.object "ShuffledDays$PlainDay")), 0)
abbrev mX2_goTo : fdM := (cX2_goTo, 7, RX2, none, 1)
abbrev mX2_goOn : fdM := (cX2_goOn, 5, RX2, none, 1)
abbrev mX2_swap : fdM := (cX2_swap, 4, RX2, none, 0)
abbrev mX2_placeDays : fdM := (cX2_placeDays, 2, RX2, none, 0)
abbrev mX2_liveThrough : fdM := (cX2_liveThrough, 4, RX2, none, 1)
abbrev mX2_readByDate : fdM := (cX2_readByDate, 4, RX2, none, 0)
abbrev mX2_lacking : fdM := (cX2_lacking, 2, RX2, (some FieldType.int), 0)
abbrev mX2_firstFailing : fdM := (cX2_firstFailing, 2, RX2, (some FieldType.int), 1)
abbrev mX2_wellAmong : fdM := (cX2_wellAmong, 4, RX2, (some FieldType.int), 1)
abbrev mX2_learntAmong : fdM := (cX2_learntAmong, 4, RX2, (some FieldType.int), 0)
abbrev mX2_daysAheadOf : fdM := (cX2_daysAheadOf, 4, RX2, (some FieldType.int), 0)
abbrev mX2_keepsTold : fdM := (cX2_keepsTold, 3, RX2, (some FieldType.boolean), 0)
abbrev mX2_fitsDiary : fdM := (cX2_fitsDiary, 3, RX2, (some FieldType.boolean), 0)
abbrev mX3_init : fdM := (cX3_init, 1, RX3, none, 3)
abbrev mX3_canWrite : fdM := (cX3_canWrite, 1, RX3, (some FieldType.boolean), 0)
abbrev mX3_neededOf : fdM := (cX3_neededOf, 2, RX3, (some FieldType.int), 0)
abbrev mX4_init : fdM := (cX4_init, 1, RX4, none, 2)
abbrev mX4_learntOf : fdM := (cX4_learntOf, 3, RX4, (some FieldType.int), 0)
abbrev mX5_init : fdM := (cX5_init, 1, RX5, none, 1)
abbrev mX5_startAnew : fdM := (cX5_startAnew, 3, RX5, none, 0)
abbrev mX5_copyFrom : fdM := (cX5_copyFrom, 2, RX5, none, 1)
abbrev mX5_hasDay : fdM := (cX5_hasDay, 2, RX5, (some FieldType.boolean), 0)
abbrev mX5_orders : fdM := (cX5_orders, 1, RX5, (some FieldType.int), 0)
abbrev mX5_hasRank : fdM := (cX5_hasRank, 2, RX5, (some FieldType.boolean), 1)
abbrev mX5_tellDays : fdM := (cX5_tellDays, 3, RX5, (some FieldType.int), 1)
abbrev mX5_tellKind : fdM := (cX5_tellKind, 4, RX5, (some FieldType.int), 1)
abbrev mX5_tellFact : fdM := (cX5_tellFact, 7, RX5, (some FieldType.int), 1)
abbrev mX5_tellNote : fdM := (cX5_tellNote, 3, RX5, (some FieldType.int), 1)
abbrev mX5_tellPair : fdM := (cX5_tellPair, 3, RX5, (some FieldType.int), 1)
abbrev mX5_tellPlace : fdM := (cX5_tellPlace, 4, RX5, (some FieldType.int), 1)
abbrev mX5_tellDiary : fdM := (cX5_tellDiary, 4, RX5, (some FieldType.int), 1)
abbrev mX5_tellOrder : fdM := (cX5_tellOrder, 3, RX5, (some FieldType.int), 2)
abbrev mX5_tellOther : fdM := (cX5_tellOther, 3, RX5, (some FieldType.int), 2)
abbrev mX5_tellForNotes : fdM := (cX5_tellForNotes, 2, RX5, (some FieldType.int), 2)
abbrev mX5_tearOut : fdM := (cX5_tearOut, 4, RX5, (some FieldType.int), 2)
abbrev mX5_tellItem : fdM := (cX5_tellItem, 4, RX5, (some FieldType.int), 2)
abbrev mX5_notedOn : fdM := (cX5_notedOn, 4, RX5, (some FieldType.int), 0)
abbrev mX5_taughtBy : fdM := (cX5_taughtBy, 4, RX5, (some FieldType.int), 0)
abbrev mX5_countOfRow : fdM := (cX5_countOfRow, 2, RX5, (some FieldType.int), 1)
abbrev mX5_toldInDiary : fdM := (cX5_toldInDiary, 3, RX5, (some FieldType.int), 0)
abbrev mX5_digestOfDays : fdM := (cX5_digestOfDays, 6, RX5, (some FieldType.long), 0)
abbrev mX5_digestOfRows : fdM := (cX5_digestOfRows, 6, RX5, (some FieldType.long), 0)
abbrev mX6_init : fdM := (cX6_init, 1, RX6, none, 1)
abbrev mX6_find : fdM := (cX6_find, 3, RX6, none, 5)
abbrev mX6_keepRows : fdM := (cX6_keepRows, 4, RX6, none, 2)
abbrev mX6_allWell : fdM := (cX6_allWell, 3, RX6, (some FieldType.boolean), 2)
abbrev mX6_findOne : fdM := (cX6_findOne, 3, RX6, (some FieldType.boolean), 4)
abbrev mX6_findTwo : fdM := (cX6_findTwo, 4, RX6, (some FieldType.boolean), 4)
abbrev mX6_wellWith : fdM := (cX6_wellWith, 9, RX6, (some FieldType.boolean), 3)
abbrev mX6_named : fdM := (cX6_named, 1, RX6, (some FieldType.int), 0)
abbrev mX7_init : fdM := (cX7_init, 1, RX7, none, 1)
abbrev mX7_canRead : fdM := (cX7_canRead, 1, RX7, (some FieldType.boolean), 0)
abbrev mX7_canWrite : fdM := (cX7_canWrite, 1, RX7, (some FieldType.boolean), 0)
abbrev mX7_learntOf : fdM := (cX7_learntOf, 3, RX7, (some FieldType.int), 0)
abbrev mX7_neededOf : fdM := (cX7_neededOf, 2, RX7, (some FieldType.int), 0)
abbrev mX8_init : fdM := (cX8_init, 1, RX8, none, 3)
abbrev mX8_learntOf : fdM := (cX8_learntOf, 3, RX8, (some FieldType.int), 0)
abbrev mX9_init : fdM := (cX9_init, 1, RX9, none, 1)
abbrev mX9_take : fdM := (cX9_take, 2, RX9, (some FieldType.int), 0)
abbrev mX9_findFault : fdM := (cX9_findFault, 2, RX9, (some FieldType.int), 9)
abbrev mX9_takeItem : fdM := (cX9_takeItem, 5, RX9, (some FieldType.boolean), 8)
abbrev mX9_nextToken : fdM := (cX9_nextToken, 1, RX9, none, 7)
abbrev mX9_passLetters : fdM := (cX9_passLetters, 2, RX9, none, 6)
abbrev mX9_passFigures : fdM := (cX9_passFigures, 1, RX9, none, 1)
abbrev mX9_isLetter : fdM := (cX9_isLetter, 2, RX9, (some FieldType.boolean), 0)
abbrev mX9_isFigure : fdM := (cX9_isFigure, 2, RX9, (some FieldType.boolean), 0)
abbrev mX9_spells : fdM := (cX9_spells, 3, RX9, (some FieldType.boolean), 5)
abbrev mX9_word : fdM := (cX9_word, 1, RX9, (some (FieldType.object "java/lang/String")), 0)
abbrev mX10_init : fdM := (cX10_init, 2, RX10, none, 4)
abbrev mX10_life : fdM := (cX10_life, 2, RX10, (some FieldType.int), 2)
abbrev mX10_day : fdM := (cX10_day, 3, RX10, (some FieldType.int), 2)
abbrev mX10_fact : fdM := (cX10_fact, 5, RX10, (some FieldType.int), 2)
abbrev mX10_note : fdM := (cX10_note, 3, RX10, (some FieldType.int), 2)
abbrev mX10_ahead : fdM := (cX10_ahead, 3, RX10, (some FieldType.int), 2)
abbrev mX10_at : fdM := (cX10_at, 4, RX10, (some FieldType.int), 2)
abbrev mX10_tear : fdM := (cX10_tear, 2, RX10, (some FieldType.int), 3)
abbrev mX10_order : fdM := (cX10_order, 2, RX10, (some FieldType.int), 3)
abbrev mX10_type : fdM := (cX10_type, 2, RX10, (some FieldType.int), 1)
abbrev mX10_clear : fdM := (cX10_clear, 2, RX10, (some FieldType.int), 0)
abbrev mX10_read : fdM := (cX10_read, 3, RX10, (some FieldType.int), 10)
abbrev mX10_lived : fdM := (cX10_lived, 2, RX10, (some FieldType.int), 3)
abbrev mX10_knows : fdM := (cX10_knows, 2, RX10, (some FieldType.int), 3)
abbrev mX10_reads : fdM := (cX10_reads, 2, RX10, (some FieldType.int), 3)
abbrev mX10_missing : fdM := (cX10_missing, 2, RX10, (some FieldType.int), 3)
abbrev mX10_first : fdM := (cX10_first, 2, RX10, (some FieldType.int), 3)
abbrev mX10_cards : fdM := (cX10_cards, 4, RX10, (some FieldType.int), 3)
abbrev mX10_hang : fdM := (cX10_hang, 4, RX10, (some FieldType.int), 4)
abbrev mX10_must : fdM := (cX10_must, 5, RX10, (some FieldType.int), 4)
abbrev mX10_told : fdM := (cX10_told, 2, RX10, (some FieldType.int), 3)
abbrev mX10_notes : fdM := (cX10_notes, 2, RX10, (some FieldType.int), 6)
abbrev mX10_mean : fdM := (cX10_mean, 6, RX10, (some FieldType.int), 3)
abbrev mX10_best : fdM := (cX10_best, 4, RX10, (some FieldType.int), 3)
abbrev mX10_when : fdM := (cX10_when, 5, RX10, (some FieldType.int), 3)
abbrev mX10_diary : fdM := (cX10_diary, 4, RX10, (some FieldType.int), 2)
abbrev mX10_torn : fdM := (cX10_torn, 5, RX10, (some FieldType.int), 3)
abbrev mX10_promise : fdM := (cX10_promise, 6, RX10, (some FieldType.int), 3)
abbrev mX10_other : fdM := (cX10_other, 2, RX10, (some FieldType.int), 3)
abbrev mX10_two : fdM := (cX10_two, 2, RX10, (some FieldType.int), 4)
abbrev mX10_settle : fdM := (cX10_settle, 6, RX10, (some FieldType.int), 4)
abbrev mX10_game : fdM := (cX10_game, 5, RX10, (some FieldType.int), 3)
abbrev mX10_live : fdM := (cX10_live, 2, RX10, (some FieldType.int), 3)
abbrev mX10_undo : fdM := (cX10_undo, 1, RX10, (some FieldType.int), 1)
abbrev mX10_sofar : fdM := (cX10_sofar, 2, RX10, (some FieldType.int), 3)
abbrev mX10_part : fdM := (cX10_part, 2, RX10, (some FieldType.long), 1)
abbrev mX10_image : fdM := (cX10_image, 2, RX10, (some FieldType.int), 2)
abbrev mX10_from : fdM := (cX10_from, 2, RX10, (some FieldType.int), 2)
abbrev mX10_status : fdM := (cX10_status, 2, RX10, (some FieldType.int), 1)
abbrev mX10_count : fdM := (cX10_count, 2, RX10, (some FieldType.int), 3)
abbrev mX10_digest : fdM := (cX10_digest, 4, RX10, (some FieldType.long), 3)
abbrev mX10_counted : fdM := (cX10_counted, 2, RX10, (some FieldType.int), 0)
abbrev mX10_badAs : fdM := (cX10_badAs, 2, RX10, (some FieldType.int), 0)
abbrev mX10_countOf : fdM := (cX10_countOf, 2, RX10, (some FieldType.int), 2)
abbrev mX10_isFact : fdM := (cX10_isFact, 1, RX10, (some FieldType.boolean), 0)
abbrev mX10_follow : fdM := (cX10_follow, 2, RX10, none, 2)
abbrev mX10_livesAsTold : fdM := (cX10_livesAsTold, 1, RX10, (some FieldType.boolean), 2)
abbrev mX10_hangsTogether : fdM := (cX10_hangsTogether, 1, RX10, (some FieldType.boolean), 3)
abbrev mX10_shareKnown : fdM := (cX10_shareKnown, 2, RX10, none, 3)
abbrev mX10_leadByNaming : fdM := (cX10_leadByNaming, 4, RX10, (some FieldType.int), 1)
abbrev mX10_bestNaming : fdM := (cX10_bestNaming, 6, RX10, (some FieldType.int), 2)
abbrev mX10_setFraction : fdM := (cX10_setFraction, 7, RX10, none, 1)
abbrev mX10_commonDivisor : fdM := (cX10_commonDivisor, 11, RX10, (some FieldType.long), 0)
abbrev mX11_in : fdM := (cX11_in, 6, RX11, (some FieldType.boolean), 0)
abbrev mX11_init : fdM := (cX11_init, 1, RX11, none, 1)
abbrev mX11_bad : fdM := (cX11_bad, 2, RX11, (some FieldType.int), 0)
abbrev mX11_no : fdM := (cX11_no, 1, RX11, (some FieldType.int), 0)
abbrev mX11_full : fdM := (cX11_full, 1, RX11, (some FieldType.int), 0)
abbrev mX11_isDay : fdM := (cX11_isDay, 2, RX11, (some FieldType.boolean), 1)
abbrev mX11_isFact : fdM := (cX11_isFact, 1, RX11, (some FieldType.boolean), 1)
abbrev mX11_begins : fdM := (cX11_begins, 3, RX11, none, 0)
abbrev mX11_life : fdM := (cX11_life, 3, RX11, (some FieldType.int), 1)
abbrev mX11_day : fdM := (cX11_day, 4, RX11, (some FieldType.int), 2)
abbrev mX11_fact : fdM := (cX11_fact, 6, RX11, (some FieldType.int), 2)
abbrev mX11_isNote : fdM := (cX11_isNote, 5, RX11, (some FieldType.boolean), 0)
abbrev mX11_note : fdM := (cX11_note, 3, RX11, (some FieldType.int), 2)
abbrev mX11_ahead : fdM := (cX11_ahead, 3, RX11, (some FieldType.int), 2)
abbrev mX11_at : fdM := (cX11_at, 4, RX11, (some FieldType.int), 2)
abbrev mX11_diaries : fdM := (cX11_diaries, 3, RX11, (some FieldType.int), 0)
abbrev mX11_tear : fdM := (cX11_tear, 4, RX11, (some FieldType.int), 1)
abbrev mX11_orders : fdM := (cX11_orders, 3, RX11, (some FieldType.int), 0)
abbrev mX11_starts : fdM := (cX11_starts, 2, RX11, none, 0)
abbrev mX11_turns : fdM := (cX11_turns, 6, RX11, none, 0)
abbrev mX11_rankOf : fdM := (cX11_rankOf, 6, RX11, (some FieldType.int), 0)
abbrev mX11_rowOf : fdM := (cX11_rowOf, 9, RX11, none, 1)
abbrev mX11_isRank : fdM := (cX11_isRank, 2, RX11, (some FieldType.boolean), 1)
abbrev mX11_order : fdM := (cX11_order, 3, RX11, (some FieldType.int), 2)
abbrev mX11_learns : fdM := (cX11_learns, 3, RX11, (some FieldType.int), 0)
abbrev mX11_asks : fdM := (cX11_asks, 2, RX11, (some FieldType.int), 0)
abbrev mX11_lives : fdM := (cX11_lives, 8, RX11, none, 1)
abbrev mX11_lived : fdM := (cX11_lived, 2, RX11, (some FieldType.int), 2)
abbrev mX11_knows : fdM := (cX11_knows, 2, RX11, (some FieldType.int), 2)
abbrev mX11_reads : fdM := (cX11_reads, 2, RX11, (some FieldType.int), 2)
abbrev mX11_missing : fdM := (cX11_missing, 2, RX11, (some FieldType.int), 2)
abbrev mX11_first : fdM := (cX11_first, 4, RX11, (some FieldType.int), 2)
abbrev mX11_cards : fdM := (cX11_cards, 4, RX11, (some FieldType.int), 2)
abbrev mX11_isTold : fdM := (cX11_isTold, 3, RX11, (some FieldType.boolean), 0)
abbrev mX11_doesHang : fdM := (cX11_doesHang, 1, RX11, (some FieldType.boolean), 1)
abbrev mX11_hang : fdM := (cX11_hang, 4, RX11, (some FieldType.int), 2)
abbrev mX11_must : fdM := (cX11_must, 6, RX11, (some FieldType.int), 2)
abbrev mX11_told : fdM := (cX11_told, 2, RX11, (some FieldType.int), 2)
abbrev mX11_areWell : fdM := (cX11_areWell, 3, RX11, (some FieldType.boolean), 2)
abbrev mX11_adds : fdM := (cX11_adds, 4, RX11, (some FieldType.boolean), 2)
abbrev mX11_fewest : fdM := (cX11_fewest, 4, RX11, (some FieldType.int), 3)
abbrev mX11_notes : fdM := (cX11_notes, 5, RX11, (some FieldType.int), 4)
abbrev mX11_tells : fdM := (cX11_tells, 11, RX11, none, 0)
abbrev mX11_mean : fdM := (cX11_mean, 6, RX11, (some FieldType.int), 2)
abbrev mX11_best : fdM := (cX11_best, 4, RX11, (some FieldType.int), 2)
abbrev mX11_when : fdM := (cX11_when, 5, RX11, (some FieldType.int), 2)
abbrev mX11_diary : fdM := (cX11_diary, 4, RX11, (some FieldType.int), 2)
abbrev mX11_torn : fdM := (cX11_torn, 7, RX11, (some FieldType.int), 2)
abbrev mX11_promise : fdM := (cX11_promise, 8, RX11, (some FieldType.int), 2)
abbrev mX11_other : fdM := (cX11_other, 3, RX11, (some FieldType.int), 2)
abbrev mX11_both : fdM := (cX11_both, 2, RX11, none, 2)
abbrev mX11_two : fdM := (cX11_two, 2, RX11, (some FieldType.int), 3)
abbrev mX11_settle : fdM := (cX11_settle, 7, RX11, (some FieldType.int), 3)
abbrev mX11_size : fdM := (cX11_size, 3, RX11, (some FieldType.int), 0)
abbrev mX11_named : fdM := (cX11_named, 5, RX11, (some FieldType.int), 1)
abbrev mX11_game : fdM := (cX11_game, 7, RX11, (some FieldType.int), 2)
abbrev mX11_live : fdM := (cX11_live, 2, RX11, (some FieldType.int), 2)
abbrev mX11_undo : fdM := (cX11_undo, 1, RX11, (some FieldType.int), 1)
abbrev mX11_sofar : fdM := (cX11_sofar, 6, RX11, (some FieldType.int), 2)
abbrev mX11_type : fdM := (cX11_type, 2, RX11, (some FieldType.int), 1)
abbrev mX11_clear : fdM := (cX11_clear, 2, RX11, (some FieldType.int), 0)
abbrev mX11_skips : fdM := (cX11_skips, 1, RX11, none, 0)
abbrev mX11_word : fdM := (cX11_word, 3, RX11, (some FieldType.int), 1)
abbrev mX11_isFigure : fdM := (cX11_isFigure, 2, RX11, (some FieldType.boolean), 1)
abbrev mX11_figure : fdM := (cX11_figure, 1, RX11, (some FieldType.int), 2)
abbrev mX11_readItem : fdM := (cX11_readItem, 2, RX11, none, 3)
abbrev mX11_does : fdM := (cX11_does, 4, RX11, (some FieldType.boolean), 3)
abbrev mX11_read : fdM := (cX11_read, 4, RX11, (some FieldType.int), 4)
abbrev mX11_lay : fdM := (cX11_lay, 5, RX11, (some FieldType.int), 0)
abbrev mX11_gives : fdM := (cX11_gives, 5, RX11, (some FieldType.int), 0)
abbrev mX11_keeps : fdM := (cX11_keeps, 3, RX11, none, 1)
abbrev mX11_toldAside : fdM := (cX11_toldAside, 4, RX11, none, 0)
abbrev mX11_goesOn : fdM := (cX11_goesOn, 3, RX11, none, 1)
abbrev mX11_image : fdM := (cX11_image, 2, RX11, (some FieldType.int), 2)
abbrev mX11_from : fdM := (cX11_from, 2, RX11, (some FieldType.int), 2)
abbrev mX11_part : fdM := (cX11_part, 2, RX11, (some FieldType.long), 1)
abbrev mX11_status : fdM := (cX11_status, 2, RX11, (some FieldType.int), 1)
abbrev mX11_counts : fdM := (cX11_counts, 2, RX11, (some FieldType.int), 1)
abbrev mX11_count : fdM := (cX11_count, 2, RX11, (some FieldType.int), 2)
abbrev mX11_hashes : fdM := (cX11_hashes, 3, RX11, none, 0)
abbrev mX11_digest : fdM := (cX11_digest, 2, RX11, (some FieldType.long), 2)
abbrev mJ6_bitCount_0f7a4 : fdM := (cJ6_bitCount_0f7a4, 1, RJ6, (some FieldType.int), 0)
abbrev mJ0_length_8abf5 : fdM := (cJ0_length_8abf5, 1, RJ0, (some FieldType.int), 1)
abbrev mJ0_charAt_5068e : fdM := (cJ0_charAt_5068e, 2, RJ0, (some FieldType.char), 4)
abbrev mJ0_coder_7d493 : fdM := (cJ0_coder_7d493, 1, RJ0, (some FieldType.byte), 0)
abbrev mJ0_isLatin1_aae02 : fdM := (cJ0_isLatin1_aae02, 1, RJ0, (some FieldType.boolean), 0)
abbrev mJ0_checkIndex_df160 : fdM := (cJ0_checkIndex_df160, 2, RJ0, none, 1)
abbrev mJ1_charAt_3b067 : fdM := (cJ1_charAt_3b067, 2, RJ1, (some FieldType.char), 2)
abbrev mJ2_getChar_3b067 : fdM := (cJ2_getChar_3b067, 2, RJ2, (some FieldType.char), 1)
abbrev mJ2_length_9d52b : fdM := (cJ2_length_9d52b, 1, RJ2, (some FieldType.int), 0)
abbrev mJ2_charAt_3b067 : fdM := (cJ2_charAt_3b067, 2, RJ2, (some FieldType.char), 3)
abbrev mJ2_checkIndex_2214a : fdM := (cJ2_checkIndex_2214a, 2, RJ2, none, 2)
abbrev mJ3_checkIndex_8e157 : fdM := (cJ3_checkIndex_8e157, 3, RJ3, (some FieldType.int), 0)
theorem fl_2_9 : fd_fl RX2 9 2 1 := ⟨(RX2, TX2, 11), rfl, by decide, fd_in 214 (by decide +kernel) (by decide +kernel)⟩
theorem fl_2_15 : fd_fl RX2 15 2 2 := ⟨(RX2, TX2, 11), rfl, by decide, fd_in 216 (by decide +kernel) (by decide +kernel)⟩
theorem fl_2_18 : fd_fl RX2 18 2 3 := ⟨(RX2, TX2, 11), rfl, by decide, fd_in 218 (by decide +kernel) (by decide +kernel)⟩
theorem fl_2_22 : fd_fl RX2 22 2 4 := ⟨(RX2, TX2, 11), rfl, by decide, fd_in 219 (by decide +kernel) (by decide +kernel)⟩
theorem fl_2_25 : fd_fl RX2 25 2 5 := ⟨(RX2, TX2, 11), rfl, by decide, fd_in 220 (by decide +kernel) (by decide +kernel)⟩
theorem fl_2_28 : fd_fl RX2 28 2 6 := ⟨(RX2, TX2, 11), rfl, by decide, fd_in 221 (by decide +kernel) (by decide +kernel)⟩
theorem fl_2_31 : fd_fl RX2 31 2 7 := ⟨(RX2, TX2, 11), rfl, by decide, fd_in 222 (by decide +kernel) (by decide +kernel)⟩
theorem fl_2_34 : fd_fl RX2 34 2 8 := ⟨(RX2, TX2, 11), rfl, by decide, fd_in 224 (by decide +kernel) (by decide +kernel)⟩
theorem fl_2_37 : fd_fl RX2 37 2 9 := ⟨(RX2, TX2, 11), rfl, by decide, fd_in 226 (by decide +kernel) (by decide +kernel)⟩
theorem fl_2_40 : fd_fl RX2 40 2 10 := ⟨(RX2, TX2, 11), rfl, by decide, fd_in 228 (by decide +kernel) (by decide +kernel)⟩
theorem fl_2_43 : fd_fl RX2 43 5 0 := ⟨(RX5, TX5, 17), rfl, by decide, fd_in 100 (by decide +kernel) (by decide +kernel)⟩
theorem fl_2_49 : fd_fl RX2 49 2 0 := ⟨(RX2, TX2, 11), rfl, by decide, fd_in 212 (by decide +kernel) (by decide +kernel)⟩
theorem fl_2_63 : fd_fl RX2 63 5 8 := ⟨(RX5, TX5, 17), rfl, by decide, fd_in 117 (by decide +kernel) (by decide +kernel)⟩
theorem fl_2_66 : fd_fl RX2 66 5 9 := ⟨(RX5, TX5, 17), rfl, by decide, fd_in 119 (by decide +kernel) (by decide +kernel)⟩
theorem fl_2_80 : fd_fl RX2 80 5 7 := ⟨(RX5, TX5, 17), rfl, by decide, fd_in 115 (by decide +kernel) (by decide +kernel)⟩
theorem fl_2_100 : fd_fl RX2 100 5 2 := ⟨(RX5, TX5, 17), rfl, by decide, fd_in 105 (by decide +kernel) (by decide +kernel)⟩
theorem fl_2_103 : fd_fl RX2 103 5 14 := ⟨(RX5, TX5, 17), rfl, by decide, fd_in 128 (by decide +kernel) (by decide +kernel)⟩
theorem fl_2_106 : fd_fl RX2 106 5 15 := ⟨(RX5, TX5, 17), rfl, by decide, fd_in 130 (by decide +kernel) (by decide +kernel)⟩
theorem fl_2_109 : fd_fl RX2 109 5 10 := ⟨(RX5, TX5, 17), rfl, by decide, fd_in 122 (by decide +kernel) (by decide +kernel)⟩
theorem fl_5_9 : fd_fl RX5 9 5 7 := ⟨(RX5, TX5, 17), rfl, by decide, fd_in 114 (by decide +kernel) (by decide +kernel)⟩
theorem fl_5_15 : fd_fl RX5 15 5 8 := ⟨(RX5, TX5, 17), rfl, by decide, fd_in 116 (by decide +kernel) (by decide +kernel)⟩
theorem fl_5_18 : fd_fl RX5 18 5 9 := ⟨(RX5, TX5, 17), rfl, by decide, fd_in 118 (by decide +kernel) (by decide +kernel)⟩
theorem fl_5_21 : fd_fl RX5 21 5 10 := ⟨(RX5, TX5, 17), rfl, by decide, fd_in 121 (by decide +kernel) (by decide +kernel)⟩
theorem fl_5_24 : fd_fl RX5 24 5 11 := ⟨(RX5, TX5, 17), rfl, by decide, fd_in 123 (by decide +kernel) (by decide +kernel)⟩
theorem fl_5_27 : fd_fl RX5 27 5 12 := ⟨(RX5, TX5, 17), rfl, by decide, fd_in 125 (by decide +kernel) (by decide +kernel)⟩
theorem fl_5_30 : fd_fl RX5 30 5 13 := ⟨(RX5, TX5, 17), rfl, by decide, fd_in 126 (by decide +kernel) (by decide +kernel)⟩
theorem fl_5_33 : fd_fl RX5 33 5 14 := ⟨(RX5, TX5, 17), rfl, by decide, fd_in 127 (by decide +kernel) (by decide +kernel)⟩
theorem fl_5_36 : fd_fl RX5 36 5 15 := ⟨(RX5, TX5, 17), rfl, by decide, fd_in 129 (by decide +kernel) (by decide +kernel)⟩
theorem fl_5_39 : fd_fl RX5 39 5 16 := ⟨(RX5, TX5, 17), rfl, by decide, fd_in 131 (by decide +kernel) (by decide +kernel)⟩
theorem fl_5_46 : fd_fl RX5 46 5 0 := ⟨(RX5, TX5, 17), rfl, by decide, fd_in 99 (by decide +kernel) (by decide +kernel)⟩
theorem fl_5_50 : fd_fl RX5 50 5 1 := ⟨(RX5, TX5, 17), rfl, by decide, fd_in 102 (by decide +kernel) (by decide +kernel)⟩
theorem fl_5_53 : fd_fl RX5 53 5 2 := ⟨(RX5, TX5, 17), rfl, by decide, fd_in 104 (by decide +kernel) (by decide +kernel)⟩
theorem fl_5_56 : fd_fl RX5 56 5 3 := ⟨(RX5, TX5, 17), rfl, by decide, fd_in 106 (by decide +kernel) (by decide +kernel)⟩
theorem fl_5_59 : fd_fl RX5 59 5 4 := ⟨(RX5, TX5, 17), rfl, by decide, fd_in 108 (by decide +kernel) (by decide +kernel)⟩
theorem fl_5_62 : fd_fl RX5 62 5 5 := ⟨(RX5, TX5, 17), rfl, by decide, fd_in 110 (by decide +kernel) (by decide +kernel)⟩
theorem fl_5_65 : fd_fl RX5 65 5 6 := ⟨(RX5, TX5, 17), rfl, by decide, fd_in 112 (by decide +kernel) (by decide +kernel)⟩
theorem fl_6_11 : fd_fl RX6 11 6 4 := ⟨(RX6, TX6, 5), rfl, by decide, fd_in 268 (by decide +kernel) (by decide +kernel)⟩
theorem fl_6_20 : fd_fl RX6 20 6 0 := ⟨(RX6, TX6, 5), rfl, by decide, fd_in 261 (by decide +kernel) (by decide +kernel)⟩
theorem fl_6_24 : fd_fl RX6 24 6 1 := ⟨(RX6, TX6, 5), rfl, by decide, fd_in 263 (by decide +kernel) (by decide +kernel)⟩
theorem fl_6_27 : fd_fl RX6 27 6 2 := ⟨(RX6, TX6, 5), rfl, by decide, fd_in 265 (by decide +kernel) (by decide +kernel)⟩
theorem fl_6_34 : fd_fl RX6 34 5 1 := ⟨(RX5, TX5, 17), rfl, by decide, fd_in 103 (by decide +kernel) (by decide +kernel)⟩
theorem fl_6_45 : fd_fl RX6 45 2 8 := ⟨(RX2, TX2, 11), rfl, by decide, fd_in 225 (by decide +kernel) (by decide +kernel)⟩
theorem fl_6_57 : fd_fl RX6 57 5 3 := ⟨(RX5, TX5, 17), rfl, by decide, fd_in 107 (by decide +kernel) (by decide +kernel)⟩
theorem fl_6_60 : fd_fl RX6 60 5 16 := ⟨(RX5, TX5, 17), rfl, by decide, fd_in 132 (by decide +kernel) (by decide +kernel)⟩
theorem fl_6_70 : fd_fl RX6 70 6 3 := ⟨(RX6, TX6, 5), rfl, by decide, fd_in 267 (by decide +kernel) (by decide +kernel)⟩
theorem fl_6_77 : fd_fl RX6 77 2 0 := ⟨(RX2, TX2, 11), rfl, by decide, fd_in 213 (by decide +kernel) (by decide +kernel)⟩
theorem fl_6_91 : fd_fl RX6 91 2 7 := ⟨(RX2, TX2, 11), rfl, by decide, fd_in 223 (by decide +kernel) (by decide +kernel)⟩
theorem fl_9_9 : fd_fl RX9 9 9 0 := ⟨(RX9, TX9, 8), rfl, by decide, fd_in 176 (by decide +kernel) (by decide +kernel)⟩
theorem fl_9_15 : fd_fl RX9 15 9 1 := ⟨(RX9, TX9, 8), rfl, by decide, fd_in 178 (by decide +kernel) (by decide +kernel)⟩
theorem fl_9_18 : fd_fl RX9 18 9 2 := ⟨(RX9, TX9, 8), rfl, by decide, fd_in 180 (by decide +kernel) (by decide +kernel)⟩
theorem fl_9_22 : fd_fl RX9 22 9 3 := ⟨(RX9, TX9, 8), rfl, by decide, fd_in 182 (by decide +kernel) (by decide +kernel)⟩
theorem fl_9_26 : fd_fl RX9 26 9 4 := ⟨(RX9, TX9, 8), rfl, by decide, fd_in 183 (by decide +kernel) (by decide +kernel)⟩
theorem fl_9_32 : fd_fl RX9 32 9 6 := ⟨(RX9, TX9, 8), rfl, by decide, fd_in 185 (by decide +kernel) (by decide +kernel)⟩
theorem fl_9_39 : fd_fl RX9 39 9 5 := ⟨(RX9, TX9, 8), rfl, by decide, fd_in 184 (by decide +kernel) (by decide +kernel)⟩
theorem fl_9_42 : fd_fl RX9 42 9 7 := ⟨(RX9, TX9, 8), rfl, by decide, fd_in 186 (by decide +kernel) (by decide +kernel)⟩
theorem fl_10_11 : fd_fl RX10 11 10 0 := ⟨(RX10, TX10, 13), rfl, by decide, fd_in 321 (by decide +kernel) (by decide +kernel)⟩
theorem fl_10_18 : fd_fl RX10 18 10 1 := ⟨(RX10, TX10, 13), rfl, by decide, fd_in 322 (by decide +kernel) (by decide +kernel)⟩
theorem fl_10_22 : fd_fl RX10 22 10 2 := ⟨(RX10, TX10, 13), rfl, by decide, fd_in 323 (by decide +kernel) (by decide +kernel)⟩
theorem fl_10_25 : fd_fl RX10 25 10 3 := ⟨(RX10, TX10, 13), rfl, by decide, fd_in 324 (by decide +kernel) (by decide +kernel)⟩
theorem fl_10_29 : fd_fl RX10 29 10 4 := ⟨(RX10, TX10, 13), rfl, by decide, fd_in 325 (by decide +kernel) (by decide +kernel)⟩
theorem fl_10_36 : fd_fl RX10 36 10 5 := ⟨(RX10, TX10, 13), rfl, by decide, fd_in 326 (by decide +kernel) (by decide +kernel)⟩
theorem fl_10_43 : fd_fl RX10 43 10 6 := ⟨(RX10, TX10, 13), rfl, by decide, fd_in 327 (by decide +kernel) (by decide +kernel)⟩
theorem fl_10_50 : fd_fl RX10 50 10 7 := ⟨(RX10, TX10, 13), rfl, by decide, fd_in 328 (by decide +kernel) (by decide +kernel)⟩
theorem fl_10_54 : fd_fl RX10 54 10 8 := ⟨(RX10, TX10, 13), rfl, by decide, fd_in 329 (by decide +kernel) (by decide +kernel)⟩
theorem fl_10_58 : fd_fl RX10 58 10 9 := ⟨(RX10, TX10, 13), rfl, by decide, fd_in 330 (by decide +kernel) (by decide +kernel)⟩
theorem fl_10_61 : fd_fl RX10 61 10 10 := ⟨(RX10, TX10, 13), rfl, by decide, fd_in 331 (by decide +kernel) (by decide +kernel)⟩
theorem fl_10_64 : fd_fl RX10 64 10 11 := ⟨(RX10, TX10, 13), rfl, by decide, fd_in 332 (by decide +kernel) (by decide +kernel)⟩
theorem fl_10_68 : fd_fl RX10 68 10 12 := ⟨(RX10, TX10, 13), rfl, by decide, fd_in 333 (by decide +kernel) (by decide +kernel)⟩
theorem fl_10_123 : fd_fl RX10 123 9 0 := ⟨(RX9, TX9, 8), rfl, by decide, fd_in 177 (by decide +kernel) (by decide +kernel)⟩
theorem fl_10_135 : fd_fl RX10 135 9 1 := ⟨(RX9, TX9, 8), rfl, by decide, fd_in 179 (by decide +kernel) (by decide +kernel)⟩
theorem fl_10_138 : fd_fl RX10 138 9 2 := ⟨(RX9, TX9, 8), rfl, by decide, fd_in 181 (by decide +kernel) (by decide +kernel)⟩
theorem fl_10_148 : fd_fl RX10 148 5 4 := ⟨(RX5, TX5, 17), rfl, by decide, fd_in 109 (by decide +kernel) (by decide +kernel)⟩
theorem fl_10_155 : fd_fl RX10 155 2 1 := ⟨(RX2, TX2, 11), rfl, by decide, fd_in 215 (by decide +kernel) (by decide +kernel)⟩
theorem fl_10_158 : fd_fl RX10 158 2 10 := ⟨(RX2, TX2, 11), rfl, by decide, fd_in 229 (by decide +kernel) (by decide +kernel)⟩
theorem fl_10_161 : fd_fl RX10 161 2 9 := ⟨(RX2, TX2, 11), rfl, by decide, fd_in 227 (by decide +kernel) (by decide +kernel)⟩
theorem fl_10_170 : fd_fl RX10 170 5 0 := ⟨(RX5, TX5, 17), rfl, by decide, fd_in 101 (by decide +kernel) (by decide +kernel)⟩
theorem fl_10_196 : fd_fl RX10 196 6 0 := ⟨(RX6, TX6, 5), rfl, by decide, fd_in 262 (by decide +kernel) (by decide +kernel)⟩
theorem fl_10_199 : fd_fl RX10 199 6 1 := ⟨(RX6, TX6, 5), rfl, by decide, fd_in 264 (by decide +kernel) (by decide +kernel)⟩
theorem fl_10_202 : fd_fl RX10 202 6 2 := ⟨(RX6, TX6, 5), rfl, by decide, fd_in 266 (by decide +kernel) (by decide +kernel)⟩
theorem fl_10_212 : fd_fl RX10 212 2 2 := ⟨(RX2, TX2, 11), rfl, by decide, fd_in 217 (by decide +kernel) (by decide +kernel)⟩
theorem fl_10_218 : fd_fl RX10 218 5 11 := ⟨(RX5, TX5, 17), rfl, by decide, fd_in 124 (by decide +kernel) (by decide +kernel)⟩
theorem fl_10_247 : fd_fl RX10 247 5 6 := ⟨(RX5, TX5, 17), rfl, by decide, fd_in 113 (by decide +kernel) (by decide +kernel)⟩
theorem fl_10_287 : fd_fl RX10 287 5 5 := ⟨(RX5, TX5, 17), rfl, by decide, fd_in 111 (by decide +kernel) (by decide +kernel)⟩
theorem fl_10_290 : fd_fl RX10 290 5 9 := ⟨(RX5, TX5, 17), rfl, by decide, fd_in 120 (by decide +kernel) (by decide +kernel)⟩
theorem fl_11_7 : fd_fl RX11 7 11 0 := ⟨(RX11, TX11, 39), rfl, by decide, fd_in 934 (by decide +kernel) (by decide +kernel)⟩
theorem fl_11_13 : fd_fl RX11 13 11 2 := ⟨(RX11, TX11, 39), rfl, by decide, fd_in 936 (by decide +kernel) (by decide +kernel)⟩
theorem fl_11_16 : fd_fl RX11 16 11 3 := ⟨(RX11, TX11, 39), rfl, by decide, fd_in 937 (by decide +kernel) (by decide +kernel)⟩
theorem fl_11_19 : fd_fl RX11 19 11 4 := ⟨(RX11, TX11, 39), rfl, by decide, fd_in 938 (by decide +kernel) (by decide +kernel)⟩
theorem fl_11_22 : fd_fl RX11 22 11 5 := ⟨(RX11, TX11, 39), rfl, by decide, fd_in 939 (by decide +kernel) (by decide +kernel)⟩
theorem fl_11_25 : fd_fl RX11 25 11 6 := ⟨(RX11, TX11, 39), rfl, by decide, fd_in 940 (by decide +kernel) (by decide +kernel)⟩
theorem fl_11_28 : fd_fl RX11 28 11 8 := ⟨(RX11, TX11, 39), rfl, by decide, fd_in 942 (by decide +kernel) (by decide +kernel)⟩
theorem fl_11_31 : fd_fl RX11 31 11 9 := ⟨(RX11, TX11, 39), rfl, by decide, fd_in 943 (by decide +kernel) (by decide +kernel)⟩
theorem fl_11_34 : fd_fl RX11 34 11 11 := ⟨(RX11, TX11, 39), rfl, by decide, fd_in 945 (by decide +kernel) (by decide +kernel)⟩
theorem fl_11_37 : fd_fl RX11 37 11 12 := ⟨(RX11, TX11, 39), rfl, by decide, fd_in 946 (by decide +kernel) (by decide +kernel)⟩
theorem fl_11_40 : fd_fl RX11 40 11 14 := ⟨(RX11, TX11, 39), rfl, by decide, fd_in 948 (by decide +kernel) (by decide +kernel)⟩
theorem fl_11_43 : fd_fl RX11 43 11 15 := ⟨(RX11, TX11, 39), rfl, by decide, fd_in 949 (by decide +kernel) (by decide +kernel)⟩
theorem fl_11_46 : fd_fl RX11 46 11 18 := ⟨(RX11, TX11, 39), rfl, by decide, fd_in 952 (by decide +kernel) (by decide +kernel)⟩
theorem fl_11_49 : fd_fl RX11 49 11 19 := ⟨(RX11, TX11, 39), rfl, by decide, fd_in 953 (by decide +kernel) (by decide +kernel)⟩
theorem fl_11_52 : fd_fl RX11 52 11 20 := ⟨(RX11, TX11, 39), rfl, by decide, fd_in 954 (by decide +kernel) (by decide +kernel)⟩
theorem fl_11_55 : fd_fl RX11 55 11 21 := ⟨(RX11, TX11, 39), rfl, by decide, fd_in 955 (by decide +kernel) (by decide +kernel)⟩
theorem fl_11_58 : fd_fl RX11 58 11 23 := ⟨(RX11, TX11, 39), rfl, by decide, fd_in 957 (by decide +kernel) (by decide +kernel)⟩
theorem fl_11_61 : fd_fl RX11 61 11 26 := ⟨(RX11, TX11, 39), rfl, by decide, fd_in 960 (by decide +kernel) (by decide +kernel)⟩
theorem fl_11_64 : fd_fl RX11 64 11 27 := ⟨(RX11, TX11, 39), rfl, by decide, fd_in 961 (by decide +kernel) (by decide +kernel)⟩
theorem fl_11_67 : fd_fl RX11 67 11 28 := ⟨(RX11, TX11, 39), rfl, by decide, fd_in 962 (by decide +kernel) (by decide +kernel)⟩
theorem fl_11_70 : fd_fl RX11 70 11 34 := ⟨(RX11, TX11, 39), rfl, by decide, fd_in 968 (by decide +kernel) (by decide +kernel)⟩
theorem fl_11_73 : fd_fl RX11 73 11 35 := ⟨(RX11, TX11, 39), rfl, by decide, fd_in 969 (by decide +kernel) (by decide +kernel)⟩
theorem fl_11_76 : fd_fl RX11 76 11 36 := ⟨(RX11, TX11, 39), rfl, by decide, fd_in 970 (by decide +kernel) (by decide +kernel)⟩
theorem fl_11_79 : fd_fl RX11 79 11 37 := ⟨(RX11, TX11, 39), rfl, by decide, fd_in 971 (by decide +kernel) (by decide +kernel)⟩
theorem fl_11_86 : fd_fl RX11 86 11 24 := ⟨(RX11, TX11, 39), rfl, by decide, fd_in 958 (by decide +kernel) (by decide +kernel)⟩
theorem fl_11_90 : fd_fl RX11 90 11 25 := ⟨(RX11, TX11, 39), rfl, by decide, fd_in 959 (by decide +kernel) (by decide +kernel)⟩
theorem fl_11_93 : fd_fl RX11 93 11 1 := ⟨(RX11, TX11, 39), rfl, by decide, fd_in 935 (by decide +kernel) (by decide +kernel)⟩
theorem fl_11_103 : fd_fl RX11 103 11 7 := ⟨(RX11, TX11, 39), rfl, by decide, fd_in 941 (by decide +kernel) (by decide +kernel)⟩
theorem fl_11_106 : fd_fl RX11 106 11 10 := ⟨(RX11, TX11, 39), rfl, by decide, fd_in 944 (by decide +kernel) (by decide +kernel)⟩
theorem fl_11_109 : fd_fl RX11 109 11 13 := ⟨(RX11, TX11, 39), rfl, by decide, fd_in 947 (by decide +kernel) (by decide +kernel)⟩
theorem fl_11_112 : fd_fl RX11 112 11 16 := ⟨(RX11, TX11, 39), rfl, by decide, fd_in 950 (by decide +kernel) (by decide +kernel)⟩
theorem fl_11_115 : fd_fl RX11 115 11 17 := ⟨(RX11, TX11, 39), rfl, by decide, fd_in 951 (by decide +kernel) (by decide +kernel)⟩
theorem fl_11_164 : fd_fl RX11 164 11 22 := ⟨(RX11, TX11, 39), rfl, by decide, fd_in 956 (by decide +kernel) (by decide +kernel)⟩
theorem fl_11_218 : fd_fl RX11 218 11 29 := ⟨(RX11, TX11, 39), rfl, by decide, fd_in 963 (by decide +kernel) (by decide +kernel)⟩
theorem fl_11_221 : fd_fl RX11 221 11 30 := ⟨(RX11, TX11, 39), rfl, by decide, fd_in 964 (by decide +kernel) (by decide +kernel)⟩
theorem fl_11_224 : fd_fl RX11 224 11 31 := ⟨(RX11, TX11, 39), rfl, by decide, fd_in 965 (by decide +kernel) (by decide +kernel)⟩
theorem fl_11_254 : fd_fl RX11 254 11 32 := ⟨(RX11, TX11, 39), rfl, by decide, fd_in 966 (by decide +kernel) (by decide +kernel)⟩
theorem fl_11_264 : fd_fl RX11 264 11 33 := ⟨(RX11, TX11, 39), rfl, by decide, fd_in 967 (by decide +kernel) (by decide +kernel)⟩
theorem fl_11_319 : fd_fl RX11 319 11 38 := ⟨(RX11, TX11, 39), rfl, by decide, fd_in 972 (by decide +kernel) (by decide +kernel)⟩
theorem fw_2_0 : fd_fw 2 0 .int := fun r h => by cases h; exact ⟨rfl, by decide +kernel⟩
theorem fw_5_0 : fd_fw 5 0 .int := fun r h => by cases h; exact ⟨rfl, by decide +kernel⟩
theorem fw_5_1 : fd_fw 5 1 .int := fun r h => by cases h; exact ⟨rfl, by decide +kernel⟩
theorem fw_5_2 : fd_fw 5 2 .int := fun r h => by cases h; exact ⟨rfl, by decide +kernel⟩
theorem fw_5_3 : fd_fw 5 3 .int := fun r h => by cases h; exact ⟨rfl, by decide +kernel⟩
theorem fw_5_4 : fd_fw 5 4 .int := fun r h => by cases h; exact ⟨rfl, by decide +kernel⟩
theorem fw_5_5 : fd_fw 5 5 .int := fun r h => by cases h; exact ⟨rfl, by decide +kernel⟩
theorem fw_5_6 : fd_fw 5 6 .int := fun r h => by cases h; exact ⟨rfl, by decide +kernel⟩
theorem fw_6_0 : fd_fw 6 0 .int := fun r h => by cases h; exact ⟨rfl, by decide +kernel⟩
theorem fw_6_1 : fd_fw 6 1 .int := fun r h => by cases h; exact ⟨rfl, by decide +kernel⟩
theorem fw_6_2 : fd_fw 6 2 .int := fun r h => by cases h; exact ⟨rfl, by decide +kernel⟩
theorem fw_6_3 : fd_fw 6 3 .int := fun r h => by cases h; exact ⟨rfl, by decide +kernel⟩
theorem fw_9_0 : fd_fw 9 0 .int := fun r h => by cases h; exact ⟨rfl, by decide +kernel⟩
theorem fw_9_1 : fd_fw 9 1 .int := fun r h => by cases h; exact ⟨rfl, by decide +kernel⟩
theorem fw_9_4 : fd_fw 9 4 .int := fun r h => by cases h; exact ⟨rfl, by decide +kernel⟩
theorem fw_9_5 : fd_fw 9 5 .int := fun r h => by cases h; exact ⟨rfl, by decide +kernel⟩
theorem fw_9_6 : fd_fw 9 6 .int := fun r h => by cases h; exact ⟨rfl, by decide +kernel⟩
theorem fw_9_7 : fd_fw 9 7 .int := fun r h => by cases h; exact ⟨rfl, by decide +kernel⟩
theorem fw_10_11 : fd_fw 10 11 .long := fun r h => by cases h; exact ⟨rfl, by decide +kernel⟩
theorem fw_10_12 : fd_fw 10 12 .long := fun r h => by cases h; exact ⟨rfl, by decide +kernel⟩
theorem fw_11_1 : fd_fw 11 1 .int := fun r h => by cases h; exact ⟨rfl, by decide +kernel⟩
theorem fw_11_7 : fd_fw 11 7 .int := fun r h => by cases h; exact ⟨rfl, by decide +kernel⟩
theorem fw_11_10 : fd_fw 11 10 .int := fun r h => by cases h; exact ⟨rfl, by decide +kernel⟩
theorem fw_11_13 : fd_fw 11 13 .int := fun r h => by cases h; exact ⟨rfl, by decide +kernel⟩
theorem fw_11_16 : fd_fw 11 16 .int := fun r h => by cases h; exact ⟨rfl, by decide +kernel⟩
theorem fw_11_17 : fd_fw 11 17 .int := fun r h => by cases h; exact ⟨rfl, by decide +kernel⟩
theorem fw_11_22 : fd_fw 11 22 .int := fun r h => by cases h; exact ⟨rfl, by decide +kernel⟩
theorem fw_11_24 : fd_fw 11 24 .long := fun r h => by cases h; exact ⟨rfl, by decide +kernel⟩
theorem fw_11_25 : fd_fw 11 25 .long := fun r h => by cases h; exact ⟨rfl, by decide +kernel⟩
theorem fw_11_29 : fd_fw 11 29 .int := fun r h => by cases h; exact ⟨rfl, by decide +kernel⟩
theorem fw_11_30 : fd_fw 11 30 .int := fun r h => by cases h; exact ⟨rfl, by decide +kernel⟩
theorem fw_11_31 : fd_fw 11 31 .int := fun r h => by cases h; exact ⟨rfl, by decide +kernel⟩
theorem fw_11_32 : fd_fw 11 32 .boolean := fun r h => by cases h; exact ⟨rfl, by decide +kernel⟩
theorem fw_11_33 : fd_fw 11 33 .int := fun r h => by cases h; exact ⟨rfl, by decide +kernel⟩
theorem fw_11_38 : fd_fw 11 38 .long := fun r h => by cases h; exact ⟨rfl, by decide +kernel⟩
theorem lk_10_87 : fd_lkV RX10 87 yX5_tellDays mX5_tellDays 1 := ⟨fd_in 365 (by decide +kernel) (by decide +kernel), fd_in 366 (by decide +kernel) (by decide +kernel), fd_in 367 (by decide +kernel) (by decide +kernel), fd_in 62 (by decide +kernel) (by decide +kernel), fd_in 368 (by decide +kernel) (by decide +kernel), by decide +kernel, by decide +kernel, by decide +kernel⟩
theorem lk_10_91 : fd_lkV RX10 91 yX10_counted mX10_counted 1 := ⟨fd_in 369 (by decide +kernel) (by decide +kernel), fd_in 371 (by decide +kernel) (by decide +kernel), fd_in 0 (by decide +kernel) (by decide +kernel), fd_in 61 (by decide +kernel) (by decide +kernel), fd_in 372 (by decide +kernel) (by decide +kernel), by decide +kernel, by decide +kernel, by decide +kernel⟩
theorem lk_10_94 : fd_lkV RX10 94 yX5_tellKind mX5_tellKind 2 := ⟨fd_in 377 (by decide +kernel) (by decide +kernel), fd_in 378 (by decide +kernel) (by decide +kernel), fd_in 379 (by decide +kernel) (by decide +kernel), fd_in 62 (by decide +kernel) (by decide +kernel), fd_in 380 (by decide +kernel) (by decide +kernel), by decide +kernel, by decide +kernel, by decide +kernel⟩
theorem lk_10_98 : fd_lkV RX10 98 yX5_tellFact mX5_tellFact 4 := ⟨fd_in 389 (by decide +kernel) (by decide +kernel), fd_in 390 (by decide +kernel) (by decide +kernel), fd_in 391 (by decide +kernel) (by decide +kernel), fd_in 62 (by decide +kernel) (by decide +kernel), fd_in 392 (by decide +kernel) (by decide +kernel), by decide +kernel, by decide +kernel, by decide +kernel⟩
theorem lk_10_102 : fd_lkV RX10 102 yX5_tellNote mX5_tellNote 2 := ⟨fd_in 400 (by decide +kernel) (by decide +kernel), fd_in 401 (by decide +kernel) (by decide +kernel), fd_in 402 (by decide +kernel) (by decide +kernel), fd_in 62 (by decide +kernel) (by decide +kernel), fd_in 403 (by decide +kernel) (by decide +kernel), by decide +kernel, by decide +kernel, by decide +kernel⟩
theorem lk_10_105 : fd_lkV RX10 105 yX5_tellPair mX5_tellPair 2 := ⟨fd_in 412 (by decide +kernel) (by decide +kernel), fd_in 413 (by decide +kernel) (by decide +kernel), fd_in 414 (by decide +kernel) (by decide +kernel), fd_in 62 (by decide +kernel) (by decide +kernel), fd_in 415 (by decide +kernel) (by decide +kernel), by decide +kernel, by decide +kernel, by decide +kernel⟩
theorem lk_10_108 : fd_lkV RX10 108 yX5_tellPlace mX5_tellPlace 2 := ⟨fd_in 420 (by decide +kernel) (by decide +kernel), fd_in 421 (by decide +kernel) (by decide +kernel), fd_in 422 (by decide +kernel) (by decide +kernel), fd_in 62 (by decide +kernel) (by decide +kernel), fd_in 423 (by decide +kernel) (by decide +kernel), by decide +kernel, by decide +kernel, by decide +kernel⟩
theorem lk_10_111 : fd_lkV RX10 111 yX10_badAs mX10_badAs 1 := ⟨fd_in 424 (by decide +kernel) (by decide +kernel), fd_in 426 (by decide +kernel) (by decide +kernel), fd_in 1 (by decide +kernel) (by decide +kernel), fd_in 61 (by decide +kernel) (by decide +kernel), fd_in 427 (by decide +kernel) (by decide +kernel), by decide +kernel, by decide +kernel, by decide +kernel⟩
theorem lk_10_114 : fd_lkV RX10 114 yX5_tearOut mX5_tearOut 1 := ⟨fd_in 432 (by decide +kernel) (by decide +kernel), fd_in 433 (by decide +kernel) (by decide +kernel), fd_in 434 (by decide +kernel) (by decide +kernel), fd_in 62 (by decide +kernel) (by decide +kernel), fd_in 435 (by decide +kernel) (by decide +kernel), by decide +kernel, by decide +kernel, by decide +kernel⟩
theorem lk_10_117 : fd_lkV RX10 117 yX5_tellOrder mX5_tellOrder 1 := ⟨fd_in 448 (by decide +kernel) (by decide +kernel), fd_in 449 (by decide +kernel) (by decide +kernel), fd_in 450 (by decide +kernel) (by decide +kernel), fd_in 62 (by decide +kernel) (by decide +kernel), fd_in 451 (by decide +kernel) (by decide +kernel), by decide +kernel, by decide +kernel, by decide +kernel⟩
theorem lk_10_120 : fd_lkV RX10 120 yX9_take mX9_take 1 := ⟨fd_in 466 (by decide +kernel) (by decide +kernel), fd_in 467 (by decide +kernel) (by decide +kernel), fd_in 468 (by decide +kernel) (by decide +kernel), fd_in 63 (by decide +kernel) (by decide +kernel), fd_in 469 (by decide +kernel) (by decide +kernel), by decide +kernel, by decide +kernel, by decide +kernel⟩
theorem lk_10_127 : fd_lkV RX10 127 yX9_findFault mX9_findFault 0 := ⟨fd_in 478 (by decide +kernel) (by decide +kernel), fd_in 479 (by decide +kernel) (by decide +kernel), fd_in 480 (by decide +kernel) (by decide +kernel), fd_in 63 (by decide +kernel) (by decide +kernel), fd_in 481 (by decide +kernel) (by decide +kernel), by decide +kernel, by decide +kernel, by decide +kernel⟩
theorem lk_10_131 : fd_lkV RX10 131 yX5_copyFrom mX5_copyFrom 1 := ⟨fd_in 568 (by decide +kernel) (by decide +kernel), fd_in 569 (by decide +kernel) (by decide +kernel), fd_in 570 (by decide +kernel) (by decide +kernel), fd_in 62 (by decide +kernel) (by decide +kernel), fd_in 571 (by decide +kernel) (by decide +kernel), by decide +kernel, by decide +kernel, by decide +kernel⟩
theorem lk_10_141 : fd_lkV RX10 141 yX5_tellItem mX5_tellItem 1 := ⟨fd_in 575 (by decide +kernel) (by decide +kernel), fd_in 576 (by decide +kernel) (by decide +kernel), fd_in 577 (by decide +kernel) (by decide +kernel), fd_in 62 (by decide +kernel) (by decide +kernel), fd_in 578 (by decide +kernel) (by decide +kernel), by decide +kernel, by decide +kernel, by decide +kernel⟩
theorem lk_10_144 : fd_lkV RX10 144 yX5_hasDay mX5_hasDay 1 := ⟨fd_in 589 (by decide +kernel) (by decide +kernel), fd_in 382 (by decide +kernel) (by decide +kernel), fd_in 383 (by decide +kernel) (by decide +kernel), fd_in 62 (by decide +kernel) (by decide +kernel), fd_in 384 (by decide +kernel) (by decide +kernel), by decide +kernel, by decide +kernel, by decide +kernel⟩
theorem lk_10_151 : fd_lkV RX10 151 yX10_follow mX10_follow 1 := ⟨fd_in 590 (by decide +kernel) (by decide +kernel), fd_in 592 (by decide +kernel) (by decide +kernel), fd_in 9 (by decide +kernel) (by decide +kernel), fd_in 61 (by decide +kernel) (by decide +kernel), fd_in 593 (by decide +kernel) (by decide +kernel), by decide +kernel, by decide +kernel, by decide +kernel⟩
theorem lk_10_164 : fd_lkV RX10 164 yX2_lacking mX2_lacking 1 := ⟨fd_in 683 (by decide +kernel) (by decide +kernel), fd_in 684 (by decide +kernel) (by decide +kernel), fd_in 685 (by decide +kernel) (by decide +kernel), fd_in 64 (by decide +kernel) (by decide +kernel), fd_in 686 (by decide +kernel) (by decide +kernel), by decide +kernel, by decide +kernel, by decide +kernel⟩
theorem lk_10_167 : fd_lkV RX10 167 yX2_firstFailing mX2_firstFailing 0 := ⟨fd_in 691 (by decide +kernel) (by decide +kernel), fd_in 692 (by decide +kernel) (by decide +kernel), fd_in 693 (by decide +kernel) (by decide +kernel), fd_in 64 (by decide +kernel) (by decide +kernel), fd_in 694 (by decide +kernel) (by decide +kernel), by decide +kernel, by decide +kernel, by decide +kernel⟩
theorem lk_10_173 : fd_lkV RX10 173 yX2_wellAmong mX2_wellAmong 1 := ⟨fd_in 696 (by decide +kernel) (by decide +kernel), fd_in 697 (by decide +kernel) (by decide +kernel), fd_in 698 (by decide +kernel) (by decide +kernel), fd_in 64 (by decide +kernel) (by decide +kernel), fd_in 699 (by decide +kernel) (by decide +kernel), by decide +kernel, by decide +kernel, by decide +kernel⟩
theorem lk_10_176 : fd_lkV RX10 176 yX5_orders mX5_orders 0 := ⟨fd_in 708 (by decide +kernel) (by decide +kernel), fd_in 457 (by decide +kernel) (by decide +kernel), fd_in 458 (by decide +kernel) (by decide +kernel), fd_in 62 (by decide +kernel) (by decide +kernel), fd_in 459 (by decide +kernel) (by decide +kernel), by decide +kernel, by decide +kernel, by decide +kernel⟩
theorem lk_10_179 : fd_lkV RX10 179 yX10_hangsTogether mX10_hangsTogether 0 := ⟨fd_in 709 (by decide +kernel) (by decide +kernel), fd_in 711 (by decide +kernel) (by decide +kernel), fd_in 11 (by decide +kernel) (by decide +kernel), fd_in 61 (by decide +kernel) (by decide +kernel), fd_in 712 (by decide +kernel) (by decide +kernel), by decide +kernel, by decide +kernel, by decide +kernel⟩
theorem lk_10_183 : fd_lkV RX10 183 yX2_goOn mX2_goOn 0 := ⟨fd_in 721 (by decide +kernel) (by decide +kernel), fd_in 722 (by decide +kernel) (by decide +kernel), fd_in 723 (by decide +kernel) (by decide +kernel), fd_in 64 (by decide +kernel) (by decide +kernel), fd_in 724 (by decide +kernel) (by decide +kernel), by decide +kernel, by decide +kernel, by decide +kernel⟩
theorem lk_10_186 : fd_lkV RX10 186 yX2_daysAheadOf mX2_daysAheadOf 1 := ⟨fd_in 733 (by decide +kernel) (by decide +kernel), fd_in 734 (by decide +kernel) (by decide +kernel), fd_in 735 (by decide +kernel) (by decide +kernel), fd_in 64 (by decide +kernel) (by decide +kernel), fd_in 736 (by decide +kernel) (by decide +kernel), by decide +kernel, by decide +kernel, by decide +kernel⟩
theorem lk_10_189 : fd_lkV RX10 189 yX5_tellForNotes mX5_tellForNotes 1 := ⟨fd_in 741 (by decide +kernel) (by decide +kernel), fd_in 742 (by decide +kernel) (by decide +kernel), fd_in 743 (by decide +kernel) (by decide +kernel), fd_in 62 (by decide +kernel) (by decide +kernel), fd_in 744 (by decide +kernel) (by decide +kernel), by decide +kernel, by decide +kernel, by decide +kernel⟩
theorem lk_10_192 : fd_lkV RX10 192 yX6_find mX6_find 2 := ⟨fd_in 749 (by decide +kernel) (by decide +kernel), fd_in 750 (by decide +kernel) (by decide +kernel), fd_in 751 (by decide +kernel) (by decide +kernel), fd_in 65 (by decide +kernel) (by decide +kernel), fd_in 752 (by decide +kernel) (by decide +kernel), by decide +kernel, by decide +kernel, by decide +kernel⟩
theorem lk_10_205 : fd_lkV RX10 205 yX10_livesAsTold mX10_livesAsTold 0 := ⟨fd_in 713 (by decide +kernel) (by decide +kernel), fd_in 715 (by decide +kernel) (by decide +kernel), fd_in 12 (by decide +kernel) (by decide +kernel), fd_in 61 (by decide +kernel) (by decide +kernel), fd_in 716 (by decide +kernel) (by decide +kernel), by decide +kernel, by decide +kernel, by decide +kernel⟩
theorem lk_10_208 : fd_lkV RX10 208 yX10_setFraction mX10_setFraction 2 := ⟨fd_in 785 (by decide +kernel) (by decide +kernel), fd_in 787 (by decide +kernel) (by decide +kernel), fd_in 19 (by decide +kernel) (by decide +kernel), fd_in 61 (by decide +kernel) (by decide +kernel), fd_in 788 (by decide +kernel) (by decide +kernel), by decide +kernel, by decide +kernel, by decide +kernel⟩
theorem lk_10_215 : fd_lkV RX10 215 yX5_tellDiary mX5_tellDiary 2 := ⟨fd_in 804 (by decide +kernel) (by decide +kernel), fd_in 805 (by decide +kernel) (by decide +kernel), fd_in 806 (by decide +kernel) (by decide +kernel), fd_in 62 (by decide +kernel) (by decide +kernel), fd_in 807 (by decide +kernel) (by decide +kernel), by decide +kernel, by decide +kernel, by decide +kernel⟩
theorem lk_10_221 : fd_lkV RX10 221 yX2_fitsDiary mX2_fitsDiary 1 := ⟨fd_in 812 (by decide +kernel) (by decide +kernel), fd_in 813 (by decide +kernel) (by decide +kernel), fd_in 814 (by decide +kernel) (by decide +kernel), fd_in 64 (by decide +kernel) (by decide +kernel), fd_in 815 (by decide +kernel) (by decide +kernel), by decide +kernel, by decide +kernel, by decide +kernel⟩
theorem lk_10_225 : fd_lkS RX10 225 yX10_isFact mX10_isFact 1 := ⟨fd_in 820 (by decide +kernel) (by decide +kernel), fd_in 394 (by decide +kernel) (by decide +kernel), fd_in 61 (by decide +kernel) (by decide +kernel), fd_in 395 (by decide +kernel) (by decide +kernel), by decide +kernel, by decide +kernel, by decide +kernel⟩
theorem lk_10_228 : fd_lkV RX10 228 yX2_teachToo mX2_teachToo 4 := ⟨fd_in 821 (by decide +kernel) (by decide +kernel), fd_in 822 (by decide +kernel) (by decide +kernel), fd_in 823 (by decide +kernel) (by decide +kernel), fd_in 64 (by decide +kernel) (by decide +kernel), fd_in 824 (by decide +kernel) (by decide +kernel), by decide +kernel, by decide +kernel, by decide +kernel⟩
theorem lk_10_232 : fd_lkV RX10 232 yX2_liveThrough mX2_liveThrough 0 := ⟨fd_in 663 (by decide +kernel) (by decide +kernel), fd_in 664 (by decide +kernel) (by decide +kernel), fd_in 665 (by decide +kernel) (by decide +kernel), fd_in 64 (by decide +kernel) (by decide +kernel), fd_in 666 (by decide +kernel) (by decide +kernel), by decide +kernel, by decide +kernel, by decide +kernel⟩
theorem lk_10_235 : fd_lkV RX10 235 yX5_tellOther mX5_tellOther 1 := ⟨fd_in 829 (by decide +kernel) (by decide +kernel), fd_in 830 (by decide +kernel) (by decide +kernel), fd_in 831 (by decide +kernel) (by decide +kernel), fd_in 62 (by decide +kernel) (by decide +kernel), fd_in 832 (by decide +kernel) (by decide +kernel), by decide +kernel, by decide +kernel, by decide +kernel⟩
theorem lk_10_238 : fd_lkV RX10 238 yX10_shareKnown mX10_shareKnown 0 := ⟨fd_in 837 (by decide +kernel) (by decide +kernel), fd_in 839 (by decide +kernel) (by decide +kernel), fd_in 20 (by decide +kernel) (by decide +kernel), fd_in 61 (by decide +kernel) (by decide +kernel), fd_in 840 (by decide +kernel) (by decide +kernel), by decide +kernel, by decide +kernel, by decide +kernel⟩
theorem lk_10_241 : fd_lkV RX10 241 yX10_bestNaming mX10_bestNaming 1 := ⟨fd_in 850 (by decide +kernel) (by decide +kernel), fd_in 852 (by decide +kernel) (by decide +kernel), fd_in 21 (by decide +kernel) (by decide +kernel), fd_in 61 (by decide +kernel) (by decide +kernel), fd_in 853 (by decide +kernel) (by decide +kernel), by decide +kernel, by decide +kernel, by decide +kernel⟩
theorem lk_10_244 : fd_lkV RX10 244 yX10_leadByNaming mX10_leadByNaming 2 := ⟨fd_in 854 (by decide +kernel) (by decide +kernel), fd_in 856 (by decide +kernel) (by decide +kernel), fd_in 22 (by decide +kernel) (by decide +kernel), fd_in 61 (by decide +kernel) (by decide +kernel), fd_in 857 (by decide +kernel) (by decide +kernel), by decide +kernel, by decide +kernel, by decide +kernel⟩
theorem lk_10_250 : fd_lkV RX10 250 yX2_learntAmong mX2_learntAmong 1 := ⟨fd_in 880 (by decide +kernel) (by decide +kernel), fd_in 881 (by decide +kernel) (by decide +kernel), fd_in 882 (by decide +kernel) (by decide +kernel), fd_in 64 (by decide +kernel) (by decide +kernel), fd_in 883 (by decide +kernel) (by decide +kernel), by decide +kernel, by decide +kernel, by decide +kernel⟩
theorem lk_10_253 : fd_lkV RX10 253 yX10_countOf mX10_countOf 1 := ⟨fd_in 904 (by decide +kernel) (by decide +kernel), fd_in 906 (by decide +kernel) (by decide +kernel), fd_in 23 (by decide +kernel) (by decide +kernel), fd_in 61 (by decide +kernel) (by decide +kernel), fd_in 907 (by decide +kernel) (by decide +kernel), by decide +kernel, by decide +kernel, by decide +kernel⟩
theorem lk_10_260 : fd_lkV RX10 260 yX5_digestOfDays mX5_digestOfDays 1 := ⟨fd_in 915 (by decide +kernel) (by decide +kernel), fd_in 916 (by decide +kernel) (by decide +kernel), fd_in 917 (by decide +kernel) (by decide +kernel), fd_in 62 (by decide +kernel) (by decide +kernel), fd_in 918 (by decide +kernel) (by decide +kernel), by decide +kernel, by decide +kernel, by decide +kernel⟩
theorem lk_10_264 : fd_lkV RX10 264 yX5_digestOfRows mX5_digestOfRows 1 := ⟨fd_in 920 (by decide +kernel) (by decide +kernel), fd_in 921 (by decide +kernel) (by decide +kernel), fd_in 922 (by decide +kernel) (by decide +kernel), fd_in 62 (by decide +kernel) (by decide +kernel), fd_in 923 (by decide +kernel) (by decide +kernel), by decide +kernel, by decide +kernel, by decide +kernel⟩
theorem lk_10_267 : fd_lkV RX10 267 yX5_countOfRow mX5_countOfRow 1 := ⟨fd_in 908 (by decide +kernel) (by decide +kernel), fd_in 437 (by decide +kernel) (by decide +kernel), fd_in 438 (by decide +kernel) (by decide +kernel), fd_in 62 (by decide +kernel) (by decide +kernel), fd_in 439 (by decide +kernel) (by decide +kernel), by decide +kernel, by decide +kernel, by decide +kernel⟩
theorem lk_10_270 : fd_lkV RX10 270 yX2_lookAt mX2_lookAt 2 := ⟨fd_in 594 (by decide +kernel) (by decide +kernel), fd_in 595 (by decide +kernel) (by decide +kernel), fd_in 596 (by decide +kernel) (by decide +kernel), fd_in 64 (by decide +kernel) (by decide +kernel), fd_in 597 (by decide +kernel) (by decide +kernel), by decide +kernel, by decide +kernel, by decide +kernel⟩
theorem lk_10_274 : fd_lkV RX10 274 yX2_goTo mX2_goTo 1 := ⟨fd_in 654 (by decide +kernel) (by decide +kernel), fd_in 655 (by decide +kernel) (by decide +kernel), fd_in 656 (by decide +kernel) (by decide +kernel), fd_in 64 (by decide +kernel) (by decide +kernel), fd_in 657 (by decide +kernel) (by decide +kernel), by decide +kernel, by decide +kernel, by decide +kernel⟩
theorem lk_10_277 : fd_lkV RX10 277 yX2_keepsTold mX2_keepsTold 1 := ⟨fd_in 717 (by decide +kernel) (by decide +kernel), fd_in 718 (by decide +kernel) (by decide +kernel), fd_in 719 (by decide +kernel) (by decide +kernel), fd_in 64 (by decide +kernel) (by decide +kernel), fd_in 720 (by decide +kernel) (by decide +kernel), by decide +kernel, by decide +kernel, by decide +kernel⟩
theorem lk_10_293 : fd_lkV RX10 293 yX5_taughtBy mX5_taughtBy 1 := ⟨fd_in 858 (by decide +kernel) (by decide +kernel), fd_in 859 (by decide +kernel) (by decide +kernel), fd_in 860 (by decide +kernel) (by decide +kernel), fd_in 62 (by decide +kernel) (by decide +kernel), fd_in 861 (by decide +kernel) (by decide +kernel), by decide +kernel, by decide +kernel, by decide +kernel⟩
theorem lk_10_296 : fd_lkS RX10 296 yJ6_bitCount_0f7a4 mJ6_bitCount_0f7a4 1 := ⟨fd_in 862 (by decide +kernel) (by decide +kernel), fd_in 863 (by decide +kernel) (by decide +kernel), fd_in 78 (by decide +kernel) (by decide +kernel), fd_in 864 (by decide +kernel) (by decide +kernel), by decide +kernel, by decide +kernel, by decide +kernel⟩
theorem lk_10_301 : fd_lkS RX10 301 yX10_commonDivisor mX10_commonDivisor 2 := ⟨fd_in 789 (by decide +kernel) (by decide +kernel), fd_in 790 (by decide +kernel) (by decide +kernel), fd_in 61 (by decide +kernel) (by decide +kernel), fd_in 791 (by decide +kernel) (by decide +kernel), by decide +kernel, by decide +kernel, by decide +kernel⟩
theorem lk_11_82 : fd_lkV RX11 82 yX11_begins mX11_begins 1 := ⟨fd_in 930 (by decide +kernel) (by decide +kernel), fd_in 932 (by decide +kernel) (by decide +kernel), fd_in 24 (by decide +kernel) (by decide +kernel), fd_in 72 (by decide +kernel) (by decide +kernel), fd_in 933 (by decide +kernel) (by decide +kernel), by decide +kernel, by decide +kernel, by decide +kernel⟩
theorem lk_11_97 : fd_lkS RX11 97 yX11_in mX11_in 3 := ⟨fd_in 1057 (by decide +kernel) (by decide +kernel), fd_in 1058 (by decide +kernel) (by decide +kernel), fd_in 72 (by decide +kernel) (by decide +kernel), fd_in 1059 (by decide +kernel) (by decide +kernel), by decide +kernel, by decide +kernel, by decide +kernel⟩
theorem lk_11_120 : fd_lkV RX11 120 yX11_bad mX11_bad 1 := ⟨fd_in 1060 (by decide +kernel) (by decide +kernel), fd_in 1062 (by decide +kernel) (by decide +kernel), fd_in 25 (by decide +kernel) (by decide +kernel), fd_in 72 (by decide +kernel) (by decide +kernel), fd_in 1063 (by decide +kernel) (by decide +kernel), by decide +kernel, by decide +kernel, by decide +kernel⟩
theorem lk_11_124 : fd_lkV RX11 124 yX11_isDay mX11_isDay 1 := ⟨fd_in 1068 (by decide +kernel) (by decide +kernel), fd_in 1070 (by decide +kernel) (by decide +kernel), fd_in 26 (by decide +kernel) (by decide +kernel), fd_in 72 (by decide +kernel) (by decide +kernel), fd_in 1071 (by decide +kernel) (by decide +kernel), by decide +kernel, by decide +kernel, by decide +kernel⟩
theorem lk_11_128 : fd_lkS RX11 128 yX11_isFact mX11_isFact 1 := ⟨fd_in 1077 (by decide +kernel) (by decide +kernel), fd_in 1078 (by decide +kernel) (by decide +kernel), fd_in 72 (by decide +kernel) (by decide +kernel), fd_in 1079 (by decide +kernel) (by decide +kernel), by decide +kernel, by decide +kernel, by decide +kernel⟩
theorem lk_11_131 : fd_lkV RX11 131 yX11_no mX11_no 0 := ⟨fd_in 1080 (by decide +kernel) (by decide +kernel), fd_in 1082 (by decide +kernel) (by decide +kernel), fd_in 27 (by decide +kernel) (by decide +kernel), fd_in 72 (by decide +kernel) (by decide +kernel), fd_in 1083 (by decide +kernel) (by decide +kernel), by decide +kernel, by decide +kernel, by decide +kernel⟩
theorem lk_11_135 : fd_lkV RX11 135 yX11_isNote mX11_isNote 2 := ⟨fd_in 1088 (by decide +kernel) (by decide +kernel), fd_in 1090 (by decide +kernel) (by decide +kernel), fd_in 28 (by decide +kernel) (by decide +kernel), fd_in 72 (by decide +kernel) (by decide +kernel), fd_in 1091 (by decide +kernel) (by decide +kernel), by decide +kernel, by decide +kernel, by decide +kernel⟩
theorem lk_11_139 : fd_lkV RX11 139 yX11_full mX11_full 0 := ⟨fd_in 1092 (by decide +kernel) (by decide +kernel), fd_in 1094 (by decide +kernel) (by decide +kernel), fd_in 29 (by decide +kernel) (by decide +kernel), fd_in 72 (by decide +kernel) (by decide +kernel), fd_in 1095 (by decide +kernel) (by decide +kernel), by decide +kernel, by decide +kernel, by decide +kernel⟩
theorem lk_11_144 : fd_lkV RX11 144 yX11_diaries mX11_diaries 0 := ⟨fd_in 1109 (by decide +kernel) (by decide +kernel), fd_in 1111 (by decide +kernel) (by decide +kernel), fd_in 30 (by decide +kernel) (by decide +kernel), fd_in 72 (by decide +kernel) (by decide +kernel), fd_in 1112 (by decide +kernel) (by decide +kernel), by decide +kernel, by decide +kernel, by decide +kernel⟩
theorem lk_11_147 : fd_lkV RX11 147 yX11_orders mX11_orders 0 := ⟨fd_in 1121 (by decide +kernel) (by decide +kernel), fd_in 1123 (by decide +kernel) (by decide +kernel), fd_in 32 (by decide +kernel) (by decide +kernel), fd_in 72 (by decide +kernel) (by decide +kernel), fd_in 1124 (by decide +kernel) (by decide +kernel), by decide +kernel, by decide +kernel, by decide +kernel⟩
theorem lk_11_150 : fd_lkV RX11 150 yX11_isRank mX11_isRank 1 := ⟨fd_in 1117 (by decide +kernel) (by decide +kernel), fd_in 1119 (by decide +kernel) (by decide +kernel), fd_in 31 (by decide +kernel) (by decide +kernel), fd_in 72 (by decide +kernel) (by decide +kernel), fd_in 1120 (by decide +kernel) (by decide +kernel), by decide +kernel, by decide +kernel, by decide +kernel⟩
theorem lk_11_153 : fd_lkV RX11 153 yX11_rankOf mX11_rankOf 1 := ⟨fd_in 1125 (by decide +kernel) (by decide +kernel), fd_in 1127 (by decide +kernel) (by decide +kernel), fd_in 33 (by decide +kernel) (by decide +kernel), fd_in 72 (by decide +kernel) (by decide +kernel), fd_in 1128 (by decide +kernel) (by decide +kernel), by decide +kernel, by decide +kernel, by decide +kernel⟩
theorem lk_11_157 : fd_lkV RX11 157 yX11_rowOf mX11_rowOf 2 := ⟨fd_in 1129 (by decide +kernel) (by decide +kernel), fd_in 1131 (by decide +kernel) (by decide +kernel), fd_in 34 (by decide +kernel) (by decide +kernel), fd_in 72 (by decide +kernel) (by decide +kernel), fd_in 1132 (by decide +kernel) (by decide +kernel), by decide +kernel, by decide +kernel, by decide +kernel⟩
theorem lk_11_161 : fd_lkV RX11 161 yX11_learns mX11_learns 1 := ⟨fd_in 1145 (by decide +kernel) (by decide +kernel), fd_in 1147 (by decide +kernel) (by decide +kernel), fd_in 36 (by decide +kernel) (by decide +kernel), fd_in 72 (by decide +kernel) (by decide +kernel), fd_in 1148 (by decide +kernel) (by decide +kernel), by decide +kernel, by decide +kernel, by decide +kernel⟩
theorem lk_11_167 : fd_lkV RX11 167 yX11_asks mX11_asks 1 := ⟨fd_in 1149 (by decide +kernel) (by decide +kernel), fd_in 1151 (by decide +kernel) (by decide +kernel), fd_in 37 (by decide +kernel) (by decide +kernel), fd_in 72 (by decide +kernel) (by decide +kernel), fd_in 1152 (by decide +kernel) (by decide +kernel), by decide +kernel, by decide +kernel, by decide +kernel⟩
theorem lk_11_170 : fd_lkV RX11 170 yX11_lives mX11_lives 1 := ⟨fd_in 1141 (by decide +kernel) (by decide +kernel), fd_in 1143 (by decide +kernel) (by decide +kernel), fd_in 35 (by decide +kernel) (by decide +kernel), fd_in 72 (by decide +kernel) (by decide +kernel), fd_in 1144 (by decide +kernel) (by decide +kernel), by decide +kernel, by decide +kernel, by decide +kernel⟩
theorem lk_11_174 : fd_lkV RX11 174 yX11_isTold mX11_isTold 0 := ⟨fd_in 1180 (by decide +kernel) (by decide +kernel), fd_in 1182 (by decide +kernel) (by decide +kernel), fd_in 39 (by decide +kernel) (by decide +kernel), fd_in 72 (by decide +kernel) (by decide +kernel), fd_in 1183 (by decide +kernel) (by decide +kernel), by decide +kernel, by decide +kernel, by decide +kernel⟩
theorem lk_11_178 : fd_lkS RX11 178 yX11_starts mX11_starts 1 := ⟨fd_in 1173 (by decide +kernel) (by decide +kernel), fd_in 1174 (by decide +kernel) (by decide +kernel), fd_in 72 (by decide +kernel) (by decide +kernel), fd_in 1175 (by decide +kernel) (by decide +kernel), by decide +kernel, by decide +kernel, by decide +kernel⟩
theorem lk_11_181 : fd_lkV RX11 181 yX11_doesHang mX11_doesHang 0 := ⟨fd_in 1176 (by decide +kernel) (by decide +kernel), fd_in 1178 (by decide +kernel) (by decide +kernel), fd_in 38 (by decide +kernel) (by decide +kernel), fd_in 72 (by decide +kernel) (by decide +kernel), fd_in 1179 (by decide +kernel) (by decide +kernel), by decide +kernel, by decide +kernel, by decide +kernel⟩
theorem lk_11_184 : fd_lkV RX11 184 yX11_turns mX11_turns 1 := ⟨fd_in 1184 (by decide +kernel) (by decide +kernel), fd_in 1186 (by decide +kernel) (by decide +kernel), fd_in 40 (by decide +kernel) (by decide +kernel), fd_in 72 (by decide +kernel) (by decide +kernel), fd_in 1187 (by decide +kernel) (by decide +kernel), by decide +kernel, by decide +kernel, by decide +kernel⟩
theorem lk_11_187 : fd_lkV RX11 187 yX11_areWell mX11_areWell 0 := ⟨fd_in 1205 (by decide +kernel) (by decide +kernel), fd_in 1207 (by decide +kernel) (by decide +kernel), fd_in 42 (by decide +kernel) (by decide +kernel), fd_in 72 (by decide +kernel) (by decide +kernel), fd_in 1208 (by decide +kernel) (by decide +kernel), by decide +kernel, by decide +kernel, by decide +kernel⟩
theorem lk_11_190 : fd_lkV RX11 190 yX11_adds mX11_adds 1 := ⟨fd_in 1209 (by decide +kernel) (by decide +kernel), fd_in 1211 (by decide +kernel) (by decide +kernel), fd_in 43 (by decide +kernel) (by decide +kernel), fd_in 72 (by decide +kernel) (by decide +kernel), fd_in 1212 (by decide +kernel) (by decide +kernel), by decide +kernel, by decide +kernel, by decide +kernel⟩
theorem lk_11_195 : fd_lkV RX11 195 yX11_fewest mX11_fewest 0 := ⟨fd_in 1201 (by decide +kernel) (by decide +kernel), fd_in 1203 (by decide +kernel) (by decide +kernel), fd_in 41 (by decide +kernel) (by decide +kernel), fd_in 72 (by decide +kernel) (by decide +kernel), fd_in 1204 (by decide +kernel) (by decide +kernel), by decide +kernel, by decide +kernel, by decide +kernel⟩
theorem lk_11_198 : fd_lkV RX11 198 yX11_tells mX11_tells 2 := ⟨fd_in 1217 (by decide +kernel) (by decide +kernel), fd_in 1219 (by decide +kernel) (by decide +kernel), fd_in 44 (by decide +kernel) (by decide +kernel), fd_in 72 (by decide +kernel) (by decide +kernel), fd_in 1220 (by decide +kernel) (by decide +kernel), by decide +kernel, by decide +kernel, by decide +kernel⟩
theorem lk_11_206 : fd_lkV RX11 206 yX11_both mX11_both 0 := ⟨fd_in 1251 (by decide +kernel) (by decide +kernel), fd_in 1253 (by decide +kernel) (by decide +kernel), fd_in 45 (by decide +kernel) (by decide +kernel), fd_in 72 (by decide +kernel) (by decide +kernel), fd_in 1254 (by decide +kernel) (by decide +kernel), by decide +kernel, by decide +kernel, by decide +kernel⟩
theorem lk_11_209 : fd_lkS RX11 209 yX11_size mX11_size 1 := ⟨fd_in 1267 (by decide +kernel) (by decide +kernel), fd_in 1268 (by decide +kernel) (by decide +kernel), fd_in 72 (by decide +kernel) (by decide +kernel), fd_in 1269 (by decide +kernel) (by decide +kernel), by decide +kernel, by decide +kernel, by decide +kernel⟩
theorem lk_11_212 : fd_lkV RX11 212 yX11_named mX11_named 2 := ⟨fd_in 1263 (by decide +kernel) (by decide +kernel), fd_in 1265 (by decide +kernel) (by decide +kernel), fd_in 46 (by decide +kernel) (by decide +kernel), fd_in 72 (by decide +kernel) (by decide +kernel), fd_in 1266 (by decide +kernel) (by decide +kernel), by decide +kernel, by decide +kernel, by decide +kernel⟩
theorem lk_11_227 : fd_lkV RX11 227 yX11_skips mX11_skips 0 := ⟨fd_in 1295 (by decide +kernel) (by decide +kernel), fd_in 1297 (by decide +kernel) (by decide +kernel), fd_in 47 (by decide +kernel) (by decide +kernel), fd_in 72 (by decide +kernel) (by decide +kernel), fd_in 1298 (by decide +kernel) (by decide +kernel), by decide +kernel, by decide +kernel, by decide +kernel⟩
theorem lk_11_258 : fd_lkV RX11 258 yX11_isFigure mX11_isFigure 1 := ⟨fd_in 1321 (by decide +kernel) (by decide +kernel), fd_in 1323 (by decide +kernel) (by decide +kernel), fd_in 51 (by decide +kernel) (by decide +kernel), fd_in 72 (by decide +kernel) (by decide +kernel), fd_in 1324 (by decide +kernel) (by decide +kernel), by decide +kernel, by decide +kernel, by decide +kernel⟩
theorem lk_11_261 : fd_lkV RX11 261 yX11_word mX11_word 0 := ⟨fd_in 1303 (by decide +kernel) (by decide +kernel), fd_in 1305 (by decide +kernel) (by decide +kernel), fd_in 49 (by decide +kernel) (by decide +kernel), fd_in 72 (by decide +kernel) (by decide +kernel), fd_in 1306 (by decide +kernel) (by decide +kernel), by decide +kernel, by decide +kernel, by decide +kernel⟩
theorem lk_11_267 : fd_lkV RX11 267 yX11_figure mX11_figure 0 := ⟨fd_in 1317 (by decide +kernel) (by decide +kernel), fd_in 1319 (by decide +kernel) (by decide +kernel), fd_in 50 (by decide +kernel) (by decide +kernel), fd_in 72 (by decide +kernel) (by decide +kernel), fd_in 1320 (by decide +kernel) (by decide +kernel), by decide +kernel, by decide +kernel, by decide +kernel⟩
theorem lk_11_270 : fd_lkV RX11 270 yX11_life mX11_life 1 := ⟨fd_in 1343 (by decide +kernel) (by decide +kernel), fd_in 1053 (by decide +kernel) (by decide +kernel), fd_in 1054 (by decide +kernel) (by decide +kernel), fd_in 72 (by decide +kernel) (by decide +kernel), fd_in 1055 (by decide +kernel) (by decide +kernel), by decide +kernel, by decide +kernel, by decide +kernel⟩
theorem lk_11_273 : fd_lkV RX11 273 yX11_day mX11_day 2 := ⟨fd_in 1344 (by decide +kernel) (by decide +kernel), fd_in 1065 (by decide +kernel) (by decide +kernel), fd_in 1066 (by decide +kernel) (by decide +kernel), fd_in 72 (by decide +kernel) (by decide +kernel), fd_in 1067 (by decide +kernel) (by decide +kernel), by decide +kernel, by decide +kernel, by decide +kernel⟩
theorem lk_11_276 : fd_lkV RX11 276 yX11_fact mX11_fact 4 := ⟨fd_in 1345 (by decide +kernel) (by decide +kernel), fd_in 1074 (by decide +kernel) (by decide +kernel), fd_in 1075 (by decide +kernel) (by decide +kernel), fd_in 72 (by decide +kernel) (by decide +kernel), fd_in 1076 (by decide +kernel) (by decide +kernel), by decide +kernel, by decide +kernel, by decide +kernel⟩
theorem lk_11_280 : fd_lkV RX11 280 yX11_note mX11_note 2 := ⟨fd_in 1346 (by decide +kernel) (by decide +kernel), fd_in 1085 (by decide +kernel) (by decide +kernel), fd_in 1086 (by decide +kernel) (by decide +kernel), fd_in 72 (by decide +kernel) (by decide +kernel), fd_in 1087 (by decide +kernel) (by decide +kernel), by decide +kernel, by decide +kernel, by decide +kernel⟩
theorem lk_11_283 : fd_lkV RX11 283 yX11_ahead mX11_ahead 2 := ⟨fd_in 1347 (by decide +kernel) (by decide +kernel), fd_in 1097 (by decide +kernel) (by decide +kernel), fd_in 1098 (by decide +kernel) (by decide +kernel), fd_in 72 (by decide +kernel) (by decide +kernel), fd_in 1099 (by decide +kernel) (by decide +kernel), by decide +kernel, by decide +kernel, by decide +kernel⟩
theorem lk_11_285 : fd_lkV RX11 285 yX11_at mX11_at 2 := ⟨fd_in 1348 (by decide +kernel) (by decide +kernel), fd_in 1101 (by decide +kernel) (by decide +kernel), fd_in 1102 (by decide +kernel) (by decide +kernel), fd_in 72 (by decide +kernel) (by decide +kernel), fd_in 1103 (by decide +kernel) (by decide +kernel), by decide +kernel, by decide +kernel, by decide +kernel⟩
theorem lk_11_288 : fd_lkV RX11 288 yX11_readItem mX11_readItem 0 := ⟨fd_in 1299 (by decide +kernel) (by decide +kernel), fd_in 1301 (by decide +kernel) (by decide +kernel), fd_in 48 (by decide +kernel) (by decide +kernel), fd_in 72 (by decide +kernel) (by decide +kernel), fd_in 1302 (by decide +kernel) (by decide +kernel), by decide +kernel, by decide +kernel, by decide +kernel⟩
theorem lk_11_291 : fd_lkV RX11 291 yX11_keeps mX11_keeps 1 := ⟨fd_in 1327 (by decide +kernel) (by decide +kernel), fd_in 1329 (by decide +kernel) (by decide +kernel), fd_in 52 (by decide +kernel) (by decide +kernel), fd_in 72 (by decide +kernel) (by decide +kernel), fd_in 1330 (by decide +kernel) (by decide +kernel), by decide +kernel, by decide +kernel, by decide +kernel⟩
theorem lk_11_294 : fd_lkV RX11 294 yX11_does mX11_does 1 := ⟨fd_in 1339 (by decide +kernel) (by decide +kernel), fd_in 1341 (by decide +kernel) (by decide +kernel), fd_in 55 (by decide +kernel) (by decide +kernel), fd_in 72 (by decide +kernel) (by decide +kernel), fd_in 1342 (by decide +kernel) (by decide +kernel), by decide +kernel, by decide +kernel, by decide +kernel⟩
theorem lk_11_297 : fd_lkV RX11 297 yX11_goesOn mX11_goesOn 1 := ⟨fd_in 1349 (by decide +kernel) (by decide +kernel), fd_in 1351 (by decide +kernel) (by decide +kernel), fd_in 56 (by decide +kernel) (by decide +kernel), fd_in 72 (by decide +kernel) (by decide +kernel), fd_in 1352 (by decide +kernel) (by decide +kernel), by decide +kernel, by decide +kernel, by decide +kernel⟩
theorem lk_11_300 : fd_lkV RX11 300 yX11_lay mX11_lay 3 := ⟨fd_in 1331 (by decide +kernel) (by decide +kernel), fd_in 1333 (by decide +kernel) (by decide +kernel), fd_in 53 (by decide +kernel) (by decide +kernel), fd_in 72 (by decide +kernel) (by decide +kernel), fd_in 1334 (by decide +kernel) (by decide +kernel), by decide +kernel, by decide +kernel, by decide +kernel⟩
theorem lk_11_304 : fd_lkV RX11 304 yX11_toldAside mX11_toldAside 2 := ⟨fd_in 1335 (by decide +kernel) (by decide +kernel), fd_in 1337 (by decide +kernel) (by decide +kernel), fd_in 54 (by decide +kernel) (by decide +kernel), fd_in 72 (by decide +kernel) (by decide +kernel), fd_in 1338 (by decide +kernel) (by decide +kernel), by decide +kernel, by decide +kernel, by decide +kernel⟩
theorem lk_11_308 : fd_lkV RX11 308 yX11_gives mX11_gives 3 := ⟨fd_in 1353 (by decide +kernel) (by decide +kernel), fd_in 1355 (by decide +kernel) (by decide +kernel), fd_in 57 (by decide +kernel) (by decide +kernel), fd_in 72 (by decide +kernel) (by decide +kernel), fd_in 1356 (by decide +kernel) (by decide +kernel), by decide +kernel, by decide +kernel, by decide +kernel⟩
theorem lk_11_314 : fd_lkV RX11 314 yX11_counts mX11_counts 1 := ⟨fd_in 1378 (by decide +kernel) (by decide +kernel), fd_in 1380 (by decide +kernel) (by decide +kernel), fd_in 58 (by decide +kernel) (by decide +kernel), fd_in 72 (by decide +kernel) (by decide +kernel), fd_in 1381 (by decide +kernel) (by decide +kernel), by decide +kernel, by decide +kernel, by decide +kernel⟩
theorem lk_11_324 : fd_lkV RX11 324 yX11_hashes mX11_hashes 1 := ⟨fd_in 1387 (by decide +kernel) (by decide +kernel), fd_in 1389 (by decide +kernel) (by decide +kernel), fd_in 59 (by decide +kernel) (by decide +kernel), fd_in 72 (by decide +kernel) (by decide +kernel), fd_in 1390 (by decide +kernel) (by decide +kernel), by decide +kernel, by decide +kernel, by decide +kernel⟩
theorem lk_2_50 : fd_lkS RX2 50 yX2_kindOf mX2_kindOf 3 := ⟨fd_in 598 (by decide +kernel) (by decide +kernel), fd_in 599 (by decide +kernel) (by decide +kernel), fd_in 64 (by decide +kernel) (by decide +kernel), fd_in 600 (by decide +kernel) (by decide +kernel), by decide +kernel, by decide +kernel, by decide +kernel⟩
theorem lk_2_54_7 : fd_lkO RX2 54 "ShuffledDays$PlainDay" yX7_canRead yX7_canRead mX7_canRead 0 := ⟨fd_in 601 (by decide +kernel) (by decide +kernel), fd_in 604 (by decide +kernel) (by decide +kernel), fd_in 602 (by decide +kernel) (by decide +kernel), fd_in 603 (by decide +kernel) (by decide +kernel), fd_in 602 (by decide +kernel) (by decide +kernel), fd_in 66 (by decide +kernel) (by decide +kernel), fd_in 612 (by decide +kernel) (by decide +kernel), ⟨cX7_canRead, 1, (some FieldType.boolean), fd_in 612 (by decide +kernel) (by decide +kernel)⟩, by decide +kernel, by decide +kernel, by decide +kernel⟩
theorem lk_2_54_1 : fd_lkO RX2 54 "ShuffledDays$ChildDay" yX7_canRead yX1_canRead mX1_canRead 0 := ⟨fd_in 601 (by decide +kernel) (by decide +kernel), fd_in 604 (by decide +kernel) (by decide +kernel), fd_in 602 (by decide +kernel) (by decide +kernel), fd_in 606 (by decide +kernel) (by decide +kernel), fd_in 607 (by decide +kernel) (by decide +kernel), fd_in 67 (by decide +kernel) (by decide +kernel), fd_in 608 (by decide +kernel) (by decide +kernel), ⟨cX7_canRead, 1, (some FieldType.boolean), fd_in 612 (by decide +kernel) (by decide +kernel)⟩, by decide +kernel, by decide +kernel, by decide +kernel⟩
theorem lk_2_54_4 : fd_lkO RX2 54 "ShuffledDays$IllDay" yX7_canRead yX7_canRead mX7_canRead 0 := ⟨fd_in 601 (by decide +kernel) (by decide +kernel), fd_in 604 (by decide +kernel) (by decide +kernel), fd_in 602 (by decide +kernel) (by decide +kernel), fd_in 610 (by decide +kernel) (by decide +kernel), fd_in 602 (by decide +kernel) (by decide +kernel), fd_in 66 (by decide +kernel) (by decide +kernel), fd_in 612 (by decide +kernel) (by decide +kernel), ⟨cX7_canRead, 1, (some FieldType.boolean), fd_in 612 (by decide +kernel) (by decide +kernel)⟩, by decide +kernel, by decide +kernel, by decide +kernel⟩
theorem lk_2_54_0 : fd_lkO RX2 54 "ShuffledDays$BusyDay" yX7_canRead yX7_canRead mX7_canRead 0 := ⟨fd_in 601 (by decide +kernel) (by decide +kernel), fd_in 604 (by decide +kernel) (by decide +kernel), fd_in 602 (by decide +kernel) (by decide +kernel), fd_in 605 (by decide +kernel) (by decide +kernel), fd_in 602 (by decide +kernel) (by decide +kernel), fd_in 66 (by decide +kernel) (by decide +kernel), fd_in 612 (by decide +kernel) (by decide +kernel), ⟨cX7_canRead, 1, (some FieldType.boolean), fd_in 612 (by decide +kernel) (by decide +kernel)⟩, by decide +kernel, by decide +kernel, by decide +kernel⟩
theorem lk_2_54_8 : fd_lkO RX2 54 "ShuffledDays$SchoolDay" yX7_canRead yX1_canRead mX1_canRead 0 := ⟨fd_in 601 (by decide +kernel) (by decide +kernel), fd_in 604 (by decide +kernel) (by decide +kernel), fd_in 602 (by decide +kernel) (by decide +kernel), fd_in 611 (by decide +kernel) (by decide +kernel), fd_in 607 (by decide +kernel) (by decide +kernel), fd_in 67 (by decide +kernel) (by decide +kernel), fd_in 608 (by decide +kernel) (by decide +kernel), ⟨cX7_canRead, 1, (some FieldType.boolean), fd_in 612 (by decide +kernel) (by decide +kernel)⟩, by decide +kernel, by decide +kernel, by decide +kernel⟩
theorem lk_2_54_3 : fd_lkO RX2 54 "ShuffledDays$DreamDay" yX7_canRead yX7_canRead mX7_canRead 0 := ⟨fd_in 601 (by decide +kernel) (by decide +kernel), fd_in 604 (by decide +kernel) (by decide +kernel), fd_in 602 (by decide +kernel) (by decide +kernel), fd_in 609 (by decide +kernel) (by decide +kernel), fd_in 602 (by decide +kernel) (by decide +kernel), fd_in 66 (by decide +kernel) (by decide +kernel), fd_in 612 (by decide +kernel) (by decide +kernel), ⟨cX7_canRead, 1, (some FieldType.boolean), fd_in 612 (by decide +kernel) (by decide +kernel)⟩, by decide +kernel, by decide +kernel, by decide +kernel⟩
theorem lk_2_60_7 : fd_lkO RX2 60 "ShuffledDays$PlainDay" yX7_canWrite yX7_canWrite mX7_canWrite 0 := ⟨fd_in 613 (by decide +kernel) (by decide +kernel), fd_in 616 (by decide +kernel) (by decide +kernel), fd_in 614 (by decide +kernel) (by decide +kernel), fd_in 615 (by decide +kernel) (by decide +kernel), fd_in 614 (by decide +kernel) (by decide +kernel), fd_in 66 (by decide +kernel) (by decide +kernel), fd_in 626 (by decide +kernel) (by decide +kernel), ⟨cX7_canWrite, 1, (some FieldType.boolean), fd_in 626 (by decide +kernel) (by decide +kernel)⟩, by decide +kernel, by decide +kernel, by decide +kernel⟩
theorem lk_2_60_1 : fd_lkO RX2 60 "ShuffledDays$ChildDay" yX7_canWrite yX7_canWrite mX7_canWrite 0 := ⟨fd_in 613 (by decide +kernel) (by decide +kernel), fd_in 616 (by decide +kernel) (by decide +kernel), fd_in 614 (by decide +kernel) (by decide +kernel), fd_in 620 (by decide +kernel) (by decide +kernel), fd_in 614 (by decide +kernel) (by decide +kernel), fd_in 66 (by decide +kernel) (by decide +kernel), fd_in 626 (by decide +kernel) (by decide +kernel), ⟨cX7_canWrite, 1, (some FieldType.boolean), fd_in 626 (by decide +kernel) (by decide +kernel)⟩, by decide +kernel, by decide +kernel, by decide +kernel⟩
theorem lk_2_60_4 : fd_lkO RX2 60 "ShuffledDays$IllDay" yX7_canWrite yX7_canWrite mX7_canWrite 0 := ⟨fd_in 613 (by decide +kernel) (by decide +kernel), fd_in 616 (by decide +kernel) (by decide +kernel), fd_in 614 (by decide +kernel) (by decide +kernel), fd_in 624 (by decide +kernel) (by decide +kernel), fd_in 614 (by decide +kernel) (by decide +kernel), fd_in 66 (by decide +kernel) (by decide +kernel), fd_in 626 (by decide +kernel) (by decide +kernel), ⟨cX7_canWrite, 1, (some FieldType.boolean), fd_in 626 (by decide +kernel) (by decide +kernel)⟩, by decide +kernel, by decide +kernel, by decide +kernel⟩
theorem lk_2_60_0 : fd_lkO RX2 60 "ShuffledDays$BusyDay" yX7_canWrite yX0_canWrite mX0_canWrite 0 := ⟨fd_in 613 (by decide +kernel) (by decide +kernel), fd_in 616 (by decide +kernel) (by decide +kernel), fd_in 614 (by decide +kernel) (by decide +kernel), fd_in 617 (by decide +kernel) (by decide +kernel), fd_in 618 (by decide +kernel) (by decide +kernel), fd_in 69 (by decide +kernel) (by decide +kernel), fd_in 619 (by decide +kernel) (by decide +kernel), ⟨cX7_canWrite, 1, (some FieldType.boolean), fd_in 626 (by decide +kernel) (by decide +kernel)⟩, by decide +kernel, by decide +kernel, by decide +kernel⟩
theorem lk_2_60_8 : fd_lkO RX2 60 "ShuffledDays$SchoolDay" yX7_canWrite yX7_canWrite mX7_canWrite 0 := ⟨fd_in 613 (by decide +kernel) (by decide +kernel), fd_in 616 (by decide +kernel) (by decide +kernel), fd_in 614 (by decide +kernel) (by decide +kernel), fd_in 625 (by decide +kernel) (by decide +kernel), fd_in 614 (by decide +kernel) (by decide +kernel), fd_in 66 (by decide +kernel) (by decide +kernel), fd_in 626 (by decide +kernel) (by decide +kernel), ⟨cX7_canWrite, 1, (some FieldType.boolean), fd_in 626 (by decide +kernel) (by decide +kernel)⟩, by decide +kernel, by decide +kernel, by decide +kernel⟩
theorem lk_2_60_3 : fd_lkO RX2 60 "ShuffledDays$DreamDay" yX7_canWrite yX3_canWrite mX3_canWrite 0 := ⟨fd_in 613 (by decide +kernel) (by decide +kernel), fd_in 616 (by decide +kernel) (by decide +kernel), fd_in 614 (by decide +kernel) (by decide +kernel), fd_in 621 (by decide +kernel) (by decide +kernel), fd_in 622 (by decide +kernel) (by decide +kernel), fd_in 71 (by decide +kernel) (by decide +kernel), fd_in 623 (by decide +kernel) (by decide +kernel), ⟨cX7_canWrite, 1, (some FieldType.boolean), fd_in 626 (by decide +kernel) (by decide +kernel)⟩, by decide +kernel, by decide +kernel, by decide +kernel⟩
theorem lk_2_69_7 : fd_lkO RX2 69 "ShuffledDays$PlainDay" yX7_learntOf yX7_learntOf mX7_learntOf 2 := ⟨fd_in 627 (by decide +kernel) (by decide +kernel), fd_in 630 (by decide +kernel) (by decide +kernel), fd_in 628 (by decide +kernel) (by decide +kernel), fd_in 629 (by decide +kernel) (by decide +kernel), fd_in 628 (by decide +kernel) (by decide +kernel), fd_in 66 (by decide +kernel) (by decide +kernel), fd_in 640 (by decide +kernel) (by decide +kernel), ⟨cX7_learntOf, 3, (some FieldType.int), fd_in 640 (by decide +kernel) (by decide +kernel)⟩, by decide +kernel, by decide +kernel, by decide +kernel⟩
theorem lk_2_69_1 : fd_lkO RX2 69 "ShuffledDays$ChildDay" yX7_learntOf yX7_learntOf mX7_learntOf 2 := ⟨fd_in 627 (by decide +kernel) (by decide +kernel), fd_in 630 (by decide +kernel) (by decide +kernel), fd_in 628 (by decide +kernel) (by decide +kernel), fd_in 632 (by decide +kernel) (by decide +kernel), fd_in 628 (by decide +kernel) (by decide +kernel), fd_in 66 (by decide +kernel) (by decide +kernel), fd_in 640 (by decide +kernel) (by decide +kernel), ⟨cX7_learntOf, 3, (some FieldType.int), fd_in 640 (by decide +kernel) (by decide +kernel)⟩, by decide +kernel, by decide +kernel, by decide +kernel⟩
theorem lk_2_69_4 : fd_lkO RX2 69 "ShuffledDays$IllDay" yX7_learntOf yX4_learntOf mX4_learntOf 2 := ⟨fd_in 627 (by decide +kernel) (by decide +kernel), fd_in 630 (by decide +kernel) (by decide +kernel), fd_in 628 (by decide +kernel) (by decide +kernel), fd_in 636 (by decide +kernel) (by decide +kernel), fd_in 634 (by decide +kernel) (by decide +kernel), fd_in 68 (by decide +kernel) (by decide +kernel), fd_in 635 (by decide +kernel) (by decide +kernel), ⟨cX7_learntOf, 3, (some FieldType.int), fd_in 640 (by decide +kernel) (by decide +kernel)⟩, by decide +kernel, by decide +kernel, by decide +kernel⟩
theorem lk_2_69_0 : fd_lkO RX2 69 "ShuffledDays$BusyDay" yX7_learntOf yX7_learntOf mX7_learntOf 2 := ⟨fd_in 627 (by decide +kernel) (by decide +kernel), fd_in 630 (by decide +kernel) (by decide +kernel), fd_in 628 (by decide +kernel) (by decide +kernel), fd_in 631 (by decide +kernel) (by decide +kernel), fd_in 628 (by decide +kernel) (by decide +kernel), fd_in 66 (by decide +kernel) (by decide +kernel), fd_in 640 (by decide +kernel) (by decide +kernel), ⟨cX7_learntOf, 3, (some FieldType.int), fd_in 640 (by decide +kernel) (by decide +kernel)⟩, by decide +kernel, by decide +kernel, by decide +kernel⟩
theorem lk_2_69_8 : fd_lkO RX2 69 "ShuffledDays$SchoolDay" yX7_learntOf yX8_learntOf mX8_learntOf 2 := ⟨fd_in 627 (by decide +kernel) (by decide +kernel), fd_in 630 (by decide +kernel) (by decide +kernel), fd_in 628 (by decide +kernel) (by decide +kernel), fd_in 637 (by decide +kernel) (by decide +kernel), fd_in 638 (by decide +kernel) (by decide +kernel), fd_in 70 (by decide +kernel) (by decide +kernel), fd_in 639 (by decide +kernel) (by decide +kernel), ⟨cX7_learntOf, 3, (some FieldType.int), fd_in 640 (by decide +kernel) (by decide +kernel)⟩, by decide +kernel, by decide +kernel, by decide +kernel⟩
theorem lk_2_69_3 : fd_lkO RX2 69 "ShuffledDays$DreamDay" yX7_learntOf yX4_learntOf mX4_learntOf 2 := ⟨fd_in 627 (by decide +kernel) (by decide +kernel), fd_in 630 (by decide +kernel) (by decide +kernel), fd_in 628 (by decide +kernel) (by decide +kernel), fd_in 633 (by decide +kernel) (by decide +kernel), fd_in 634 (by decide +kernel) (by decide +kernel), fd_in 68 (by decide +kernel) (by decide +kernel), fd_in 635 (by decide +kernel) (by decide +kernel), ⟨cX7_learntOf, 3, (some FieldType.int), fd_in 640 (by decide +kernel) (by decide +kernel)⟩, by decide +kernel, by decide +kernel, by decide +kernel⟩
theorem lk_2_73_7 : fd_lkO RX2 73 "ShuffledDays$PlainDay" yX7_neededOf yX7_neededOf mX7_neededOf 1 := ⟨fd_in 641 (by decide +kernel) (by decide +kernel), fd_in 644 (by decide +kernel) (by decide +kernel), fd_in 642 (by decide +kernel) (by decide +kernel), fd_in 643 (by decide +kernel) (by decide +kernel), fd_in 642 (by decide +kernel) (by decide +kernel), fd_in 66 (by decide +kernel) (by decide +kernel), fd_in 652 (by decide +kernel) (by decide +kernel), ⟨cX7_neededOf, 2, (some FieldType.int), fd_in 652 (by decide +kernel) (by decide +kernel)⟩, by decide +kernel, by decide +kernel, by decide +kernel⟩
theorem lk_2_73_1 : fd_lkO RX2 73 "ShuffledDays$ChildDay" yX7_neededOf yX7_neededOf mX7_neededOf 1 := ⟨fd_in 641 (by decide +kernel) (by decide +kernel), fd_in 644 (by decide +kernel) (by decide +kernel), fd_in 642 (by decide +kernel) (by decide +kernel), fd_in 646 (by decide +kernel) (by decide +kernel), fd_in 642 (by decide +kernel) (by decide +kernel), fd_in 66 (by decide +kernel) (by decide +kernel), fd_in 652 (by decide +kernel) (by decide +kernel), ⟨cX7_neededOf, 2, (some FieldType.int), fd_in 652 (by decide +kernel) (by decide +kernel)⟩, by decide +kernel, by decide +kernel, by decide +kernel⟩
theorem lk_2_73_4 : fd_lkO RX2 73 "ShuffledDays$IllDay" yX7_neededOf yX7_neededOf mX7_neededOf 1 := ⟨fd_in 641 (by decide +kernel) (by decide +kernel), fd_in 644 (by decide +kernel) (by decide +kernel), fd_in 642 (by decide +kernel) (by decide +kernel), fd_in 650 (by decide +kernel) (by decide +kernel), fd_in 642 (by decide +kernel) (by decide +kernel), fd_in 66 (by decide +kernel) (by decide +kernel), fd_in 652 (by decide +kernel) (by decide +kernel), ⟨cX7_neededOf, 2, (some FieldType.int), fd_in 652 (by decide +kernel) (by decide +kernel)⟩, by decide +kernel, by decide +kernel, by decide +kernel⟩
theorem lk_2_73_0 : fd_lkO RX2 73 "ShuffledDays$BusyDay" yX7_neededOf yX7_neededOf mX7_neededOf 1 := ⟨fd_in 641 (by decide +kernel) (by decide +kernel), fd_in 644 (by decide +kernel) (by decide +kernel), fd_in 642 (by decide +kernel) (by decide +kernel), fd_in 645 (by decide +kernel) (by decide +kernel), fd_in 642 (by decide +kernel) (by decide +kernel), fd_in 66 (by decide +kernel) (by decide +kernel), fd_in 652 (by decide +kernel) (by decide +kernel), ⟨cX7_neededOf, 2, (some FieldType.int), fd_in 652 (by decide +kernel) (by decide +kernel)⟩, by decide +kernel, by decide +kernel, by decide +kernel⟩
theorem lk_2_73_8 : fd_lkO RX2 73 "ShuffledDays$SchoolDay" yX7_neededOf yX7_neededOf mX7_neededOf 1 := ⟨fd_in 641 (by decide +kernel) (by decide +kernel), fd_in 644 (by decide +kernel) (by decide +kernel), fd_in 642 (by decide +kernel) (by decide +kernel), fd_in 651 (by decide +kernel) (by decide +kernel), fd_in 642 (by decide +kernel) (by decide +kernel), fd_in 66 (by decide +kernel) (by decide +kernel), fd_in 652 (by decide +kernel) (by decide +kernel), ⟨cX7_neededOf, 2, (some FieldType.int), fd_in 652 (by decide +kernel) (by decide +kernel)⟩, by decide +kernel, by decide +kernel, by decide +kernel⟩
theorem lk_2_73_3 : fd_lkO RX2 73 "ShuffledDays$DreamDay" yX7_neededOf yX3_neededOf mX3_neededOf 1 := ⟨fd_in 641 (by decide +kernel) (by decide +kernel), fd_in 644 (by decide +kernel) (by decide +kernel), fd_in 642 (by decide +kernel) (by decide +kernel), fd_in 647 (by decide +kernel) (by decide +kernel), fd_in 648 (by decide +kernel) (by decide +kernel), fd_in 71 (by decide +kernel) (by decide +kernel), fd_in 649 (by decide +kernel) (by decide +kernel), ⟨cX7_neededOf, 2, (some FieldType.int), fd_in 652 (by decide +kernel) (by decide +kernel)⟩, by decide +kernel, by decide +kernel, by decide +kernel⟩
theorem lk_2_77 : fd_lkV RX2 77 yX5_notedOn mX5_notedOn 1 := ⟨fd_in 653 (by decide +kernel) (by decide +kernel), fd_in 405 (by decide +kernel) (by decide +kernel), fd_in 406 (by decide +kernel) (by decide +kernel), fd_in 62 (by decide +kernel) (by decide +kernel), fd_in 407 (by decide +kernel) (by decide +kernel), by decide +kernel, by decide +kernel, by decide +kernel⟩
theorem lk_2_86 : fd_lkV RX2 86 yX2_placeDays mX2_placeDays 0 := ⟨fd_in 659 (by decide +kernel) (by decide +kernel), fd_in 661 (by decide +kernel) (by decide +kernel), fd_in 10 (by decide +kernel) (by decide +kernel), fd_in 64 (by decide +kernel) (by decide +kernel), fd_in 662 (by decide +kernel) (by decide +kernel), by decide +kernel, by decide +kernel, by decide +kernel⟩
theorem lk_2_89 : fd_lkV RX2 89 yX2_swap mX2_swap 2 := ⟨fd_in 725 (by decide +kernel) (by decide +kernel), fd_in 727 (by decide +kernel) (by decide +kernel), fd_in 13 (by decide +kernel) (by decide +kernel), fd_in 64 (by decide +kernel) (by decide +kernel), fd_in 728 (by decide +kernel) (by decide +kernel), by decide +kernel, by decide +kernel, by decide +kernel⟩
theorem lk_2_93 : fd_lkV RX2 93 yX2_readByDate mX2_readByDate 1 := ⟨fd_in 667 (by decide +kernel) (by decide +kernel), fd_in 668 (by decide +kernel) (by decide +kernel), fd_in 669 (by decide +kernel) (by decide +kernel), fd_in 64 (by decide +kernel) (by decide +kernel), fd_in 670 (by decide +kernel) (by decide +kernel), by decide +kernel, by decide +kernel, by decide +kernel⟩
theorem lk_2_97 : fd_lkV RX2 97 yX2_lacking mX2_lacking 1 := ⟨fd_in 695 (by decide +kernel) (by decide +kernel), fd_in 684 (by decide +kernel) (by decide +kernel), fd_in 685 (by decide +kernel) (by decide +kernel), fd_in 64 (by decide +kernel) (by decide +kernel), fd_in 686 (by decide +kernel) (by decide +kernel), by decide +kernel, by decide +kernel, by decide +kernel⟩
theorem lk_5_42 : fd_lkV RX5 42 yX5_startAnew mX5_startAnew 1 := ⟨fd_in 95 (by decide +kernel) (by decide +kernel), fd_in 96 (by decide +kernel) (by decide +kernel), fd_in 97 (by decide +kernel) (by decide +kernel), fd_in 62 (by decide +kernel) (by decide +kernel), fd_in 98 (by decide +kernel) (by decide +kernel), by decide +kernel, by decide +kernel, by decide +kernel⟩
theorem lk_5_77 : fd_lkV RX5 77 yX5_orders mX5_orders 0 := ⟨fd_in 456 (by decide +kernel) (by decide +kernel), fd_in 457 (by decide +kernel) (by decide +kernel), fd_in 458 (by decide +kernel) (by decide +kernel), fd_in 62 (by decide +kernel) (by decide +kernel), fd_in 459 (by decide +kernel) (by decide +kernel), by decide +kernel, by decide +kernel, by decide +kernel⟩
theorem lk_5_81 : fd_lkV RX5 81 yX5_hasDay mX5_hasDay 1 := ⟨fd_in 381 (by decide +kernel) (by decide +kernel), fd_in 382 (by decide +kernel) (by decide +kernel), fd_in 383 (by decide +kernel) (by decide +kernel), fd_in 62 (by decide +kernel) (by decide +kernel), fd_in 384 (by decide +kernel) (by decide +kernel), by decide +kernel, by decide +kernel, by decide +kernel⟩
-- nest .methodLink "ShuffledDays$Life" 85 ⟨"ShuffledDays", "isFact", "(I)Z"⟩
theorem lk_5_88 : fd_lkV RX5 88 yX5_notedOn mX5_notedOn 1 := ⟨fd_in 404 (by decide +kernel) (by decide +kernel), fd_in 405 (by decide +kernel) (by decide +kernel), fd_in 406 (by decide +kernel) (by decide +kernel), fd_in 62 (by decide +kernel) (by decide +kernel), fd_in 407 (by decide +kernel) (by decide +kernel), by decide +kernel, by decide +kernel, by decide +kernel⟩
theorem lk_5_92 : fd_lkV RX5 92 yX5_hasRank mX5_hasRank 1 := ⟨fd_in 452 (by decide +kernel) (by decide +kernel), fd_in 453 (by decide +kernel) (by decide +kernel), fd_in 454 (by decide +kernel) (by decide +kernel), fd_in 62 (by decide +kernel) (by decide +kernel), fd_in 455 (by decide +kernel) (by decide +kernel), by decide +kernel, by decide +kernel, by decide +kernel⟩
theorem lk_5_95 : fd_lkV RX5 95 yX5_countOfRow mX5_countOfRow 1 := ⟨fd_in 436 (by decide +kernel) (by decide +kernel), fd_in 437 (by decide +kernel) (by decide +kernel), fd_in 438 (by decide +kernel) (by decide +kernel), fd_in 62 (by decide +kernel) (by decide +kernel), fd_in 439 (by decide +kernel) (by decide +kernel), by decide +kernel, by decide +kernel, by decide +kernel⟩
theorem lk_5_98 : fd_lkV RX5 98 yX5_tellDays mX5_tellDays 1 := ⟨fd_in 579 (by decide +kernel) (by decide +kernel), fd_in 366 (by decide +kernel) (by decide +kernel), fd_in 367 (by decide +kernel) (by decide +kernel), fd_in 62 (by decide +kernel) (by decide +kernel), fd_in 368 (by decide +kernel) (by decide +kernel), by decide +kernel, by decide +kernel, by decide +kernel⟩
theorem lk_5_101 : fd_lkV RX5 101 yX5_tellKind mX5_tellKind 2 := ⟨fd_in 580 (by decide +kernel) (by decide +kernel), fd_in 378 (by decide +kernel) (by decide +kernel), fd_in 379 (by decide +kernel) (by decide +kernel), fd_in 62 (by decide +kernel) (by decide +kernel), fd_in 380 (by decide +kernel) (by decide +kernel), by decide +kernel, by decide +kernel, by decide +kernel⟩
theorem lk_5_105 : fd_lkV RX5 105 yX5_tellFact mX5_tellFact 4 := ⟨fd_in 581 (by decide +kernel) (by decide +kernel), fd_in 390 (by decide +kernel) (by decide +kernel), fd_in 391 (by decide +kernel) (by decide +kernel), fd_in 62 (by decide +kernel) (by decide +kernel), fd_in 392 (by decide +kernel) (by decide +kernel), by decide +kernel, by decide +kernel, by decide +kernel⟩
theorem lk_5_109 : fd_lkV RX5 109 yX5_tellNote mX5_tellNote 2 := ⟨fd_in 582 (by decide +kernel) (by decide +kernel), fd_in 401 (by decide +kernel) (by decide +kernel), fd_in 402 (by decide +kernel) (by decide +kernel), fd_in 62 (by decide +kernel) (by decide +kernel), fd_in 403 (by decide +kernel) (by decide +kernel), by decide +kernel, by decide +kernel, by decide +kernel⟩
theorem lk_5_112 : fd_lkV RX5 112 yX5_tellPair mX5_tellPair 2 := ⟨fd_in 583 (by decide +kernel) (by decide +kernel), fd_in 413 (by decide +kernel) (by decide +kernel), fd_in 414 (by decide +kernel) (by decide +kernel), fd_in 62 (by decide +kernel) (by decide +kernel), fd_in 415 (by decide +kernel) (by decide +kernel), by decide +kernel, by decide +kernel, by decide +kernel⟩
theorem lk_5_115 : fd_lkV RX5 115 yX5_tellPlace mX5_tellPlace 2 := ⟨fd_in 584 (by decide +kernel) (by decide +kernel), fd_in 421 (by decide +kernel) (by decide +kernel), fd_in 422 (by decide +kernel) (by decide +kernel), fd_in 62 (by decide +kernel) (by decide +kernel), fd_in 423 (by decide +kernel) (by decide +kernel), by decide +kernel, by decide +kernel, by decide +kernel⟩
theorem lk_5_118 : fd_lkV RX5 118 yX5_toldInDiary mX5_toldInDiary 0 := ⟨fd_in 440 (by decide +kernel) (by decide +kernel), fd_in 441 (by decide +kernel) (by decide +kernel), fd_in 442 (by decide +kernel) (by decide +kernel), fd_in 62 (by decide +kernel) (by decide +kernel), fd_in 443 (by decide +kernel) (by decide +kernel), by decide +kernel, by decide +kernel, by decide +kernel⟩
theorem lk_6_16 : fd_lkV RX6 16 yX6_keepRows mX6_keepRows 2 := ⟨fd_in 753 (by decide +kernel) (by decide +kernel), fd_in 755 (by decide +kernel) (by decide +kernel), fd_in 14 (by decide +kernel) (by decide +kernel), fd_in 65 (by decide +kernel) (by decide +kernel), fd_in 756 (by decide +kernel) (by decide +kernel), by decide +kernel, by decide +kernel, by decide +kernel⟩
theorem lk_6_30 : fd_lkV RX6 30 yX6_allWell mX6_allWell 1 := ⟨fd_in 760 (by decide +kernel) (by decide +kernel), fd_in 762 (by decide +kernel) (by decide +kernel), fd_in 15 (by decide +kernel) (by decide +kernel), fd_in 65 (by decide +kernel) (by decide +kernel), fd_in 763 (by decide +kernel) (by decide +kernel), by decide +kernel, by decide +kernel, by decide +kernel⟩
theorem lk_6_39 : fd_lkV RX6 39 yX6_findOne mX6_findOne 1 := ⟨fd_in 766 (by decide +kernel) (by decide +kernel), fd_in 768 (by decide +kernel) (by decide +kernel), fd_in 16 (by decide +kernel) (by decide +kernel), fd_in 65 (by decide +kernel) (by decide +kernel), fd_in 769 (by decide +kernel) (by decide +kernel), by decide +kernel, by decide +kernel, by decide +kernel⟩
theorem lk_6_42 : fd_lkV RX6 42 yX6_findTwo mX6_findTwo 1 := ⟨fd_in 777 (by decide +kernel) (by decide +kernel), fd_in 779 (by decide +kernel) (by decide +kernel), fd_in 18 (by decide +kernel) (by decide +kernel), fd_in 65 (by decide +kernel) (by decide +kernel), fd_in 780 (by decide +kernel) (by decide +kernel), by decide +kernel, by decide +kernel, by decide +kernel⟩
theorem lk_6_63 : fd_lkV RX6 63 yX2_goTo mX2_goTo 1 := ⟨fd_in 758 (by decide +kernel) (by decide +kernel), fd_in 655 (by decide +kernel) (by decide +kernel), fd_in 656 (by decide +kernel) (by decide +kernel), fd_in 64 (by decide +kernel) (by decide +kernel), fd_in 657 (by decide +kernel) (by decide +kernel), by decide +kernel, by decide +kernel, by decide +kernel⟩
theorem lk_6_67 : fd_lkV RX6 67 yX2_liveThrough mX2_liveThrough 0 := ⟨fd_in 759 (by decide +kernel) (by decide +kernel), fd_in 664 (by decide +kernel) (by decide +kernel), fd_in 665 (by decide +kernel) (by decide +kernel), fd_in 64 (by decide +kernel) (by decide +kernel), fd_in 666 (by decide +kernel) (by decide +kernel), by decide +kernel, by decide +kernel, by decide +kernel⟩
theorem lk_6_73 : fd_lkV RX6 73 yX2_readByDate mX2_readByDate 1 := ⟨fd_in 764 (by decide +kernel) (by decide +kernel), fd_in 668 (by decide +kernel) (by decide +kernel), fd_in 669 (by decide +kernel) (by decide +kernel), fd_in 64 (by decide +kernel) (by decide +kernel), fd_in 670 (by decide +kernel) (by decide +kernel), by decide +kernel, by decide +kernel, by decide +kernel⟩
theorem lk_6_80 : fd_lkV RX6 80 yX2_wellAmong mX2_wellAmong 1 := ⟨fd_in 765 (by decide +kernel) (by decide +kernel), fd_in 697 (by decide +kernel) (by decide +kernel), fd_in 698 (by decide +kernel) (by decide +kernel), fd_in 64 (by decide +kernel) (by decide +kernel), fd_in 699 (by decide +kernel) (by decide +kernel), by decide +kernel, by decide +kernel, by decide +kernel⟩
theorem lk_6_84 : fd_lkV RX6 84 yX6_wellWith mX6_wellWith 3 := ⟨fd_in 770 (by decide +kernel) (by decide +kernel), fd_in 772 (by decide +kernel) (by decide +kernel), fd_in 17 (by decide +kernel) (by decide +kernel), fd_in 65 (by decide +kernel) (by decide +kernel), fd_in 773 (by decide +kernel) (by decide +kernel), by decide +kernel, by decide +kernel, by decide +kernel⟩
theorem lk_6_88 : fd_lkS RX6 88 yX6_named mX6_named 1 := ⟨fd_in 774 (by decide +kernel) (by decide +kernel), fd_in 775 (by decide +kernel) (by decide +kernel), fd_in 65 (by decide +kernel) (by decide +kernel), fd_in 776 (by decide +kernel) (by decide +kernel), by decide +kernel, by decide +kernel, by decide +kernel⟩
theorem lk_9_29 : fd_lkV RX9 29 yX9_nextToken mX9_nextToken 0 := ⟨fd_in 482 (by decide +kernel) (by decide +kernel), fd_in 484 (by decide +kernel) (by decide +kernel), fd_in 2 (by decide +kernel) (by decide +kernel), fd_in 63 (by decide +kernel) (by decide +kernel), fd_in 485 (by decide +kernel) (by decide +kernel), by decide +kernel, by decide +kernel, by decide +kernel⟩
theorem lk_9_35 : fd_lkV RX9 35 yX9_takeItem mX9_takeItem 0 := ⟨fd_in 564 (by decide +kernel) (by decide +kernel), fd_in 566 (by decide +kernel) (by decide +kernel), fd_in 8 (by decide +kernel) (by decide +kernel), fd_in 63 (by decide +kernel) (by decide +kernel), fd_in 567 (by decide +kernel) (by decide +kernel), by decide +kernel, by decide +kernel, by decide +kernel⟩
theorem lk_9_45 : fd_lkV RX9 45 yX9_isLetter mX9_isLetter 1 := ⟨fd_in 486 (by decide +kernel) (by decide +kernel), fd_in 488 (by decide +kernel) (by decide +kernel), fd_in 3 (by decide +kernel) (by decide +kernel), fd_in 63 (by decide +kernel) (by decide +kernel), fd_in 489 (by decide +kernel) (by decide +kernel), by decide +kernel, by decide +kernel, by decide +kernel⟩
theorem lk_9_49 : fd_lkV RX9 49 yX9_passLetters mX9_passLetters 0 := ⟨fd_in 490 (by decide +kernel) (by decide +kernel), fd_in 492 (by decide +kernel) (by decide +kernel), fd_in 4 (by decide +kernel) (by decide +kernel), fd_in 63 (by decide +kernel) (by decide +kernel), fd_in 493 (by decide +kernel) (by decide +kernel), by decide +kernel, by decide +kernel, by decide +kernel⟩
theorem lk_9_52 : fd_lkV RX9 52 yX9_isFigure mX9_isFigure 1 := ⟨fd_in 556 (by decide +kernel) (by decide +kernel), fd_in 558 (by decide +kernel) (by decide +kernel), fd_in 6 (by decide +kernel) (by decide +kernel), fd_in 63 (by decide +kernel) (by decide +kernel), fd_in 559 (by decide +kernel) (by decide +kernel), by decide +kernel, by decide +kernel, by decide +kernel⟩
theorem lk_9_55 : fd_lkV RX9 55 yX9_passFigures mX9_passFigures 0 := ⟨fd_in 560 (by decide +kernel) (by decide +kernel), fd_in 562 (by decide +kernel) (by decide +kernel), fd_in 7 (by decide +kernel) (by decide +kernel), fd_in 63 (by decide +kernel) (by decide +kernel), fd_in 563 (by decide +kernel) (by decide +kernel), by decide +kernel, by decide +kernel, by decide +kernel⟩
theorem lk_9_58 : fd_lkS RX9 58 yX9_word mX9_word 1 := ⟨fd_in 494 (by decide +kernel) (by decide +kernel), fd_in 495 (by decide +kernel) (by decide +kernel), fd_in 63 (by decide +kernel) (by decide +kernel), fd_in 496 (by decide +kernel) (by decide +kernel), by decide +kernel, by decide +kernel, by decide +kernel⟩
theorem lk_9_62 : fd_lkV RX9 62 yX9_spells mX9_spells 1 := ⟨fd_in 504 (by decide +kernel) (by decide +kernel), fd_in 506 (by decide +kernel) (by decide +kernel), fd_in 5 (by decide +kernel) (by decide +kernel), fd_in 63 (by decide +kernel) (by decide +kernel), fd_in 507 (by decide +kernel) (by decide +kernel), by decide +kernel, by decide +kernel, by decide +kernel⟩
theorem lk_9_66 : fd_lkV RX9 66 yJ0_length_8abf5 mJ0_length_8abf5 0 := ⟨fd_in 508 (by decide +kernel) (by decide +kernel), fd_in 509 (by decide +kernel) (by decide +kernel), fd_in 510 (by decide +kernel) (by decide +kernel), fd_in 73 (by decide +kernel) (by decide +kernel), fd_in 511 (by decide +kernel) (by decide +kernel), by decide +kernel, by decide +kernel, by decide +kernel⟩
theorem lk_9_71 : fd_lkV RX9 71 yJ0_charAt_5068e mJ0_charAt_5068e 1 := ⟨fd_in 518 (by decide +kernel) (by decide +kernel), fd_in 519 (by decide +kernel) (by decide +kernel), fd_in 520 (by decide +kernel) (by decide +kernel), fd_in 73 (by decide +kernel) (by decide +kernel), fd_in 521 (by decide +kernel) (by decide +kernel), by decide +kernel, by decide +kernel, by decide +kernel⟩
theorem lk_RJ0_335 : fd_lkV RJ0 335 yJ0_coder_7d493 mJ0_coder_7d493 0 := ⟨fd_in 512 (by decide +kernel) (by decide +kernel), fd_in 513 (by decide +kernel) (by decide +kernel), fd_in 514 (by decide +kernel) (by decide +kernel), fd_in 73 (by decide +kernel) (by decide +kernel), fd_in 515 (by decide +kernel) (by decide +kernel), by decide +kernel, by decide +kernel, by decide +kernel⟩
theorem lk_RJ0_492 : fd_lkV RJ0 492 yJ0_isLatin1_aae02 mJ0_isLatin1_aae02 0 := ⟨fd_in 522 (by decide +kernel) (by decide +kernel), fd_in 523 (by decide +kernel) (by decide +kernel), fd_in 524 (by decide +kernel) (by decide +kernel), fd_in 73 (by decide +kernel) (by decide +kernel), fd_in 525 (by decide +kernel) (by decide +kernel), by decide +kernel, by decide +kernel, by decide +kernel⟩
theorem lk_RJ0_495 : fd_lkS RJ0 495 yJ1_charAt_3b067 mJ1_charAt_3b067 2 := ⟨fd_in 526 (by decide +kernel) (by decide +kernel), fd_in 527 (by decide +kernel) (by decide +kernel), fd_in 74 (by decide +kernel) (by decide +kernel), fd_in 528 (by decide +kernel) (by decide +kernel), by decide +kernel, by decide +kernel, by decide +kernel⟩
theorem lk_RJ0_498 : fd_lkS RJ0 498 yJ2_charAt_3b067 mJ2_charAt_3b067 2 := ⟨fd_in 537 (by decide +kernel) (by decide +kernel), fd_in 538 (by decide +kernel) (by decide +kernel), fd_in 76 (by decide +kernel) (by decide +kernel), fd_in 539 (by decide +kernel) (by decide +kernel), by decide +kernel, by decide +kernel, by decide +kernel⟩
theorem lk_RJ0_1059 : fd_lkS RJ0 1059 yJ3_checkIndex_8e157 mJ3_checkIndex_8e157 3 := ⟨fd_in 534 (by decide +kernel) (by decide +kernel), fd_in 535 (by decide +kernel) (by decide +kernel), fd_in 75 (by decide +kernel) (by decide +kernel), fd_in 536 (by decide +kernel) (by decide +kernel), by decide +kernel, by decide +kernel, by decide +kernel⟩
theorem lk_RJ1_9 : fd_lkS RJ1 9 yJ0_checkIndex_df160 mJ0_checkIndex_df160 2 := ⟨fd_in 529 (by decide +kernel) (by decide +kernel), fd_in 530 (by decide +kernel) (by decide +kernel), fd_in 73 (by decide +kernel) (by decide +kernel), fd_in 531 (by decide +kernel) (by decide +kernel), by decide +kernel, by decide +kernel, by decide +kernel⟩
theorem lk_RJ2_48 : fd_lkS RJ2 48 yJ2_length_9d52b mJ2_length_9d52b 1 := ⟨fd_in 543 (by decide +kernel) (by decide +kernel), fd_in 544 (by decide +kernel) (by decide +kernel), fd_in 76 (by decide +kernel) (by decide +kernel), fd_in 545 (by decide +kernel) (by decide +kernel), by decide +kernel, by decide +kernel, by decide +kernel⟩
theorem lk_RJ2_67 : fd_lkS RJ2 67 yJ2_checkIndex_2214a mJ2_checkIndex_2214a 2 := ⟨fd_in 540 (by decide +kernel) (by decide +kernel), fd_in 541 (by decide +kernel) (by decide +kernel), fd_in 76 (by decide +kernel) (by decide +kernel), fd_in 542 (by decide +kernel) (by decide +kernel), by decide +kernel, by decide +kernel, by decide +kernel⟩
theorem lk_RJ2_71 : fd_lkS RJ2 71 yJ2_getChar_3b067 mJ2_getChar_3b067 2 := ⟨fd_in 547 (by decide +kernel) (by decide +kernel), fd_in 548 (by decide +kernel) (by decide +kernel), fd_in 76 (by decide +kernel) (by decide +kernel), fd_in 549 (by decide +kernel) (by decide +kernel), by decide +kernel, by decide +kernel, by decide +kernel⟩
theorem lk_RJ2_414 : fd_lkS RJ2 414 yJ0_checkIndex_df160 mJ0_checkIndex_df160 2 := ⟨fd_in 546 (by decide +kernel) (by decide +kernel), fd_in 530 (by decide +kernel) (by decide +kernel), fd_in 73 (by decide +kernel) (by decide +kernel), fd_in 531 (by decide +kernel) (by decide +kernel), by decide +kernel, by decide +kernel, by decide +kernel⟩
end
section
theorem dX11_in_0 : decode cX11_in 0 = .ok (.lload_n 0, 1) := by decide +kernel
theorem dX11_in_1 : decode cX11_in 1 = .ok (.lload_n 2, 1) := by decide +kernel
theorem dX11_in_2 : decode cX11_in 2 = .ok (.lcmp, 1) := by decide +kernel
theorem dX11_in_3 : decode cX11_in 3 = .ok (.ifCond .lt 14, 3) := by decide +kernel
theorem dX11_in_6 : decode cX11_in 6 = .ok (.lload_n 0, 1) := by decide +kernel
theorem dX11_in_7 : decode cX11_in 7 = .ok (.lload 4, 2) := by decide +kernel
theorem dX11_in_9 : decode cX11_in 9 = .ok (.lcmp, 1) := by decide +kernel
theorem dX11_in_10 : decode cX11_in 10 = .ok (.ifCond .gt 7, 3) := by decide +kernel
theorem dX11_in_13 : decode cX11_in 13 = .ok (.iconst 1, 1) := by decide +kernel
theorem dX11_in_14 : decode cX11_in 14 = .ok (.goto 4, 3) := by decide +kernel
theorem dX11_in_17 : decode cX11_in 17 = .ok (.iconst 0, 1) := by decide +kernel
theorem dX11_in_18 : decode cX11_in 18 = .ok (.ireturn, 1) := by decide +kernel
theorem dX11_init_0 : decode cX11_init 0 = .ok (.aload_n 0, 1) := by decide +kernel
theorem dX11_init_1 : decode cX11_init 1 = .ok (.invokespecial 1, 3) := by decide +kernel
theorem dX11_init_4 : decode cX11_init 4 = .ok (.aload_n 0, 1) := by decide +kernel
theorem dX11_init_5 : decode cX11_init 5 = .ok (.iconst 3, 1) := by decide +kernel
theorem dX11_init_6 : decode cX11_init 6 = .ok (.newarray .int, 2) := by decide +kernel
theorem dX11_init_8 : decode cX11_init 8 = .ok (.putfield 7, 3) := by decide +kernel
theorem dX11_init_11 : decode cX11_init 11 = .ok (.aload_n 0, 1) := by decide +kernel
theorem dX11_init_12 : decode cX11_init 12 = .ok (.bipush 7, 2) := by decide +kernel
theorem dX11_init_14 : decode cX11_init 14 = .ok (.newarray .int, 2) := by decide +kernel
theorem dX11_init_16 : decode cX11_init 16 = .ok (.putfield 13, 3) := by decide +kernel
theorem dX11_init_19 : decode cX11_init 19 = .ok (.aload_n 0, 1) := by decide +kernel
theorem dX11_init_20 : decode cX11_init 20 = .ok (.bipush 7, 2) := by decide +kernel
theorem dX11_init_22 : decode cX11_init 22 = .ok (.newarray .int, 2) := by decide +kernel
theorem dX11_init_24 : decode cX11_init 24 = .ok (.putfield 16, 3) := by decide +kernel
theorem dX11_init_27 : decode cX11_init 27 = .ok (.aload_n 0, 1) := by decide +kernel
theorem dX11_init_28 : decode cX11_init 28 = .ok (.bipush 7, 2) := by decide +kernel
theorem dX11_init_30 : decode cX11_init 30 = .ok (.newarray .int, 2) := by decide +kernel
theorem dX11_init_32 : decode cX11_init 32 = .ok (.putfield 19, 3) := by decide +kernel
theorem dX11_init_35 : decode cX11_init 35 = .ok (.aload_n 0, 1) := by decide +kernel
theorem dX11_init_36 : decode cX11_init 36 = .ok (.bipush 7, 2) := by decide +kernel
theorem dX11_init_38 : decode cX11_init 38 = .ok (.newarray .int, 2) := by decide +kernel
theorem dX11_init_40 : decode cX11_init 40 = .ok (.putfield 22, 3) := by decide +kernel
theorem dX11_init_43 : decode cX11_init 43 = .ok (.aload_n 0, 1) := by decide +kernel
theorem dX11_init_44 : decode cX11_init 44 = .ok (.bipush 7, 2) := by decide +kernel
theorem dX11_init_46 : decode cX11_init 46 = .ok (.newarray .int, 2) := by decide +kernel
theorem dX11_init_48 : decode cX11_init 48 = .ok (.putfield 25, 3) := by decide +kernel
theorem dX11_init_51 : decode cX11_init 51 = .ok (.aload_n 0, 1) := by decide +kernel
theorem dX11_init_52 : decode cX11_init 52 = .ok (.bipush 8, 2) := by decide +kernel
theorem dX11_init_54 : decode cX11_init 54 = .ok (.newarray .int, 2) := by decide +kernel
theorem dX11_init_56 : decode cX11_init 56 = .ok (.putfield 28, 3) := by decide +kernel
theorem dX11_init_59 : decode cX11_init 59 = .ok (.aload_n 0, 1) := by decide +kernel
theorem dX11_init_60 : decode cX11_init 60 = .ok (.bipush 8, 2) := by decide +kernel
theorem dX11_init_62 : decode cX11_init 62 = .ok (.newarray .int, 2) := by decide +kernel
theorem dX11_init_64 : decode cX11_init 64 = .ok (.putfield 31, 3) := by decide +kernel
theorem dX11_init_67 : decode cX11_init 67 = .ok (.aload_n 0, 1) := by decide +kernel
theorem dX11_init_68 : decode cX11_init 68 = .ok (.bipush 6, 2) := by decide +kernel
theorem dX11_init_70 : decode cX11_init 70 = .ok (.newarray .int, 2) := by decide +kernel
theorem dX11_init_72 : decode cX11_init 72 = .ok (.putfield 34, 3) := by decide +kernel
theorem dX11_init_75 : decode cX11_init 75 = .ok (.aload_n 0, 1) := by decide +kernel
theorem dX11_init_76 : decode cX11_init 76 = .ok (.bipush 6, 2) := by decide +kernel
theorem dX11_init_78 : decode cX11_init 78 = .ok (.newarray .int, 2) := by decide +kernel
theorem dX11_init_80 : decode cX11_init 80 = .ok (.putfield 37, 3) := by decide +kernel
theorem dX11_init_83 : decode cX11_init 83 = .ok (.aload_n 0, 1) := by decide +kernel
theorem dX11_init_84 : decode cX11_init 84 = .ok (.iconst 3, 1) := by decide +kernel
theorem dX11_init_85 : decode cX11_init 85 = .ok (.newarray .int, 2) := by decide +kernel
theorem dX11_init_87 : decode cX11_init 87 = .ok (.putfield 40, 3) := by decide +kernel
theorem dX11_init_90 : decode cX11_init 90 = .ok (.aload_n 0, 1) := by decide +kernel
theorem dX11_init_91 : decode cX11_init 91 = .ok (.bipush 7, 2) := by decide +kernel
theorem dX11_init_93 : decode cX11_init 93 = .ok (.newarray .int, 2) := by decide +kernel
theorem dX11_init_95 : decode cX11_init 95 = .ok (.putfield 43, 3) := by decide +kernel
theorem dX11_init_98 : decode cX11_init 98 = .ok (.aload_n 0, 1) := by decide +kernel
theorem dX11_init_99 : decode cX11_init 99 = .ok (.bipush 7, 2) := by decide +kernel
theorem dX11_init_101 : decode cX11_init 101 = .ok (.newarray .int, 2) := by decide +kernel
theorem dX11_init_103 : decode cX11_init 103 = .ok (.putfield 46, 3) := by decide +kernel
theorem dX11_init_106 : decode cX11_init 106 = .ok (.aload_n 0, 1) := by decide +kernel
theorem dX11_init_107 : decode cX11_init 107 = .ok (.bipush 7, 2) := by decide +kernel
theorem dX11_init_109 : decode cX11_init 109 = .ok (.newarray .int, 2) := by decide +kernel
theorem dX11_init_111 : decode cX11_init 111 = .ok (.putfield 49, 3) := by decide +kernel
theorem dX11_init_114 : decode cX11_init 114 = .ok (.aload_n 0, 1) := by decide +kernel
theorem dX11_init_115 : decode cX11_init 115 = .ok (.bipush 7, 2) := by decide +kernel
theorem dX11_init_117 : decode cX11_init 117 = .ok (.newarray .int, 2) := by decide +kernel
theorem dX11_init_119 : decode cX11_init 119 = .ok (.putfield 52, 3) := by decide +kernel
theorem dX11_init_122 : decode cX11_init 122 = .ok (.aload_n 0, 1) := by decide +kernel
theorem dX11_init_123 : decode cX11_init 123 = .ok (.bipush 7, 2) := by decide +kernel
theorem dX11_init_125 : decode cX11_init 125 = .ok (.newarray .int, 2) := by decide +kernel
theorem dX11_init_127 : decode cX11_init 127 = .ok (.putfield 55, 3) := by decide +kernel
theorem dX11_init_130 : decode cX11_init 130 = .ok (.aload_n 0, 1) := by decide +kernel
theorem dX11_init_131 : decode cX11_init 131 = .ok (.bipush 7, 2) := by decide +kernel
theorem dX11_init_133 : decode cX11_init 133 = .ok (.newarray .int, 2) := by decide +kernel
theorem dX11_init_135 : decode cX11_init 135 = .ok (.putfield 58, 3) := by decide +kernel
theorem dX11_init_138 : decode cX11_init 138 = .ok (.aload_n 0, 1) := by decide +kernel
theorem dX11_init_139 : decode cX11_init 139 = .ok (.bipush 7, 2) := by decide +kernel
theorem dX11_init_141 : decode cX11_init 141 = .ok (.newarray .int, 2) := by decide +kernel
theorem dX11_init_143 : decode cX11_init 143 = .ok (.putfield 61, 3) := by decide +kernel
theorem dX11_init_146 : decode cX11_init 146 = .ok (.aload_n 0, 1) := by decide +kernel
theorem dX11_init_147 : decode cX11_init 147 = .ok (.sipush 128, 3) := by decide +kernel
theorem dX11_init_150 : decode cX11_init 150 = .ok (.newarray .int, 2) := by decide +kernel
theorem dX11_init_152 : decode cX11_init 152 = .ok (.putfield 64, 3) := by decide +kernel
theorem dX11_init_155 : decode cX11_init 155 = .ok (.aload_n 0, 1) := by decide +kernel
theorem dX11_init_156 : decode cX11_init 156 = .ok (.sipush 150, 3) := by decide +kernel
theorem dX11_init_159 : decode cX11_init 159 = .ok (.newarray .int, 2) := by decide +kernel
theorem dX11_init_161 : decode cX11_init 161 = .ok (.putfield 67, 3) := by decide +kernel
theorem dX11_init_164 : decode cX11_init 164 = .ok (.aload_n 0, 1) := by decide +kernel
theorem dX11_init_165 : decode cX11_init 165 = .ok (.sipush 150, 3) := by decide +kernel
theorem dX11_init_168 : decode cX11_init 168 = .ok (.newarray .int, 2) := by decide +kernel
theorem dX11_init_170 : decode cX11_init 170 = .ok (.putfield 70, 3) := by decide +kernel
theorem dX11_init_173 : decode cX11_init 173 = .ok (.aload_n 0, 1) := by decide +kernel
theorem dX11_init_174 : decode cX11_init 174 = .ok (.iconst 3, 1) := by decide +kernel
theorem dX11_init_175 : decode cX11_init 175 = .ok (.newarray .int, 2) := by decide +kernel
theorem dX11_init_177 : decode cX11_init 177 = .ok (.putfield 73, 3) := by decide +kernel
theorem dX11_init_180 : decode cX11_init 180 = .ok (.aload_n 0, 1) := by decide +kernel
theorem dX11_init_181 : decode cX11_init 181 = .ok (.sipush 216, 3) := by decide +kernel
theorem dX11_init_184 : decode cX11_init 184 = .ok (.newarray .int, 2) := by decide +kernel
theorem dX11_init_186 : decode cX11_init 186 = .ok (.putfield 76, 3) := by decide +kernel
theorem dX11_init_189 : decode cX11_init 189 = .ok (.aload_n 0, 1) := by decide +kernel
theorem dX11_init_190 : decode cX11_init 190 = .ok (.bipush 9, 2) := by decide +kernel
theorem dX11_init_192 : decode cX11_init 192 = .ok (.newarray .int, 2) := by decide +kernel
theorem dX11_init_194 : decode cX11_init 194 = .ok (.putfield 79, 3) := by decide +kernel
theorem dX11_init_197 : decode cX11_init 197 = .ok (.aload_n 0, 1) := by decide +kernel
theorem dX11_init_198 : decode cX11_init 198 = .ok (.iconst 4, 1) := by decide +kernel
theorem dX11_init_199 : decode cX11_init 199 = .ok (.invokevirtual 82, 3) := by decide +kernel
theorem dX11_init_202 : decode cX11_init 202 = .ok (.aload_n 0, 1) := by decide +kernel
theorem dX11_init_203 : decode cX11_init 203 = .ok (.lconst 0, 1) := by decide +kernel
theorem dX11_init_204 : decode cX11_init 204 = .ok (.putfield 86, 3) := by decide +kernel
theorem dX11_init_207 : decode cX11_init 207 = .ok (.aload_n 0, 1) := by decide +kernel
theorem dX11_init_208 : decode cX11_init 208 = .ok (.lconst 1, 1) := by decide +kernel
theorem dX11_init_209 : decode cX11_init 209 = .ok (.putfield 90, 3) := by decide +kernel
theorem dX11_init_212 : decode cX11_init 212 = .ok (.return_, 1) := by decide +kernel
theorem dX11_bad_0 : decode cX11_bad 0 = .ok (.aload_n 0, 1) := by decide +kernel
theorem dX11_bad_1 : decode cX11_bad 1 = .ok (.getfield 7, 3) := by decide +kernel
theorem dX11_bad_4 : decode cX11_bad 4 = .ok (.iconst 0, 1) := by decide +kernel
theorem dX11_bad_5 : decode cX11_bad 5 = .ok (.dup2, 1) := by decide +kernel
theorem dX11_bad_6 : decode cX11_bad 6 = .ok (.iaload, 1) := by decide +kernel
theorem dX11_bad_7 : decode cX11_bad 7 = .ok (.iconst 1, 1) := by decide +kernel
theorem dX11_bad_8 : decode cX11_bad 8 = .ok (.iadd, 1) := by decide +kernel
theorem dX11_bad_9 : decode cX11_bad 9 = .ok (.iastore, 1) := by decide +kernel
theorem dX11_bad_10 : decode cX11_bad 10 = .ok (.iload_n 1, 1) := by decide +kernel
theorem dX11_bad_11 : decode cX11_bad 11 = .ok (.ireturn, 1) := by decide +kernel
theorem dX11_no_0 : decode cX11_no 0 = .ok (.aload_n 0, 1) := by decide +kernel
theorem dX11_no_1 : decode cX11_no 1 = .ok (.getfield 7, 3) := by decide +kernel
theorem dX11_no_4 : decode cX11_no 4 = .ok (.iconst 1, 1) := by decide +kernel
theorem dX11_no_5 : decode cX11_no 5 = .ok (.dup2, 1) := by decide +kernel
theorem dX11_no_6 : decode cX11_no 6 = .ok (.iaload, 1) := by decide +kernel
theorem dX11_no_7 : decode cX11_no 7 = .ok (.iconst 1, 1) := by decide +kernel
theorem dX11_no_8 : decode cX11_no 8 = .ok (.iadd, 1) := by decide +kernel
theorem dX11_no_9 : decode cX11_no 9 = .ok (.iastore, 1) := by decide +kernel
theorem dX11_no_10 : decode cX11_no 10 = .ok (.bipush (-3), 2) := by decide +kernel
theorem dX11_no_12 : decode cX11_no 12 = .ok (.ireturn, 1) := by decide +kernel
theorem dX11_full_0 : decode cX11_full 0 = .ok (.aload_n 0, 1) := by decide +kernel
theorem dX11_full_1 : decode cX11_full 1 = .ok (.getfield 7, 3) := by decide +kernel
theorem dX11_full_4 : decode cX11_full 4 = .ok (.iconst 2, 1) := by decide +kernel
theorem dX11_full_5 : decode cX11_full 5 = .ok (.dup2, 1) := by decide +kernel
theorem dX11_full_6 : decode cX11_full 6 = .ok (.iaload, 1) := by decide +kernel
theorem dX11_full_7 : decode cX11_full 7 = .ok (.iconst 1, 1) := by decide +kernel
theorem dX11_full_8 : decode cX11_full 8 = .ok (.iadd, 1) := by decide +kernel
theorem dX11_full_9 : decode cX11_full 9 = .ok (.iastore, 1) := by decide +kernel
theorem dX11_full_10 : decode cX11_full 10 = .ok (.bipush (-4), 2) := by decide +kernel
theorem dX11_full_12 : decode cX11_full 12 = .ok (.ireturn, 1) := by decide +kernel
theorem dX11_isDay_0 : decode cX11_isDay 0 = .ok (.iload_n 1, 1) := by decide +kernel
theorem dX11_isDay_1 : decode cX11_isDay 1 = .ok (.i2l, 1) := by decide +kernel
theorem dX11_isDay_2 : decode cX11_isDay 2 = .ok (.lconst 0, 1) := by decide +kernel
theorem dX11_isDay_3 : decode cX11_isDay 3 = .ok (.aload_n 0, 1) := by decide +kernel
theorem dX11_isDay_4 : decode cX11_isDay 4 = .ok (.getfield 93, 3) := by decide +kernel
theorem dX11_isDay_7 : decode cX11_isDay 7 = .ok (.iconst 1, 1) := by decide +kernel
theorem dX11_isDay_8 : decode cX11_isDay 8 = .ok (.isub, 1) := by decide +kernel
theorem dX11_isDay_9 : decode cX11_isDay 9 = .ok (.i2l, 1) := by decide +kernel
theorem dX11_isDay_10 : decode cX11_isDay 10 = .ok (.invokestatic 97, 3) := by decide +kernel
theorem dX11_isDay_13 : decode cX11_isDay 13 = .ok (.ireturn, 1) := by decide +kernel
theorem dX11_isFact_0 : decode cX11_isFact 0 = .ok (.iload_n 0, 1) := by decide +kernel
theorem dX11_isFact_1 : decode cX11_isFact 1 = .ok (.i2l, 1) := by decide +kernel
theorem dX11_isFact_2 : decode cX11_isFact 2 = .ok (.lconst 0, 1) := by decide +kernel
theorem dX11_isFact_3 : decode cX11_isFact 3 = .ok (.ldc2_w 101, 3) := by decide +kernel
theorem dX11_isFact_6 : decode cX11_isFact 6 = .ok (.invokestatic 97, 3) := by decide +kernel
theorem dX11_isFact_9 : decode cX11_isFact 9 = .ok (.ireturn, 1) := by decide +kernel
theorem dX11_begins_0 : decode cX11_begins 0 = .ok (.aload_n 0, 1) := by decide +kernel
theorem dX11_begins_1 : decode cX11_begins 1 = .ok (.iload_n 1, 1) := by decide +kernel
theorem dX11_begins_2 : decode cX11_begins 2 = .ok (.putfield 93, 3) := by decide +kernel
theorem dX11_begins_5 : decode cX11_begins 5 = .ok (.iconst 0, 1) := by decide +kernel
theorem dX11_begins_6 : decode cX11_begins 6 = .ok (.istore_n 2, 1) := by decide +kernel
theorem dX11_begins_7 : decode cX11_begins 7 = .ok (.iload_n 2, 1) := by decide +kernel
theorem dX11_begins_8 : decode cX11_begins 8 = .ok (.bipush 7, 2) := by decide +kernel
theorem dX11_begins_10 : decode cX11_begins 10 = .ok (.if_icmp .ge 51, 3) := by decide +kernel
theorem dX11_begins_13 : decode cX11_begins 13 = .ok (.aload_n 0, 1) := by decide +kernel
theorem dX11_begins_14 : decode cX11_begins 14 = .ok (.getfield 13, 3) := by decide +kernel
theorem dX11_begins_17 : decode cX11_begins 17 = .ok (.iload_n 2, 1) := by decide +kernel
theorem dX11_begins_18 : decode cX11_begins 18 = .ok (.iconst 0, 1) := by decide +kernel
theorem dX11_begins_19 : decode cX11_begins 19 = .ok (.iastore, 1) := by decide +kernel
theorem dX11_begins_20 : decode cX11_begins 20 = .ok (.aload_n 0, 1) := by decide +kernel
theorem dX11_begins_21 : decode cX11_begins 21 = .ok (.getfield 16, 3) := by decide +kernel
theorem dX11_begins_24 : decode cX11_begins 24 = .ok (.iload_n 2, 1) := by decide +kernel
theorem dX11_begins_25 : decode cX11_begins 25 = .ok (.iconst 0, 1) := by decide +kernel
theorem dX11_begins_26 : decode cX11_begins 26 = .ok (.iastore, 1) := by decide +kernel
theorem dX11_begins_27 : decode cX11_begins 27 = .ok (.aload_n 0, 1) := by decide +kernel
theorem dX11_begins_28 : decode cX11_begins 28 = .ok (.getfield 19, 3) := by decide +kernel
theorem dX11_begins_31 : decode cX11_begins 31 = .ok (.iload_n 2, 1) := by decide +kernel
theorem dX11_begins_32 : decode cX11_begins 32 = .ok (.iconst 0, 1) := by decide +kernel
theorem dX11_begins_33 : decode cX11_begins 33 = .ok (.iastore, 1) := by decide +kernel
theorem dX11_begins_34 : decode cX11_begins 34 = .ok (.aload_n 0, 1) := by decide +kernel
theorem dX11_begins_35 : decode cX11_begins 35 = .ok (.getfield 22, 3) := by decide +kernel
theorem dX11_begins_38 : decode cX11_begins 38 = .ok (.iload_n 2, 1) := by decide +kernel
theorem dX11_begins_39 : decode cX11_begins 39 = .ok (.iconst (-1), 1) := by decide +kernel
theorem dX11_begins_40 : decode cX11_begins 40 = .ok (.iastore, 1) := by decide +kernel
theorem dX11_begins_41 : decode cX11_begins 41 = .ok (.aload_n 0, 1) := by decide +kernel
theorem dX11_begins_42 : decode cX11_begins 42 = .ok (.getfield 25, 3) := by decide +kernel
theorem dX11_begins_45 : decode cX11_begins 45 = .ok (.iload_n 2, 1) := by decide +kernel
theorem dX11_begins_46 : decode cX11_begins 46 = .ok (.iload_n 2, 1) := by decide +kernel
theorem dX11_begins_47 : decode cX11_begins 47 = .ok (.iastore, 1) := by decide +kernel
theorem dX11_begins_48 : decode cX11_begins 48 = .ok (.aload_n 0, 1) := by decide +kernel
theorem dX11_begins_49 : decode cX11_begins 49 = .ok (.getfield 43, 3) := by decide +kernel
theorem dX11_begins_52 : decode cX11_begins 52 = .ok (.iload_n 2, 1) := by decide +kernel
theorem dX11_begins_53 : decode cX11_begins 53 = .ok (.iconst (-1), 1) := by decide +kernel
theorem dX11_begins_54 : decode cX11_begins 54 = .ok (.iastore, 1) := by decide +kernel
theorem dX11_begins_55 : decode cX11_begins 55 = .ok (.iinc 2 1, 3) := by decide +kernel
theorem dX11_begins_58 : decode cX11_begins 58 = .ok (.goto (-51), 3) := by decide +kernel
theorem dX11_begins_61 : decode cX11_begins 61 = .ok (.aload_n 0, 1) := by decide +kernel
theorem dX11_begins_62 : decode cX11_begins 62 = .ok (.iconst 0, 1) := by decide +kernel
theorem dX11_begins_63 : decode cX11_begins 63 = .ok (.putfield 103, 3) := by decide +kernel
theorem dX11_begins_66 : decode cX11_begins 66 = .ok (.aload_n 0, 1) := by decide +kernel
theorem dX11_begins_67 : decode cX11_begins 67 = .ok (.iconst 0, 1) := by decide +kernel
theorem dX11_begins_68 : decode cX11_begins 68 = .ok (.putfield 106, 3) := by decide +kernel
theorem dX11_begins_71 : decode cX11_begins 71 = .ok (.aload_n 0, 1) := by decide +kernel
theorem dX11_begins_72 : decode cX11_begins 72 = .ok (.iconst 0, 1) := by decide +kernel
theorem dX11_begins_73 : decode cX11_begins 73 = .ok (.putfield 109, 3) := by decide +kernel
theorem dX11_begins_76 : decode cX11_begins 76 = .ok (.aload_n 0, 1) := by decide +kernel
theorem dX11_begins_77 : decode cX11_begins 77 = .ok (.iconst 0, 1) := by decide +kernel
theorem dX11_begins_78 : decode cX11_begins 78 = .ok (.putfield 112, 3) := by decide +kernel
theorem dX11_begins_81 : decode cX11_begins 81 = .ok (.aload_n 0, 1) := by decide +kernel
theorem dX11_begins_82 : decode cX11_begins 82 = .ok (.iconst 0, 1) := by decide +kernel
theorem dX11_begins_83 : decode cX11_begins 83 = .ok (.putfield 115, 3) := by decide +kernel
theorem dX11_begins_86 : decode cX11_begins 86 = .ok (.return_, 1) := by decide +kernel
theorem dX11_life_0 : decode cX11_life 0 = .ok (.iload_n 1, 1) := by decide +kernel
theorem dX11_life_1 : decode cX11_life 1 = .ok (.i2l, 1) := by decide +kernel
theorem dX11_life_2 : decode cX11_life 2 = .ok (.lconst 1, 1) := by decide +kernel
theorem dX11_life_3 : decode cX11_life 3 = .ok (.ldc2_w 118, 3) := by decide +kernel
theorem dX11_life_6 : decode cX11_life 6 = .ok (.invokestatic 97, 3) := by decide +kernel
theorem dX11_life_9 : decode cX11_life 9 = .ok (.ifCond .ne 10, 3) := by decide +kernel
theorem dX11_life_12 : decode cX11_life 12 = .ok (.aload_n 0, 1) := by decide +kernel
theorem dX11_life_13 : decode cX11_life 13 = .ok (.bipush (-2), 2) := by decide +kernel
theorem dX11_life_15 : decode cX11_life 15 = .ok (.invokevirtual 120, 3) := by decide +kernel
theorem dX11_life_18 : decode cX11_life 18 = .ok (.ireturn, 1) := by decide +kernel
theorem dX11_life_19 : decode cX11_life 19 = .ok (.aload_n 0, 1) := by decide +kernel
theorem dX11_life_20 : decode cX11_life 20 = .ok (.getfield 93, 3) := by decide +kernel
theorem dX11_life_23 : decode cX11_life 23 = .ok (.istore_n 2, 1) := by decide +kernel
theorem dX11_life_24 : decode cX11_life 24 = .ok (.aload_n 0, 1) := by decide +kernel
theorem dX11_life_25 : decode cX11_life 25 = .ok (.iload_n 1, 1) := by decide +kernel
theorem dX11_life_26 : decode cX11_life 26 = .ok (.invokevirtual 82, 3) := by decide +kernel
theorem dX11_life_29 : decode cX11_life 29 = .ok (.iload_n 2, 1) := by decide +kernel
theorem dX11_life_30 : decode cX11_life 30 = .ok (.ireturn, 1) := by decide +kernel
theorem dX11_day_0 : decode cX11_day 0 = .ok (.aload_n 0, 1) := by decide +kernel
theorem dX11_day_1 : decode cX11_day 1 = .ok (.iload_n 1, 1) := by decide +kernel
theorem dX11_day_2 : decode cX11_day 2 = .ok (.invokevirtual 124, 3) := by decide +kernel
theorem dX11_day_5 : decode cX11_day 5 = .ok (.ifCond .eq 15, 3) := by decide +kernel
theorem dX11_day_8 : decode cX11_day 8 = .ok (.iload_n 2, 1) := by decide +kernel
theorem dX11_day_9 : decode cX11_day 9 = .ok (.i2l, 1) := by decide +kernel
theorem dX11_day_10 : decode cX11_day 10 = .ok (.lconst 0, 1) := by decide +kernel
theorem dX11_day_11 : decode cX11_day 11 = .ok (.ldc2_w 101, 3) := by decide +kernel
theorem dX11_day_14 : decode cX11_day 14 = .ok (.invokestatic 97, 3) := by decide +kernel
theorem dX11_day_17 : decode cX11_day 17 = .ok (.ifCond .ne 10, 3) := by decide +kernel
theorem dX11_day_20 : decode cX11_day 20 = .ok (.aload_n 0, 1) := by decide +kernel
theorem dX11_day_21 : decode cX11_day 21 = .ok (.bipush (-2), 2) := by decide +kernel
theorem dX11_day_23 : decode cX11_day 23 = .ok (.invokevirtual 120, 3) := by decide +kernel
theorem dX11_day_26 : decode cX11_day 26 = .ok (.ireturn, 1) := by decide +kernel
theorem dX11_day_27 : decode cX11_day 27 = .ok (.aload_n 0, 1) := by decide +kernel
theorem dX11_day_28 : decode cX11_day 28 = .ok (.getfield 13, 3) := by decide +kernel
theorem dX11_day_31 : decode cX11_day 31 = .ok (.iload_n 1, 1) := by decide +kernel
theorem dX11_day_32 : decode cX11_day 32 = .ok (.iaload, 1) := by decide +kernel
theorem dX11_day_33 : decode cX11_day 33 = .ok (.istore_n 3, 1) := by decide +kernel
theorem dX11_day_34 : decode cX11_day 34 = .ok (.aload_n 0, 1) := by decide +kernel
theorem dX11_day_35 : decode cX11_day 35 = .ok (.getfield 13, 3) := by decide +kernel
theorem dX11_day_38 : decode cX11_day 38 = .ok (.iload_n 1, 1) := by decide +kernel
theorem dX11_day_39 : decode cX11_day 39 = .ok (.iload_n 2, 1) := by decide +kernel
theorem dX11_day_40 : decode cX11_day 40 = .ok (.iastore, 1) := by decide +kernel
theorem dX11_day_41 : decode cX11_day 41 = .ok (.aload_n 0, 1) := by decide +kernel
theorem dX11_day_42 : decode cX11_day 42 = .ok (.iconst 0, 1) := by decide +kernel
theorem dX11_day_43 : decode cX11_day 43 = .ok (.putfield 115, 3) := by decide +kernel
theorem dX11_day_46 : decode cX11_day 46 = .ok (.iload_n 3, 1) := by decide +kernel
theorem dX11_day_47 : decode cX11_day 47 = .ok (.ireturn, 1) := by decide +kernel
theorem dX11_fact_0 : decode cX11_fact 0 = .ok (.aload_n 0, 1) := by decide +kernel
theorem dX11_fact_1 : decode cX11_fact 1 = .ok (.iload_n 1, 1) := by decide +kernel
theorem dX11_fact_2 : decode cX11_fact 2 = .ok (.invokevirtual 124, 3) := by decide +kernel
theorem dX11_fact_5 : decode cX11_fact 5 = .ok (.ifCond .eq 20, 3) := by decide +kernel
theorem dX11_fact_8 : decode cX11_fact 8 = .ok (.iload_n 2, 1) := by decide +kernel
theorem dX11_fact_9 : decode cX11_fact 9 = .ok (.i2l, 1) := by decide +kernel
theorem dX11_fact_10 : decode cX11_fact 10 = .ok (.lconst 0, 1) := by decide +kernel
theorem dX11_fact_11 : decode cX11_fact 11 = .ok (.lconst 1, 1) := by decide +kernel
theorem dX11_fact_12 : decode cX11_fact 12 = .ok (.invokestatic 97, 3) := by decide +kernel
theorem dX11_fact_15 : decode cX11_fact 15 = .ok (.ifCond .eq 10, 3) := by decide +kernel
theorem dX11_fact_18 : decode cX11_fact 18 = .ok (.iload_n 3, 1) := by decide +kernel
theorem dX11_fact_19 : decode cX11_fact 19 = .ok (.invokestatic 128, 3) := by decide +kernel
theorem dX11_fact_22 : decode cX11_fact 22 = .ok (.ifCond .ne 10, 3) := by decide +kernel
theorem dX11_fact_25 : decode cX11_fact 25 = .ok (.aload_n 0, 1) := by decide +kernel
theorem dX11_fact_26 : decode cX11_fact 26 = .ok (.bipush (-2), 2) := by decide +kernel
theorem dX11_fact_28 : decode cX11_fact 28 = .ok (.invokevirtual 120, 3) := by decide +kernel
theorem dX11_fact_31 : decode cX11_fact 31 = .ok (.ireturn, 1) := by decide +kernel
theorem dX11_fact_32 : decode cX11_fact 32 = .ok (.iload_n 2, 1) := by decide +kernel
theorem dX11_fact_33 : decode cX11_fact 33 = .ok (.ifCond .ne 12, 3) := by decide +kernel
theorem dX11_fact_36 : decode cX11_fact 36 = .ok (.aload_n 0, 1) := by decide +kernel
theorem dX11_fact_37 : decode cX11_fact 37 = .ok (.getfield 16, 3) := by decide +kernel
theorem dX11_fact_40 : decode cX11_fact 40 = .ok (.iload_n 1, 1) := by decide +kernel
theorem dX11_fact_41 : decode cX11_fact 41 = .ok (.iaload, 1) := by decide +kernel
theorem dX11_fact_42 : decode cX11_fact 42 = .ok (.goto 9, 3) := by decide +kernel
theorem dX11_fact_45 : decode cX11_fact 45 = .ok (.aload_n 0, 1) := by decide +kernel
theorem dX11_fact_46 : decode cX11_fact 46 = .ok (.getfield 19, 3) := by decide +kernel
theorem dX11_fact_49 : decode cX11_fact 49 = .ok (.iload_n 1, 1) := by decide +kernel
theorem dX11_fact_50 : decode cX11_fact 50 = .ok (.iaload, 1) := by decide +kernel
theorem dX11_fact_51 : decode cX11_fact 51 = .ok (.istore 5, 2) := by decide +kernel
theorem dX11_fact_53 : decode cX11_fact 53 = .ok (.iload 5, 2) := by decide +kernel
theorem dX11_fact_55 : decode cX11_fact 55 = .ok (.iload_n 3, 1) := by decide +kernel
theorem dX11_fact_56 : decode cX11_fact 56 = .ok (.ishr, 1) := by decide +kernel
theorem dX11_fact_57 : decode cX11_fact 57 = .ok (.iconst 1, 1) := by decide +kernel
theorem dX11_fact_58 : decode cX11_fact 58 = .ok (.iand, 1) := by decide +kernel
theorem dX11_fact_59 : decode cX11_fact 59 = .ok (.iconst 1, 1) := by decide +kernel
theorem dX11_fact_60 : decode cX11_fact 60 = .ok (.if_icmp .ne 7, 3) := by decide +kernel
theorem dX11_fact_63 : decode cX11_fact 63 = .ok (.iconst 1, 1) := by decide +kernel
theorem dX11_fact_64 : decode cX11_fact 64 = .ok (.goto 4, 3) := by decide +kernel
theorem dX11_fact_67 : decode cX11_fact 67 = .ok (.iconst 0, 1) := by decide +kernel
theorem dX11_fact_68 : decode cX11_fact 68 = .ok (.iload 4, 2) := by decide +kernel
theorem dX11_fact_70 : decode cX11_fact 70 = .ok (.if_icmp .ne 8, 3) := by decide +kernel
theorem dX11_fact_73 : decode cX11_fact 73 = .ok (.aload_n 0, 1) := by decide +kernel
theorem dX11_fact_74 : decode cX11_fact 74 = .ok (.invokevirtual 131, 3) := by decide +kernel
theorem dX11_fact_77 : decode cX11_fact 77 = .ok (.ireturn, 1) := by decide +kernel
theorem dX11_fact_78 : decode cX11_fact 78 = .ok (.iload_n 2, 1) := by decide +kernel
theorem dX11_fact_79 : decode cX11_fact 79 = .ok (.ifCond .ne 18, 3) := by decide +kernel
theorem dX11_fact_82 : decode cX11_fact 82 = .ok (.aload_n 0, 1) := by decide +kernel
theorem dX11_fact_83 : decode cX11_fact 83 = .ok (.getfield 16, 3) := by decide +kernel
theorem dX11_fact_86 : decode cX11_fact 86 = .ok (.iload_n 1, 1) := by decide +kernel
theorem dX11_fact_87 : decode cX11_fact 87 = .ok (.dup2, 1) := by decide +kernel
theorem dX11_fact_88 : decode cX11_fact 88 = .ok (.iaload, 1) := by decide +kernel
theorem dX11_fact_89 : decode cX11_fact 89 = .ok (.iconst 1, 1) := by decide +kernel
theorem dX11_fact_90 : decode cX11_fact 90 = .ok (.iload_n 3, 1) := by decide +kernel
theorem dX11_fact_91 : decode cX11_fact 91 = .ok (.ishl, 1) := by decide +kernel
theorem dX11_fact_92 : decode cX11_fact 92 = .ok (.ixor, 1) := by decide +kernel
theorem dX11_fact_93 : decode cX11_fact 93 = .ok (.iastore, 1) := by decide +kernel
theorem dX11_fact_94 : decode cX11_fact 94 = .ok (.goto 15, 3) := by decide +kernel
theorem dX11_fact_97 : decode cX11_fact 97 = .ok (.aload_n 0, 1) := by decide +kernel
theorem dX11_fact_98 : decode cX11_fact 98 = .ok (.getfield 19, 3) := by decide +kernel
theorem dX11_fact_101 : decode cX11_fact 101 = .ok (.iload_n 1, 1) := by decide +kernel
theorem dX11_fact_102 : decode cX11_fact 102 = .ok (.dup2, 1) := by decide +kernel
theorem dX11_fact_103 : decode cX11_fact 103 = .ok (.iaload, 1) := by decide +kernel
theorem dX11_fact_104 : decode cX11_fact 104 = .ok (.iconst 1, 1) := by decide +kernel
theorem dX11_fact_105 : decode cX11_fact 105 = .ok (.iload_n 3, 1) := by decide +kernel
theorem dX11_fact_106 : decode cX11_fact 106 = .ok (.ishl, 1) := by decide +kernel
theorem dX11_fact_107 : decode cX11_fact 107 = .ok (.ixor, 1) := by decide +kernel
theorem dX11_fact_108 : decode cX11_fact 108 = .ok (.iastore, 1) := by decide +kernel
theorem dX11_fact_109 : decode cX11_fact 109 = .ok (.aload_n 0, 1) := by decide +kernel
theorem dX11_fact_110 : decode cX11_fact 110 = .ok (.iconst 0, 1) := by decide +kernel
theorem dX11_fact_111 : decode cX11_fact 111 = .ok (.putfield 115, 3) := by decide +kernel
theorem dX11_fact_114 : decode cX11_fact 114 = .ok (.iconst 1, 1) := by decide +kernel
theorem dX11_fact_115 : decode cX11_fact 115 = .ok (.ireturn, 1) := by decide +kernel
theorem dX11_isNote_0 : decode cX11_isNote 0 = .ok (.iconst 0, 1) := by decide +kernel
theorem dX11_isNote_1 : decode cX11_isNote 1 = .ok (.istore_n 3, 1) := by decide +kernel
theorem dX11_isNote_2 : decode cX11_isNote 2 = .ok (.iconst 0, 1) := by decide +kernel
theorem dX11_isNote_3 : decode cX11_isNote 3 = .ok (.istore 4, 2) := by decide +kernel
theorem dX11_isNote_5 : decode cX11_isNote 5 = .ok (.iload 4, 2) := by decide +kernel
theorem dX11_isNote_7 : decode cX11_isNote 7 = .ok (.aload_n 0, 1) := by decide +kernel
theorem dX11_isNote_8 : decode cX11_isNote 8 = .ok (.getfield 103, 3) := by decide +kernel
theorem dX11_isNote_11 : decode cX11_isNote 11 = .ok (.if_icmp .ge 41, 3) := by decide +kernel
theorem dX11_isNote_14 : decode cX11_isNote 14 = .ok (.iload_n 3, 1) := by decide +kernel
theorem dX11_isNote_15 : decode cX11_isNote 15 = .ok (.ifCond .ne 25, 3) := by decide +kernel
theorem dX11_isNote_18 : decode cX11_isNote 18 = .ok (.aload_n 0, 1) := by decide +kernel
theorem dX11_isNote_19 : decode cX11_isNote 19 = .ok (.getfield 28, 3) := by decide +kernel
theorem dX11_isNote_22 : decode cX11_isNote 22 = .ok (.iload 4, 2) := by decide +kernel
theorem dX11_isNote_24 : decode cX11_isNote 24 = .ok (.iaload, 1) := by decide +kernel
theorem dX11_isNote_25 : decode cX11_isNote 25 = .ok (.iload_n 1, 1) := by decide +kernel
theorem dX11_isNote_26 : decode cX11_isNote 26 = .ok (.if_icmp .ne 18, 3) := by decide +kernel
theorem dX11_isNote_29 : decode cX11_isNote 29 = .ok (.aload_n 0, 1) := by decide +kernel
theorem dX11_isNote_30 : decode cX11_isNote 30 = .ok (.getfield 31, 3) := by decide +kernel
theorem dX11_isNote_33 : decode cX11_isNote 33 = .ok (.iload 4, 2) := by decide +kernel
theorem dX11_isNote_35 : decode cX11_isNote 35 = .ok (.iaload, 1) := by decide +kernel
theorem dX11_isNote_36 : decode cX11_isNote 36 = .ok (.iload_n 2, 1) := by decide +kernel
theorem dX11_isNote_37 : decode cX11_isNote 37 = .ok (.if_icmp .ne 7, 3) := by decide +kernel
theorem dX11_isNote_40 : decode cX11_isNote 40 = .ok (.iconst 1, 1) := by decide +kernel
theorem dX11_isNote_41 : decode cX11_isNote 41 = .ok (.goto 4, 3) := by decide +kernel
theorem dX11_isNote_44 : decode cX11_isNote 44 = .ok (.iconst 0, 1) := by decide +kernel
theorem dX11_isNote_45 : decode cX11_isNote 45 = .ok (.istore_n 3, 1) := by decide +kernel
theorem dX11_isNote_46 : decode cX11_isNote 46 = .ok (.iinc 4 1, 3) := by decide +kernel
theorem dX11_isNote_49 : decode cX11_isNote 49 = .ok (.goto (-44), 3) := by decide +kernel
theorem dX11_isNote_52 : decode cX11_isNote 52 = .ok (.iload_n 3, 1) := by decide +kernel
theorem dX11_isNote_53 : decode cX11_isNote 53 = .ok (.ireturn, 1) := by decide +kernel
theorem dX11_note_0 : decode cX11_note 0 = .ok (.aload_n 0, 1) := by decide +kernel
theorem dX11_note_1 : decode cX11_note 1 = .ok (.iload_n 1, 1) := by decide +kernel
theorem dX11_note_2 : decode cX11_note 2 = .ok (.invokevirtual 124, 3) := by decide +kernel
theorem dX11_note_5 : decode cX11_note 5 = .ok (.ifCond .eq 10, 3) := by decide +kernel
theorem dX11_note_8 : decode cX11_note 8 = .ok (.iload_n 2, 1) := by decide +kernel
theorem dX11_note_9 : decode cX11_note 9 = .ok (.invokestatic 128, 3) := by decide +kernel
theorem dX11_note_12 : decode cX11_note 12 = .ok (.ifCond .ne 10, 3) := by decide +kernel
theorem dX11_note_15 : decode cX11_note 15 = .ok (.aload_n 0, 1) := by decide +kernel
theorem dX11_note_16 : decode cX11_note 16 = .ok (.bipush (-2), 2) := by decide +kernel
theorem dX11_note_18 : decode cX11_note 18 = .ok (.invokevirtual 120, 3) := by decide +kernel
theorem dX11_note_21 : decode cX11_note 21 = .ok (.ireturn, 1) := by decide +kernel
theorem dX11_note_22 : decode cX11_note 22 = .ok (.aload_n 0, 1) := by decide +kernel
theorem dX11_note_23 : decode cX11_note 23 = .ok (.iload_n 1, 1) := by decide +kernel
theorem dX11_note_24 : decode cX11_note 24 = .ok (.iload_n 2, 1) := by decide +kernel
theorem dX11_note_25 : decode cX11_note 25 = .ok (.invokevirtual 135, 3) := by decide +kernel
theorem dX11_note_28 : decode cX11_note 28 = .ok (.ifCond .eq 8, 3) := by decide +kernel
theorem dX11_note_31 : decode cX11_note 31 = .ok (.aload_n 0, 1) := by decide +kernel
theorem dX11_note_32 : decode cX11_note 32 = .ok (.invokevirtual 131, 3) := by decide +kernel
theorem dX11_note_35 : decode cX11_note 35 = .ok (.ireturn, 1) := by decide +kernel
theorem dX11_note_36 : decode cX11_note 36 = .ok (.aload_n 0, 1) := by decide +kernel
theorem dX11_note_37 : decode cX11_note 37 = .ok (.getfield 103, 3) := by decide +kernel
theorem dX11_note_40 : decode cX11_note 40 = .ok (.bipush 6, 2) := by decide +kernel
theorem dX11_note_42 : decode cX11_note 42 = .ok (.if_icmp .ne 8, 3) := by decide +kernel
theorem dX11_note_45 : decode cX11_note 45 = .ok (.aload_n 0, 1) := by decide +kernel
theorem dX11_note_46 : decode cX11_note 46 = .ok (.invokevirtual 139, 3) := by decide +kernel
theorem dX11_note_49 : decode cX11_note 49 = .ok (.ireturn, 1) := by decide +kernel
theorem dX11_note_50 : decode cX11_note 50 = .ok (.aload_n 0, 1) := by decide +kernel
theorem dX11_note_51 : decode cX11_note 51 = .ok (.getfield 28, 3) := by decide +kernel
theorem dX11_note_54 : decode cX11_note 54 = .ok (.aload_n 0, 1) := by decide +kernel
theorem dX11_note_55 : decode cX11_note 55 = .ok (.getfield 103, 3) := by decide +kernel
theorem dX11_note_58 : decode cX11_note 58 = .ok (.iload_n 1, 1) := by decide +kernel
theorem dX11_note_59 : decode cX11_note 59 = .ok (.iastore, 1) := by decide +kernel
theorem dX11_note_60 : decode cX11_note 60 = .ok (.aload_n 0, 1) := by decide +kernel
theorem dX11_note_61 : decode cX11_note 61 = .ok (.getfield 31, 3) := by decide +kernel
theorem dX11_note_64 : decode cX11_note 64 = .ok (.aload_n 0, 1) := by decide +kernel
theorem dX11_note_65 : decode cX11_note 65 = .ok (.getfield 103, 3) := by decide +kernel
theorem dX11_note_68 : decode cX11_note 68 = .ok (.iload_n 2, 1) := by decide +kernel
theorem dX11_note_69 : decode cX11_note 69 = .ok (.iastore, 1) := by decide +kernel
theorem dX11_note_70 : decode cX11_note 70 = .ok (.aload_n 0, 1) := by decide +kernel
theorem dX11_note_71 : decode cX11_note 71 = .ok (.dup, 1) := by decide +kernel
theorem dX11_note_72 : decode cX11_note 72 = .ok (.getfield 103, 3) := by decide +kernel
theorem dX11_note_75 : decode cX11_note 75 = .ok (.iconst 1, 1) := by decide +kernel
theorem dX11_note_76 : decode cX11_note 76 = .ok (.iadd, 1) := by decide +kernel
theorem dX11_note_77 : decode cX11_note 77 = .ok (.putfield 103, 3) := by decide +kernel
theorem dX11_note_80 : decode cX11_note 80 = .ok (.aload_n 0, 1) := by decide +kernel
theorem dX11_note_81 : decode cX11_note 81 = .ok (.iconst 0, 1) := by decide +kernel
theorem dX11_note_82 : decode cX11_note 82 = .ok (.putfield 115, 3) := by decide +kernel
theorem dX11_note_85 : decode cX11_note 85 = .ok (.aload_n 0, 1) := by decide +kernel
theorem dX11_note_86 : decode cX11_note 86 = .ok (.getfield 103, 3) := by decide +kernel
theorem dX11_note_89 : decode cX11_note 89 = .ok (.iconst 1, 1) := by decide +kernel
theorem dX11_note_90 : decode cX11_note 90 = .ok (.isub, 1) := by decide +kernel
theorem dX11_note_91 : decode cX11_note 91 = .ok (.ireturn, 1) := by decide +kernel
theorem dX11_ahead_0 : decode cX11_ahead 0 = .ok (.aload_n 0, 1) := by decide +kernel
theorem dX11_ahead_1 : decode cX11_ahead 1 = .ok (.iload_n 1, 1) := by decide +kernel
theorem dX11_ahead_2 : decode cX11_ahead 2 = .ok (.invokevirtual 124, 3) := by decide +kernel
theorem dX11_ahead_5 : decode cX11_ahead 5 = .ok (.ifCond .eq 16, 3) := by decide +kernel
theorem dX11_ahead_8 : decode cX11_ahead 8 = .ok (.aload_n 0, 1) := by decide +kernel
theorem dX11_ahead_9 : decode cX11_ahead 9 = .ok (.iload_n 2, 1) := by decide +kernel
theorem dX11_ahead_10 : decode cX11_ahead 10 = .ok (.invokevirtual 124, 3) := by decide +kernel
theorem dX11_ahead_13 : decode cX11_ahead 13 = .ok (.ifCond .eq 8, 3) := by decide +kernel
theorem dX11_ahead_16 : decode cX11_ahead 16 = .ok (.iload_n 1, 1) := by decide +kernel
theorem dX11_ahead_17 : decode cX11_ahead 17 = .ok (.iload_n 2, 1) := by decide +kernel
theorem dX11_ahead_18 : decode cX11_ahead 18 = .ok (.if_icmp .ne 10, 3) := by decide +kernel
theorem dX11_ahead_21 : decode cX11_ahead 21 = .ok (.aload_n 0, 1) := by decide +kernel
theorem dX11_ahead_22 : decode cX11_ahead 22 = .ok (.bipush (-2), 2) := by decide +kernel
theorem dX11_ahead_24 : decode cX11_ahead 24 = .ok (.invokevirtual 120, 3) := by decide +kernel
theorem dX11_ahead_27 : decode cX11_ahead 27 = .ok (.ireturn, 1) := by decide +kernel
theorem dX11_ahead_28 : decode cX11_ahead 28 = .ok (.aload_n 0, 1) := by decide +kernel
theorem dX11_ahead_29 : decode cX11_ahead 29 = .ok (.getfield 106, 3) := by decide +kernel
theorem dX11_ahead_32 : decode cX11_ahead 32 = .ok (.bipush 6, 2) := by decide +kernel
theorem dX11_ahead_34 : decode cX11_ahead 34 = .ok (.if_icmp .ne 8, 3) := by decide +kernel
theorem dX11_ahead_37 : decode cX11_ahead 37 = .ok (.aload_n 0, 1) := by decide +kernel
theorem dX11_ahead_38 : decode cX11_ahead 38 = .ok (.invokevirtual 139, 3) := by decide +kernel
theorem dX11_ahead_41 : decode cX11_ahead 41 = .ok (.ireturn, 1) := by decide +kernel
theorem dX11_ahead_42 : decode cX11_ahead 42 = .ok (.aload_n 0, 1) := by decide +kernel
theorem dX11_ahead_43 : decode cX11_ahead 43 = .ok (.getfield 34, 3) := by decide +kernel
theorem dX11_ahead_46 : decode cX11_ahead 46 = .ok (.aload_n 0, 1) := by decide +kernel
theorem dX11_ahead_47 : decode cX11_ahead 47 = .ok (.getfield 106, 3) := by decide +kernel
theorem dX11_ahead_50 : decode cX11_ahead 50 = .ok (.iload_n 1, 1) := by decide +kernel
theorem dX11_ahead_51 : decode cX11_ahead 51 = .ok (.iastore, 1) := by decide +kernel
theorem dX11_ahead_52 : decode cX11_ahead 52 = .ok (.aload_n 0, 1) := by decide +kernel
theorem dX11_ahead_53 : decode cX11_ahead 53 = .ok (.getfield 37, 3) := by decide +kernel
theorem dX11_ahead_56 : decode cX11_ahead 56 = .ok (.aload_n 0, 1) := by decide +kernel
theorem dX11_ahead_57 : decode cX11_ahead 57 = .ok (.getfield 106, 3) := by decide +kernel
theorem dX11_ahead_60 : decode cX11_ahead 60 = .ok (.iload_n 2, 1) := by decide +kernel
theorem dX11_ahead_61 : decode cX11_ahead 61 = .ok (.iastore, 1) := by decide +kernel
theorem dX11_ahead_62 : decode cX11_ahead 62 = .ok (.aload_n 0, 1) := by decide +kernel
theorem dX11_ahead_63 : decode cX11_ahead 63 = .ok (.dup, 1) := by decide +kernel
theorem dX11_ahead_64 : decode cX11_ahead 64 = .ok (.getfield 106, 3) := by decide +kernel
theorem dX11_ahead_67 : decode cX11_ahead 67 = .ok (.iconst 1, 1) := by decide +kernel
theorem dX11_ahead_68 : decode cX11_ahead 68 = .ok (.iadd, 1) := by decide +kernel
theorem dX11_ahead_69 : decode cX11_ahead 69 = .ok (.putfield 106, 3) := by decide +kernel
theorem dX11_ahead_72 : decode cX11_ahead 72 = .ok (.aload_n 0, 1) := by decide +kernel
theorem dX11_ahead_73 : decode cX11_ahead 73 = .ok (.getfield 106, 3) := by decide +kernel
theorem dX11_ahead_76 : decode cX11_ahead 76 = .ok (.iconst 1, 1) := by decide +kernel
theorem dX11_ahead_77 : decode cX11_ahead 77 = .ok (.isub, 1) := by decide +kernel
theorem dX11_ahead_78 : decode cX11_ahead 78 = .ok (.ireturn, 1) := by decide +kernel
theorem dX11_at_0 : decode cX11_at 0 = .ok (.aload_n 0, 1) := by decide +kernel
theorem dX11_at_1 : decode cX11_at 1 = .ok (.iload_n 1, 1) := by decide +kernel
theorem dX11_at_2 : decode cX11_at 2 = .ok (.invokevirtual 124, 3) := by decide +kernel
theorem dX11_at_5 : decode cX11_at 5 = .ok (.ifCond .eq 16, 3) := by decide +kernel
theorem dX11_at_8 : decode cX11_at 8 = .ok (.iload_n 2, 1) := by decide +kernel
theorem dX11_at_9 : decode cX11_at 9 = .ok (.iconst (-1), 1) := by decide +kernel
theorem dX11_at_10 : decode cX11_at 10 = .ok (.if_icmp .eq 18, 3) := by decide +kernel
theorem dX11_at_13 : decode cX11_at 13 = .ok (.aload_n 0, 1) := by decide +kernel
theorem dX11_at_14 : decode cX11_at 14 = .ok (.iload_n 2, 1) := by decide +kernel
theorem dX11_at_15 : decode cX11_at 15 = .ok (.invokevirtual 124, 3) := by decide +kernel
theorem dX11_at_18 : decode cX11_at 18 = .ok (.ifCond .ne 10, 3) := by decide +kernel
theorem dX11_at_21 : decode cX11_at 21 = .ok (.aload_n 0, 1) := by decide +kernel
theorem dX11_at_22 : decode cX11_at 22 = .ok (.bipush (-10), 2) := by decide +kernel
theorem dX11_at_24 : decode cX11_at 24 = .ok (.invokevirtual 120, 3) := by decide +kernel
theorem dX11_at_27 : decode cX11_at 27 = .ok (.ireturn, 1) := by decide +kernel
theorem dX11_at_28 : decode cX11_at 28 = .ok (.aload_n 0, 1) := by decide +kernel
theorem dX11_at_29 : decode cX11_at 29 = .ok (.getfield 22, 3) := by decide +kernel
theorem dX11_at_32 : decode cX11_at 32 = .ok (.iload_n 1, 1) := by decide +kernel
theorem dX11_at_33 : decode cX11_at 33 = .ok (.iaload, 1) := by decide +kernel
theorem dX11_at_34 : decode cX11_at 34 = .ok (.istore_n 3, 1) := by decide +kernel
theorem dX11_at_35 : decode cX11_at 35 = .ok (.aload_n 0, 1) := by decide +kernel
theorem dX11_at_36 : decode cX11_at 36 = .ok (.getfield 22, 3) := by decide +kernel
theorem dX11_at_39 : decode cX11_at 39 = .ok (.iload_n 1, 1) := by decide +kernel
theorem dX11_at_40 : decode cX11_at 40 = .ok (.iload_n 2, 1) := by decide +kernel
theorem dX11_at_41 : decode cX11_at 41 = .ok (.iastore, 1) := by decide +kernel
theorem dX11_at_42 : decode cX11_at 42 = .ok (.iload_n 3, 1) := by decide +kernel
theorem dX11_at_43 : decode cX11_at 43 = .ok (.ireturn, 1) := by decide +kernel
theorem dX11_diaries_0 : decode cX11_diaries 0 = .ok (.iconst 0, 1) := by decide +kernel
theorem dX11_diaries_1 : decode cX11_diaries 1 = .ok (.istore_n 1, 1) := by decide +kernel
theorem dX11_diaries_2 : decode cX11_diaries 2 = .ok (.iconst 0, 1) := by decide +kernel
theorem dX11_diaries_3 : decode cX11_diaries 3 = .ok (.istore_n 2, 1) := by decide +kernel
theorem dX11_diaries_4 : decode cX11_diaries 4 = .ok (.iload_n 2, 1) := by decide +kernel
theorem dX11_diaries_5 : decode cX11_diaries 5 = .ok (.aload_n 0, 1) := by decide +kernel
theorem dX11_diaries_6 : decode cX11_diaries 6 = .ok (.getfield 93, 3) := by decide +kernel
theorem dX11_diaries_9 : decode cX11_diaries 9 = .ok (.if_icmp .ge 27, 3) := by decide +kernel
theorem dX11_diaries_12 : decode cX11_diaries 12 = .ok (.iload_n 1, 1) := by decide +kernel
theorem dX11_diaries_13 : decode cX11_diaries 13 = .ok (.aload_n 0, 1) := by decide +kernel
theorem dX11_diaries_14 : decode cX11_diaries 14 = .ok (.getfield 43, 3) := by decide +kernel
theorem dX11_diaries_17 : decode cX11_diaries 17 = .ok (.iload_n 2, 1) := by decide +kernel
theorem dX11_diaries_18 : decode cX11_diaries 18 = .ok (.iaload, 1) := by decide +kernel
theorem dX11_diaries_19 : decode cX11_diaries 19 = .ok (.iconst (-1), 1) := by decide +kernel
theorem dX11_diaries_20 : decode cX11_diaries 20 = .ok (.if_icmp .ne 7, 3) := by decide +kernel
theorem dX11_diaries_23 : decode cX11_diaries 23 = .ok (.iconst 0, 1) := by decide +kernel
theorem dX11_diaries_24 : decode cX11_diaries 24 = .ok (.goto 4, 3) := by decide +kernel
theorem dX11_diaries_27 : decode cX11_diaries 27 = .ok (.iconst 1, 1) := by decide +kernel
theorem dX11_diaries_28 : decode cX11_diaries 28 = .ok (.iadd, 1) := by decide +kernel
theorem dX11_diaries_29 : decode cX11_diaries 29 = .ok (.istore_n 1, 1) := by decide +kernel
theorem dX11_diaries_30 : decode cX11_diaries 30 = .ok (.iinc 2 1, 3) := by decide +kernel
theorem dX11_diaries_33 : decode cX11_diaries 33 = .ok (.goto (-29), 3) := by decide +kernel
theorem dX11_diaries_36 : decode cX11_diaries 36 = .ok (.iload_n 1, 1) := by decide +kernel
theorem dX11_diaries_37 : decode cX11_diaries 37 = .ok (.ireturn, 1) := by decide +kernel
theorem dX11_tear_0 : decode cX11_tear 0 = .ok (.iload_n 1, 1) := by decide +kernel
theorem dX11_tear_1 : decode cX11_tear 1 = .ok (.i2l, 1) := by decide +kernel
theorem dX11_tear_2 : decode cX11_tear 2 = .ok (.lconst 0, 1) := by decide +kernel
theorem dX11_tear_3 : decode cX11_tear 3 = .ok (.ldc2_w 142, 3) := by decide +kernel
theorem dX11_tear_6 : decode cX11_tear 6 = .ok (.invokestatic 97, 3) := by decide +kernel
theorem dX11_tear_9 : decode cX11_tear 9 = .ok (.ifCond .ne 10, 3) := by decide +kernel
theorem dX11_tear_12 : decode cX11_tear 12 = .ok (.aload_n 0, 1) := by decide +kernel
theorem dX11_tear_13 : decode cX11_tear 13 = .ok (.bipush (-2), 2) := by decide +kernel
theorem dX11_tear_15 : decode cX11_tear 15 = .ok (.invokevirtual 120, 3) := by decide +kernel
theorem dX11_tear_18 : decode cX11_tear 18 = .ok (.ireturn, 1) := by decide +kernel
theorem dX11_tear_19 : decode cX11_tear 19 = .ok (.iload_n 1, 1) := by decide +kernel
theorem dX11_tear_20 : decode cX11_tear 20 = .ok (.ifCond .ne 10, 3) := by decide +kernel
theorem dX11_tear_23 : decode cX11_tear 23 = .ok (.aload_n 0, 1) := by decide +kernel
theorem dX11_tear_24 : decode cX11_tear 24 = .ok (.getfield 103, 3) := by decide +kernel
theorem dX11_tear_27 : decode cX11_tear 27 = .ok (.goto 31, 3) := by decide +kernel
theorem dX11_tear_30 : decode cX11_tear 30 = .ok (.iload_n 1, 1) := by decide +kernel
theorem dX11_tear_31 : decode cX11_tear 31 = .ok (.iconst 1, 1) := by decide +kernel
theorem dX11_tear_32 : decode cX11_tear 32 = .ok (.if_icmp .ne 10, 3) := by decide +kernel
theorem dX11_tear_35 : decode cX11_tear 35 = .ok (.aload_n 0, 1) := by decide +kernel
theorem dX11_tear_36 : decode cX11_tear 36 = .ok (.getfield 106, 3) := by decide +kernel
theorem dX11_tear_39 : decode cX11_tear 39 = .ok (.goto 19, 3) := by decide +kernel
theorem dX11_tear_42 : decode cX11_tear 42 = .ok (.iload_n 1, 1) := by decide +kernel
theorem dX11_tear_43 : decode cX11_tear 43 = .ok (.iconst 2, 1) := by decide +kernel
theorem dX11_tear_44 : decode cX11_tear 44 = .ok (.if_icmp .ne 10, 3) := by decide +kernel
theorem dX11_tear_47 : decode cX11_tear 47 = .ok (.aload_n 0, 1) := by decide +kernel
theorem dX11_tear_48 : decode cX11_tear 48 = .ok (.invokevirtual 144, 3) := by decide +kernel
theorem dX11_tear_51 : decode cX11_tear 51 = .ok (.goto 7, 3) := by decide +kernel
theorem dX11_tear_54 : decode cX11_tear 54 = .ok (.aload_n 0, 1) := by decide +kernel
theorem dX11_tear_55 : decode cX11_tear 55 = .ok (.getfield 109, 3) := by decide +kernel
theorem dX11_tear_58 : decode cX11_tear 58 = .ok (.istore_n 2, 1) := by decide +kernel
theorem dX11_tear_59 : decode cX11_tear 59 = .ok (.iload_n 1, 1) := by decide +kernel
theorem dX11_tear_60 : decode cX11_tear 60 = .ok (.ifCond .ne 16, 3) := by decide +kernel
theorem dX11_tear_63 : decode cX11_tear 63 = .ok (.aload_n 0, 1) := by decide +kernel
theorem dX11_tear_64 : decode cX11_tear 64 = .ok (.iconst 0, 1) := by decide +kernel
theorem dX11_tear_65 : decode cX11_tear 65 = .ok (.putfield 103, 3) := by decide +kernel
theorem dX11_tear_68 : decode cX11_tear 68 = .ok (.aload_n 0, 1) := by decide +kernel
theorem dX11_tear_69 : decode cX11_tear 69 = .ok (.iconst 0, 1) := by decide +kernel
theorem dX11_tear_70 : decode cX11_tear 70 = .ok (.putfield 115, 3) := by decide +kernel
theorem dX11_tear_73 : decode cX11_tear 73 = .ok (.goto 50, 3) := by decide +kernel
theorem dX11_tear_76 : decode cX11_tear 76 = .ok (.iload_n 1, 1) := by decide +kernel
theorem dX11_tear_77 : decode cX11_tear 77 = .ok (.iconst 1, 1) := by decide +kernel
theorem dX11_tear_78 : decode cX11_tear 78 = .ok (.if_icmp .ne 11, 3) := by decide +kernel
theorem dX11_tear_81 : decode cX11_tear 81 = .ok (.aload_n 0, 1) := by decide +kernel
theorem dX11_tear_82 : decode cX11_tear 82 = .ok (.iconst 0, 1) := by decide +kernel
theorem dX11_tear_83 : decode cX11_tear 83 = .ok (.putfield 106, 3) := by decide +kernel
theorem dX11_tear_86 : decode cX11_tear 86 = .ok (.goto 37, 3) := by decide +kernel
theorem dX11_tear_89 : decode cX11_tear 89 = .ok (.iload_n 1, 1) := by decide +kernel
theorem dX11_tear_90 : decode cX11_tear 90 = .ok (.iconst 2, 1) := by decide +kernel
theorem dX11_tear_91 : decode cX11_tear 91 = .ok (.if_icmp .ne 27, 3) := by decide +kernel
theorem dX11_tear_94 : decode cX11_tear 94 = .ok (.iconst 0, 1) := by decide +kernel
theorem dX11_tear_95 : decode cX11_tear 95 = .ok (.istore_n 3, 1) := by decide +kernel
theorem dX11_tear_96 : decode cX11_tear 96 = .ok (.iload_n 3, 1) := by decide +kernel
theorem dX11_tear_97 : decode cX11_tear 97 = .ok (.bipush 7, 2) := by decide +kernel
theorem dX11_tear_99 : decode cX11_tear 99 = .ok (.if_icmp .ge 16, 3) := by decide +kernel
theorem dX11_tear_102 : decode cX11_tear 102 = .ok (.aload_n 0, 1) := by decide +kernel
theorem dX11_tear_103 : decode cX11_tear 103 = .ok (.getfield 43, 3) := by decide +kernel
theorem dX11_tear_106 : decode cX11_tear 106 = .ok (.iload_n 3, 1) := by decide +kernel
theorem dX11_tear_107 : decode cX11_tear 107 = .ok (.iconst (-1), 1) := by decide +kernel
theorem dX11_tear_108 : decode cX11_tear 108 = .ok (.iastore, 1) := by decide +kernel
theorem dX11_tear_109 : decode cX11_tear 109 = .ok (.iinc 3 1, 3) := by decide +kernel
theorem dX11_tear_112 : decode cX11_tear 112 = .ok (.goto (-16), 3) := by decide +kernel
theorem dX11_tear_115 : decode cX11_tear 115 = .ok (.goto 8, 3) := by decide +kernel
theorem dX11_tear_118 : decode cX11_tear 118 = .ok (.aload_n 0, 1) := by decide +kernel
theorem dX11_tear_119 : decode cX11_tear 119 = .ok (.iconst 0, 1) := by decide +kernel
theorem dX11_tear_120 : decode cX11_tear 120 = .ok (.putfield 109, 3) := by decide +kernel
theorem dX11_tear_123 : decode cX11_tear 123 = .ok (.iload_n 2, 1) := by decide +kernel
theorem dX11_tear_124 : decode cX11_tear 124 = .ok (.ireturn, 1) := by decide +kernel
theorem dX11_orders_0 : decode cX11_orders 0 = .ok (.iconst 1, 1) := by decide +kernel
theorem dX11_orders_1 : decode cX11_orders 1 = .ok (.istore_n 1, 1) := by decide +kernel
theorem dX11_orders_2 : decode cX11_orders 2 = .ok (.iconst 2, 1) := by decide +kernel
theorem dX11_orders_3 : decode cX11_orders 3 = .ok (.istore_n 2, 1) := by decide +kernel
theorem dX11_orders_4 : decode cX11_orders 4 = .ok (.iload_n 2, 1) := by decide +kernel
theorem dX11_orders_5 : decode cX11_orders 5 = .ok (.aload_n 0, 1) := by decide +kernel
theorem dX11_orders_6 : decode cX11_orders 6 = .ok (.getfield 93, 3) := by decide +kernel
theorem dX11_orders_9 : decode cX11_orders 9 = .ok (.if_icmp .gt 13, 3) := by decide +kernel
theorem dX11_orders_12 : decode cX11_orders 12 = .ok (.iload_n 1, 1) := by decide +kernel
theorem dX11_orders_13 : decode cX11_orders 13 = .ok (.iload_n 2, 1) := by decide +kernel
theorem dX11_orders_14 : decode cX11_orders 14 = .ok (.imul, 1) := by decide +kernel
theorem dX11_orders_15 : decode cX11_orders 15 = .ok (.istore_n 1, 1) := by decide +kernel
theorem dX11_orders_16 : decode cX11_orders 16 = .ok (.iinc 2 1, 3) := by decide +kernel
theorem dX11_orders_19 : decode cX11_orders 19 = .ok (.goto (-15), 3) := by decide +kernel
theorem dX11_orders_22 : decode cX11_orders 22 = .ok (.iload_n 1, 1) := by decide +kernel
theorem dX11_orders_23 : decode cX11_orders 23 = .ok (.ireturn, 1) := by decide +kernel
theorem dX11_starts_0 : decode cX11_starts 0 = .ok (.iconst 0, 1) := by decide +kernel
theorem dX11_starts_1 : decode cX11_starts 1 = .ok (.istore_n 1, 1) := by decide +kernel
theorem dX11_starts_2 : decode cX11_starts 2 = .ok (.iload_n 1, 1) := by decide +kernel
theorem dX11_starts_3 : decode cX11_starts 3 = .ok (.bipush 7, 2) := by decide +kernel
theorem dX11_starts_5 : decode cX11_starts 5 = .ok (.if_icmp .ge 13, 3) := by decide +kernel
theorem dX11_starts_8 : decode cX11_starts 8 = .ok (.aload_n 0, 1) := by decide +kernel
theorem dX11_starts_9 : decode cX11_starts 9 = .ok (.iload_n 1, 1) := by decide +kernel
theorem dX11_starts_10 : decode cX11_starts 10 = .ok (.iload_n 1, 1) := by decide +kernel
theorem dX11_starts_11 : decode cX11_starts 11 = .ok (.iastore, 1) := by decide +kernel
theorem dX11_starts_12 : decode cX11_starts 12 = .ok (.iinc 1 1, 3) := by decide +kernel
theorem dX11_starts_15 : decode cX11_starts 15 = .ok (.goto (-13), 3) := by decide +kernel
theorem dX11_starts_18 : decode cX11_starts 18 = .ok (.return_, 1) := by decide +kernel
theorem dX11_turns_0 : decode cX11_turns 0 = .ok (.aload_n 0, 1) := by decide +kernel
theorem dX11_turns_1 : decode cX11_turns 1 = .ok (.getfield 93, 3) := by decide +kernel
theorem dX11_turns_4 : decode cX11_turns 4 = .ok (.iconst 2, 1) := by decide +kernel
theorem dX11_turns_5 : decode cX11_turns 5 = .ok (.isub, 1) := by decide +kernel
theorem dX11_turns_6 : decode cX11_turns 6 = .ok (.istore_n 2, 1) := by decide +kernel
theorem dX11_turns_7 : decode cX11_turns 7 = .ok (.iload_n 2, 1) := by decide +kernel
theorem dX11_turns_8 : decode cX11_turns 8 = .ok (.ifCond .lt 20, 3) := by decide +kernel
theorem dX11_turns_11 : decode cX11_turns 11 = .ok (.aload_n 1, 1) := by decide +kernel
theorem dX11_turns_12 : decode cX11_turns 12 = .ok (.iload_n 2, 1) := by decide +kernel
theorem dX11_turns_13 : decode cX11_turns 13 = .ok (.iaload, 1) := by decide +kernel
theorem dX11_turns_14 : decode cX11_turns 14 = .ok (.aload_n 1, 1) := by decide +kernel
theorem dX11_turns_15 : decode cX11_turns 15 = .ok (.iload_n 2, 1) := by decide +kernel
theorem dX11_turns_16 : decode cX11_turns 16 = .ok (.iconst 1, 1) := by decide +kernel
theorem dX11_turns_17 : decode cX11_turns 17 = .ok (.iadd, 1) := by decide +kernel
theorem dX11_turns_18 : decode cX11_turns 18 = .ok (.iaload, 1) := by decide +kernel
theorem dX11_turns_19 : decode cX11_turns 19 = .ok (.if_icmp .le 9, 3) := by decide +kernel
theorem dX11_turns_22 : decode cX11_turns 22 = .ok (.iinc 2 (-1), 3) := by decide +kernel
theorem dX11_turns_25 : decode cX11_turns 25 = .ok (.goto (-18), 3) := by decide +kernel
theorem dX11_turns_28 : decode cX11_turns 28 = .ok (.iload_n 2, 1) := by decide +kernel
theorem dX11_turns_29 : decode cX11_turns 29 = .ok (.ifCond .lt 41, 3) := by decide +kernel
theorem dX11_turns_32 : decode cX11_turns 32 = .ok (.aload_n 0, 1) := by decide +kernel
theorem dX11_turns_33 : decode cX11_turns 33 = .ok (.getfield 93, 3) := by decide +kernel
theorem dX11_turns_36 : decode cX11_turns 36 = .ok (.iconst 1, 1) := by decide +kernel
theorem dX11_turns_37 : decode cX11_turns 37 = .ok (.isub, 1) := by decide +kernel
theorem dX11_turns_38 : decode cX11_turns 38 = .ok (.istore_n 3, 1) := by decide +kernel
theorem dX11_turns_39 : decode cX11_turns 39 = .ok (.aload_n 1, 1) := by decide +kernel
theorem dX11_turns_40 : decode cX11_turns 40 = .ok (.iload_n 3, 1) := by decide +kernel
theorem dX11_turns_41 : decode cX11_turns 41 = .ok (.iaload, 1) := by decide +kernel
theorem dX11_turns_42 : decode cX11_turns 42 = .ok (.aload_n 1, 1) := by decide +kernel
theorem dX11_turns_43 : decode cX11_turns 43 = .ok (.iload_n 2, 1) := by decide +kernel
theorem dX11_turns_44 : decode cX11_turns 44 = .ok (.iaload, 1) := by decide +kernel
theorem dX11_turns_45 : decode cX11_turns 45 = .ok (.if_icmp .ge 9, 3) := by decide +kernel
theorem dX11_turns_48 : decode cX11_turns 48 = .ok (.iinc 3 (-1), 3) := by decide +kernel
theorem dX11_turns_51 : decode cX11_turns 51 = .ok (.goto (-12), 3) := by decide +kernel
theorem dX11_turns_54 : decode cX11_turns 54 = .ok (.aload_n 1, 1) := by decide +kernel
theorem dX11_turns_55 : decode cX11_turns 55 = .ok (.iload_n 2, 1) := by decide +kernel
theorem dX11_turns_56 : decode cX11_turns 56 = .ok (.iaload, 1) := by decide +kernel
theorem dX11_turns_57 : decode cX11_turns 57 = .ok (.istore 4, 2) := by decide +kernel
theorem dX11_turns_59 : decode cX11_turns 59 = .ok (.aload_n 1, 1) := by decide +kernel
theorem dX11_turns_60 : decode cX11_turns 60 = .ok (.iload_n 2, 1) := by decide +kernel
theorem dX11_turns_61 : decode cX11_turns 61 = .ok (.aload_n 1, 1) := by decide +kernel
theorem dX11_turns_62 : decode cX11_turns 62 = .ok (.iload_n 3, 1) := by decide +kernel
theorem dX11_turns_63 : decode cX11_turns 63 = .ok (.iaload, 1) := by decide +kernel
theorem dX11_turns_64 : decode cX11_turns 64 = .ok (.iastore, 1) := by decide +kernel
theorem dX11_turns_65 : decode cX11_turns 65 = .ok (.aload_n 1, 1) := by decide +kernel
theorem dX11_turns_66 : decode cX11_turns 66 = .ok (.iload_n 3, 1) := by decide +kernel
theorem dX11_turns_67 : decode cX11_turns 67 = .ok (.iload 4, 2) := by decide +kernel
theorem dX11_turns_69 : decode cX11_turns 69 = .ok (.iastore, 1) := by decide +kernel
theorem dX11_turns_70 : decode cX11_turns 70 = .ok (.iload_n 2, 1) := by decide +kernel
theorem dX11_turns_71 : decode cX11_turns 71 = .ok (.iconst 1, 1) := by decide +kernel
theorem dX11_turns_72 : decode cX11_turns 72 = .ok (.iadd, 1) := by decide +kernel
theorem dX11_turns_73 : decode cX11_turns 73 = .ok (.istore_n 3, 1) := by decide +kernel
theorem dX11_turns_74 : decode cX11_turns 74 = .ok (.aload_n 0, 1) := by decide +kernel
theorem dX11_turns_75 : decode cX11_turns 75 = .ok (.getfield 93, 3) := by decide +kernel
theorem dX11_turns_78 : decode cX11_turns 78 = .ok (.iconst 1, 1) := by decide +kernel
theorem dX11_turns_79 : decode cX11_turns 79 = .ok (.isub, 1) := by decide +kernel
theorem dX11_turns_80 : decode cX11_turns 80 = .ok (.istore 4, 2) := by decide +kernel
theorem dX11_turns_82 : decode cX11_turns 82 = .ok (.iload_n 3, 1) := by decide +kernel
theorem dX11_turns_83 : decode cX11_turns 83 = .ok (.iload 4, 2) := by decide +kernel
theorem dX11_turns_85 : decode cX11_turns 85 = .ok (.if_icmp .ge 30, 3) := by decide +kernel
theorem dX11_turns_88 : decode cX11_turns 88 = .ok (.aload_n 1, 1) := by decide +kernel
theorem dX11_turns_89 : decode cX11_turns 89 = .ok (.iload_n 3, 1) := by decide +kernel
theorem dX11_turns_90 : decode cX11_turns 90 = .ok (.iaload, 1) := by decide +kernel
theorem dX11_turns_91 : decode cX11_turns 91 = .ok (.istore 5, 2) := by decide +kernel
theorem dX11_turns_93 : decode cX11_turns 93 = .ok (.aload_n 1, 1) := by decide +kernel
theorem dX11_turns_94 : decode cX11_turns 94 = .ok (.iload_n 3, 1) := by decide +kernel
theorem dX11_turns_95 : decode cX11_turns 95 = .ok (.aload_n 1, 1) := by decide +kernel
theorem dX11_turns_96 : decode cX11_turns 96 = .ok (.iload 4, 2) := by decide +kernel
theorem dX11_turns_98 : decode cX11_turns 98 = .ok (.iaload, 1) := by decide +kernel
theorem dX11_turns_99 : decode cX11_turns 99 = .ok (.iastore, 1) := by decide +kernel
theorem dX11_turns_100 : decode cX11_turns 100 = .ok (.aload_n 1, 1) := by decide +kernel
theorem dX11_turns_101 : decode cX11_turns 101 = .ok (.iload 4, 2) := by decide +kernel
theorem dX11_turns_103 : decode cX11_turns 103 = .ok (.iload 5, 2) := by decide +kernel
theorem dX11_turns_105 : decode cX11_turns 105 = .ok (.iastore, 1) := by decide +kernel
theorem dX11_turns_106 : decode cX11_turns 106 = .ok (.iinc 3 1, 3) := by decide +kernel
theorem dX11_turns_109 : decode cX11_turns 109 = .ok (.iinc 4 (-1), 3) := by decide +kernel
theorem dX11_turns_112 : decode cX11_turns 112 = .ok (.goto (-30), 3) := by decide +kernel
theorem dX11_turns_115 : decode cX11_turns 115 = .ok (.return_, 1) := by decide +kernel
theorem dX11_rankOf_0 : decode cX11_rankOf 0 = .ok (.iconst 0, 1) := by decide +kernel
theorem dX11_rankOf_1 : decode cX11_rankOf 1 = .ok (.istore_n 2, 1) := by decide +kernel
theorem dX11_rankOf_2 : decode cX11_rankOf 2 = .ok (.iconst 0, 1) := by decide +kernel
theorem dX11_rankOf_3 : decode cX11_rankOf 3 = .ok (.istore_n 3, 1) := by decide +kernel
theorem dX11_rankOf_4 : decode cX11_rankOf 4 = .ok (.iload_n 3, 1) := by decide +kernel
theorem dX11_rankOf_5 : decode cX11_rankOf 5 = .ok (.aload_n 0, 1) := by decide +kernel
theorem dX11_rankOf_6 : decode cX11_rankOf 6 = .ok (.getfield 93, 3) := by decide +kernel
theorem dX11_rankOf_9 : decode cX11_rankOf 9 = .ok (.if_icmp .ge 64, 3) := by decide +kernel
theorem dX11_rankOf_12 : decode cX11_rankOf 12 = .ok (.iconst 0, 1) := by decide +kernel
theorem dX11_rankOf_13 : decode cX11_rankOf 13 = .ok (.istore 4, 2) := by decide +kernel
theorem dX11_rankOf_15 : decode cX11_rankOf 15 = .ok (.iload_n 3, 1) := by decide +kernel
theorem dX11_rankOf_16 : decode cX11_rankOf 16 = .ok (.iconst 1, 1) := by decide +kernel
theorem dX11_rankOf_17 : decode cX11_rankOf 17 = .ok (.iadd, 1) := by decide +kernel
theorem dX11_rankOf_18 : decode cX11_rankOf 18 = .ok (.istore 5, 2) := by decide +kernel
theorem dX11_rankOf_20 : decode cX11_rankOf 20 = .ok (.iload 5, 2) := by decide +kernel
theorem dX11_rankOf_22 : decode cX11_rankOf 22 = .ok (.aload_n 0, 1) := by decide +kernel
theorem dX11_rankOf_23 : decode cX11_rankOf 23 = .ok (.getfield 93, 3) := by decide +kernel
theorem dX11_rankOf_26 : decode cX11_rankOf 26 = .ok (.if_icmp .ge 29, 3) := by decide +kernel
theorem dX11_rankOf_29 : decode cX11_rankOf 29 = .ok (.iload 4, 2) := by decide +kernel
theorem dX11_rankOf_31 : decode cX11_rankOf 31 = .ok (.aload_n 1, 1) := by decide +kernel
theorem dX11_rankOf_32 : decode cX11_rankOf 32 = .ok (.iload 5, 2) := by decide +kernel
theorem dX11_rankOf_34 : decode cX11_rankOf 34 = .ok (.iaload, 1) := by decide +kernel
theorem dX11_rankOf_35 : decode cX11_rankOf 35 = .ok (.aload_n 1, 1) := by decide +kernel
theorem dX11_rankOf_36 : decode cX11_rankOf 36 = .ok (.iload_n 3, 1) := by decide +kernel
theorem dX11_rankOf_37 : decode cX11_rankOf 37 = .ok (.iaload, 1) := by decide +kernel
theorem dX11_rankOf_38 : decode cX11_rankOf 38 = .ok (.if_icmp .ge 7, 3) := by decide +kernel
theorem dX11_rankOf_41 : decode cX11_rankOf 41 = .ok (.iconst 1, 1) := by decide +kernel
theorem dX11_rankOf_42 : decode cX11_rankOf 42 = .ok (.goto 4, 3) := by decide +kernel
theorem dX11_rankOf_45 : decode cX11_rankOf 45 = .ok (.iconst 0, 1) := by decide +kernel
theorem dX11_rankOf_46 : decode cX11_rankOf 46 = .ok (.iadd, 1) := by decide +kernel
theorem dX11_rankOf_47 : decode cX11_rankOf 47 = .ok (.istore 4, 2) := by decide +kernel
theorem dX11_rankOf_49 : decode cX11_rankOf 49 = .ok (.iinc 5 1, 3) := by decide +kernel
theorem dX11_rankOf_52 : decode cX11_rankOf 52 = .ok (.goto (-32), 3) := by decide +kernel
theorem dX11_rankOf_55 : decode cX11_rankOf 55 = .ok (.iload_n 2, 1) := by decide +kernel
theorem dX11_rankOf_56 : decode cX11_rankOf 56 = .ok (.aload_n 0, 1) := by decide +kernel
theorem dX11_rankOf_57 : decode cX11_rankOf 57 = .ok (.getfield 93, 3) := by decide +kernel
theorem dX11_rankOf_60 : decode cX11_rankOf 60 = .ok (.iload_n 3, 1) := by decide +kernel
theorem dX11_rankOf_61 : decode cX11_rankOf 61 = .ok (.isub, 1) := by decide +kernel
theorem dX11_rankOf_62 : decode cX11_rankOf 62 = .ok (.imul, 1) := by decide +kernel
theorem dX11_rankOf_63 : decode cX11_rankOf 63 = .ok (.iload 4, 2) := by decide +kernel
theorem dX11_rankOf_65 : decode cX11_rankOf 65 = .ok (.iadd, 1) := by decide +kernel
theorem dX11_rankOf_66 : decode cX11_rankOf 66 = .ok (.istore_n 2, 1) := by decide +kernel
theorem dX11_rankOf_67 : decode cX11_rankOf 67 = .ok (.iinc 3 1, 3) := by decide +kernel
theorem dX11_rankOf_70 : decode cX11_rankOf 70 = .ok (.goto (-66), 3) := by decide +kernel
theorem dX11_rankOf_73 : decode cX11_rankOf 73 = .ok (.iload_n 2, 1) := by decide +kernel
theorem dX11_rankOf_74 : decode cX11_rankOf 74 = .ok (.ireturn, 1) := by decide +kernel
theorem dX11_rowOf_0 : decode cX11_rowOf 0 = .ok (.iload_n 1, 1) := by decide +kernel
theorem dX11_rowOf_1 : decode cX11_rowOf 1 = .ok (.istore_n 3, 1) := by decide +kernel
theorem dX11_rowOf_2 : decode cX11_rowOf 2 = .ok (.aload_n 0, 1) := by decide +kernel
theorem dX11_rowOf_3 : decode cX11_rowOf 3 = .ok (.invokevirtual 147, 3) := by decide +kernel
theorem dX11_rowOf_6 : decode cX11_rowOf 6 = .ok (.istore 4, 2) := by decide +kernel
theorem dX11_rowOf_8 : decode cX11_rowOf 8 = .ok (.iconst 0, 1) := by decide +kernel
theorem dX11_rowOf_9 : decode cX11_rowOf 9 = .ok (.istore 5, 2) := by decide +kernel
theorem dX11_rowOf_11 : decode cX11_rowOf 11 = .ok (.iconst 0, 1) := by decide +kernel
theorem dX11_rowOf_12 : decode cX11_rowOf 12 = .ok (.istore 6, 2) := by decide +kernel
theorem dX11_rowOf_14 : decode cX11_rowOf 14 = .ok (.iload 6, 2) := by decide +kernel
theorem dX11_rowOf_16 : decode cX11_rowOf 16 = .ok (.aload_n 0, 1) := by decide +kernel
theorem dX11_rowOf_17 : decode cX11_rowOf 17 = .ok (.getfield 93, 3) := by decide +kernel
theorem dX11_rowOf_20 : decode cX11_rowOf 20 = .ok (.if_icmp .ge 93, 3) := by decide +kernel
theorem dX11_rowOf_23 : decode cX11_rowOf 23 = .ok (.iload 4, 2) := by decide +kernel
theorem dX11_rowOf_25 : decode cX11_rowOf 25 = .ok (.aload_n 0, 1) := by decide +kernel
theorem dX11_rowOf_26 : decode cX11_rowOf 26 = .ok (.getfield 93, 3) := by decide +kernel
theorem dX11_rowOf_29 : decode cX11_rowOf 29 = .ok (.iload 6, 2) := by decide +kernel
theorem dX11_rowOf_31 : decode cX11_rowOf 31 = .ok (.isub, 1) := by decide +kernel
theorem dX11_rowOf_32 : decode cX11_rowOf 32 = .ok (.idiv, 1) := by decide +kernel
theorem dX11_rowOf_33 : decode cX11_rowOf 33 = .ok (.istore 4, 2) := by decide +kernel
theorem dX11_rowOf_35 : decode cX11_rowOf 35 = .ok (.iload_n 3, 1) := by decide +kernel
theorem dX11_rowOf_36 : decode cX11_rowOf 36 = .ok (.iload 4, 2) := by decide +kernel
theorem dX11_rowOf_38 : decode cX11_rowOf 38 = .ok (.idiv, 1) := by decide +kernel
theorem dX11_rowOf_39 : decode cX11_rowOf 39 = .ok (.istore 7, 2) := by decide +kernel
theorem dX11_rowOf_41 : decode cX11_rowOf 41 = .ok (.iload_n 3, 1) := by decide +kernel
theorem dX11_rowOf_42 : decode cX11_rowOf 42 = .ok (.iload 4, 2) := by decide +kernel
theorem dX11_rowOf_44 : decode cX11_rowOf 44 = .ok (.irem, 1) := by decide +kernel
theorem dX11_rowOf_45 : decode cX11_rowOf 45 = .ok (.istore_n 3, 1) := by decide +kernel
theorem dX11_rowOf_46 : decode cX11_rowOf 46 = .ok (.iconst 0, 1) := by decide +kernel
theorem dX11_rowOf_47 : decode cX11_rowOf 47 = .ok (.istore 8, 2) := by decide +kernel
theorem dX11_rowOf_49 : decode cX11_rowOf 49 = .ok (.iload 5, 2) := by decide +kernel
theorem dX11_rowOf_51 : decode cX11_rowOf 51 = .ok (.iload 8, 2) := by decide +kernel
theorem dX11_rowOf_53 : decode cX11_rowOf 53 = .ok (.ishr, 1) := by decide +kernel
theorem dX11_rowOf_54 : decode cX11_rowOf 54 = .ok (.iconst 1, 1) := by decide +kernel
theorem dX11_rowOf_55 : decode cX11_rowOf 55 = .ok (.iand, 1) := by decide +kernel
theorem dX11_rowOf_56 : decode cX11_rowOf 56 = .ok (.iconst 1, 1) := by decide +kernel
theorem dX11_rowOf_57 : decode cX11_rowOf 57 = .ok (.if_icmp .eq 8, 3) := by decide +kernel
theorem dX11_rowOf_60 : decode cX11_rowOf 60 = .ok (.iload 7, 2) := by decide +kernel
theorem dX11_rowOf_62 : decode cX11_rowOf 62 = .ok (.ifCond .le 30, 3) := by decide +kernel
theorem dX11_rowOf_65 : decode cX11_rowOf 65 = .ok (.iload 7, 2) := by decide +kernel
theorem dX11_rowOf_67 : decode cX11_rowOf 67 = .ok (.iload 5, 2) := by decide +kernel
theorem dX11_rowOf_69 : decode cX11_rowOf 69 = .ok (.iload 8, 2) := by decide +kernel
theorem dX11_rowOf_71 : decode cX11_rowOf 71 = .ok (.ishr, 1) := by decide +kernel
theorem dX11_rowOf_72 : decode cX11_rowOf 72 = .ok (.iconst 1, 1) := by decide +kernel
theorem dX11_rowOf_73 : decode cX11_rowOf 73 = .ok (.iand, 1) := by decide +kernel
theorem dX11_rowOf_74 : decode cX11_rowOf 74 = .ok (.iconst 1, 1) := by decide +kernel
theorem dX11_rowOf_75 : decode cX11_rowOf 75 = .ok (.if_icmp .ne 7, 3) := by decide +kernel
theorem dX11_rowOf_78 : decode cX11_rowOf 78 = .ok (.iconst 0, 1) := by decide +kernel
theorem dX11_rowOf_79 : decode cX11_rowOf 79 = .ok (.goto 4, 3) := by decide +kernel
theorem dX11_rowOf_82 : decode cX11_rowOf 82 = .ok (.iconst 1, 1) := by decide +kernel
theorem dX11_rowOf_83 : decode cX11_rowOf 83 = .ok (.isub, 1) := by decide +kernel
theorem dX11_rowOf_84 : decode cX11_rowOf 84 = .ok (.istore 7, 2) := by decide +kernel
theorem dX11_rowOf_86 : decode cX11_rowOf 86 = .ok (.iinc 8 1, 3) := by decide +kernel
theorem dX11_rowOf_89 : decode cX11_rowOf 89 = .ok (.goto (-40), 3) := by decide +kernel
theorem dX11_rowOf_92 : decode cX11_rowOf 92 = .ok (.iload 5, 2) := by decide +kernel
theorem dX11_rowOf_94 : decode cX11_rowOf 94 = .ok (.iconst 1, 1) := by decide +kernel
theorem dX11_rowOf_95 : decode cX11_rowOf 95 = .ok (.iload 8, 2) := by decide +kernel
theorem dX11_rowOf_97 : decode cX11_rowOf 97 = .ok (.ishl, 1) := by decide +kernel
theorem dX11_rowOf_98 : decode cX11_rowOf 98 = .ok (.ior, 1) := by decide +kernel
theorem dX11_rowOf_99 : decode cX11_rowOf 99 = .ok (.istore 5, 2) := by decide +kernel
theorem dX11_rowOf_101 : decode cX11_rowOf 101 = .ok (.aload_n 2, 1) := by decide +kernel
theorem dX11_rowOf_102 : decode cX11_rowOf 102 = .ok (.iload 6, 2) := by decide +kernel
theorem dX11_rowOf_104 : decode cX11_rowOf 104 = .ok (.iload 8, 2) := by decide +kernel
theorem dX11_rowOf_106 : decode cX11_rowOf 106 = .ok (.iastore, 1) := by decide +kernel
theorem dX11_rowOf_107 : decode cX11_rowOf 107 = .ok (.iinc 6 1, 3) := by decide +kernel
theorem dX11_rowOf_110 : decode cX11_rowOf 110 = .ok (.goto (-96), 3) := by decide +kernel
theorem dX11_rowOf_113 : decode cX11_rowOf 113 = .ok (.return_, 1) := by decide +kernel
theorem dX11_isRank_0 : decode cX11_isRank 0 = .ok (.iload_n 1, 1) := by decide +kernel
theorem dX11_isRank_1 : decode cX11_isRank 1 = .ok (.i2l, 1) := by decide +kernel
theorem dX11_isRank_2 : decode cX11_isRank 2 = .ok (.lconst 0, 1) := by decide +kernel
theorem dX11_isRank_3 : decode cX11_isRank 3 = .ok (.aload_n 0, 1) := by decide +kernel
theorem dX11_isRank_4 : decode cX11_isRank 4 = .ok (.invokevirtual 147, 3) := by decide +kernel
theorem dX11_isRank_7 : decode cX11_isRank 7 = .ok (.iconst 1, 1) := by decide +kernel
theorem dX11_isRank_8 : decode cX11_isRank 8 = .ok (.isub, 1) := by decide +kernel
theorem dX11_isRank_9 : decode cX11_isRank 9 = .ok (.i2l, 1) := by decide +kernel
theorem dX11_isRank_10 : decode cX11_isRank 10 = .ok (.invokestatic 97, 3) := by decide +kernel
theorem dX11_isRank_13 : decode cX11_isRank 13 = .ok (.ireturn, 1) := by decide +kernel
theorem dX11_order_0 : decode cX11_order 0 = .ok (.aload_n 0, 1) := by decide +kernel
theorem dX11_order_1 : decode cX11_order 1 = .ok (.iload_n 1, 1) := by decide +kernel
theorem dX11_order_2 : decode cX11_order 2 = .ok (.invokevirtual 150, 3) := by decide +kernel
theorem dX11_order_5 : decode cX11_order 5 = .ok (.ifCond .ne 10, 3) := by decide +kernel
theorem dX11_order_8 : decode cX11_order 8 = .ok (.aload_n 0, 1) := by decide +kernel
theorem dX11_order_9 : decode cX11_order 9 = .ok (.bipush (-2), 2) := by decide +kernel
theorem dX11_order_11 : decode cX11_order 11 = .ok (.invokevirtual 120, 3) := by decide +kernel
theorem dX11_order_14 : decode cX11_order 14 = .ok (.ireturn, 1) := by decide +kernel
theorem dX11_order_15 : decode cX11_order 15 = .ok (.aload_n 0, 1) := by decide +kernel
theorem dX11_order_16 : decode cX11_order 16 = .ok (.aload_n 0, 1) := by decide +kernel
theorem dX11_order_17 : decode cX11_order 17 = .ok (.getfield 25, 3) := by decide +kernel
theorem dX11_order_20 : decode cX11_order 20 = .ok (.invokevirtual 153, 3) := by decide +kernel
theorem dX11_order_23 : decode cX11_order 23 = .ok (.istore_n 2, 1) := by decide +kernel
theorem dX11_order_24 : decode cX11_order 24 = .ok (.aload_n 0, 1) := by decide +kernel
theorem dX11_order_25 : decode cX11_order 25 = .ok (.iload_n 1, 1) := by decide +kernel
theorem dX11_order_26 : decode cX11_order 26 = .ok (.aload_n 0, 1) := by decide +kernel
theorem dX11_order_27 : decode cX11_order 27 = .ok (.getfield 25, 3) := by decide +kernel
theorem dX11_order_30 : decode cX11_order 30 = .ok (.invokevirtual 157, 3) := by decide +kernel
theorem dX11_order_33 : decode cX11_order 33 = .ok (.aload_n 0, 1) := by decide +kernel
theorem dX11_order_34 : decode cX11_order 34 = .ok (.iconst 0, 1) := by decide +kernel
theorem dX11_order_35 : decode cX11_order 35 = .ok (.putfield 115, 3) := by decide +kernel
theorem dX11_order_38 : decode cX11_order 38 = .ok (.iload_n 2, 1) := by decide +kernel
theorem dX11_order_39 : decode cX11_order 39 = .ok (.ireturn, 1) := by decide +kernel
theorem dX11_learns_0 : decode cX11_learns 0 = .ok (.aload_n 0, 1) := by decide +kernel
theorem dX11_learns_1 : decode cX11_learns 1 = .ok (.getfield 13, 3) := by decide +kernel
theorem dX11_learns_4 : decode cX11_learns 4 = .ok (.iload_n 1, 1) := by decide +kernel
theorem dX11_learns_5 : decode cX11_learns 5 = .ok (.iaload, 1) := by decide +kernel
theorem dX11_learns_6 : decode cX11_learns 6 = .ok (.istore_n 2, 1) := by decide +kernel
theorem dX11_learns_7 : decode cX11_learns 7 = .ok (.iload_n 2, 1) := by decide +kernel
theorem dX11_learns_8 : decode cX11_learns 8 = .ok (.iconst 2, 1) := by decide +kernel
theorem dX11_learns_9 : decode cX11_learns 9 = .ok (.if_icmp .eq 8, 3) := by decide +kernel
theorem dX11_learns_12 : decode cX11_learns 12 = .ok (.iload_n 2, 1) := by decide +kernel
theorem dX11_learns_13 : decode cX11_learns 13 = .ok (.iconst 5, 1) := by decide +kernel
theorem dX11_learns_14 : decode cX11_learns 14 = .ok (.if_icmp .ne 7, 3) := by decide +kernel
theorem dX11_learns_17 : decode cX11_learns 17 = .ok (.iconst 0, 1) := by decide +kernel
theorem dX11_learns_18 : decode cX11_learns 18 = .ok (.goto 30, 3) := by decide +kernel
theorem dX11_learns_21 : decode cX11_learns 21 = .ok (.iload_n 2, 1) := by decide +kernel
theorem dX11_learns_22 : decode cX11_learns 22 = .ok (.iconst 4, 1) := by decide +kernel
theorem dX11_learns_23 : decode cX11_learns 23 = .ok (.if_icmp .ne 19, 3) := by decide +kernel
theorem dX11_learns_26 : decode cX11_learns 26 = .ok (.aload_n 0, 1) := by decide +kernel
theorem dX11_learns_27 : decode cX11_learns 27 = .ok (.getfield 19, 3) := by decide +kernel
theorem dX11_learns_30 : decode cX11_learns 30 = .ok (.iload_n 1, 1) := by decide +kernel
theorem dX11_learns_31 : decode cX11_learns 31 = .ok (.iaload, 1) := by decide +kernel
theorem dX11_learns_32 : decode cX11_learns 32 = .ok (.aload_n 0, 1) := by decide +kernel
theorem dX11_learns_33 : decode cX11_learns 33 = .ok (.getfield 16, 3) := by decide +kernel
theorem dX11_learns_36 : decode cX11_learns 36 = .ok (.iload_n 1, 1) := by decide +kernel
theorem dX11_learns_37 : decode cX11_learns 37 = .ok (.iaload, 1) := by decide +kernel
theorem dX11_learns_38 : decode cX11_learns 38 = .ok (.ior, 1) := by decide +kernel
theorem dX11_learns_39 : decode cX11_learns 39 = .ok (.goto 9, 3) := by decide +kernel
theorem dX11_learns_42 : decode cX11_learns 42 = .ok (.aload_n 0, 1) := by decide +kernel
theorem dX11_learns_43 : decode cX11_learns 43 = .ok (.getfield 19, 3) := by decide +kernel
theorem dX11_learns_46 : decode cX11_learns 46 = .ok (.iload_n 1, 1) := by decide +kernel
theorem dX11_learns_47 : decode cX11_learns 47 = .ok (.iaload, 1) := by decide +kernel
theorem dX11_learns_48 : decode cX11_learns 48 = .ok (.ireturn, 1) := by decide +kernel
theorem dX11_asks_0 : decode cX11_asks 0 = .ok (.aload_n 0, 1) := by decide +kernel
theorem dX11_asks_1 : decode cX11_asks 1 = .ok (.getfield 13, 3) := by decide +kernel
theorem dX11_asks_4 : decode cX11_asks 4 = .ok (.iload_n 1, 1) := by decide +kernel
theorem dX11_asks_5 : decode cX11_asks 5 = .ok (.iaload, 1) := by decide +kernel
theorem dX11_asks_6 : decode cX11_asks 6 = .ok (.iconst 5, 1) := by decide +kernel
theorem dX11_asks_7 : decode cX11_asks 7 = .ok (.if_icmp .ne 7, 3) := by decide +kernel
theorem dX11_asks_10 : decode cX11_asks 10 = .ok (.iconst 0, 1) := by decide +kernel
theorem dX11_asks_11 : decode cX11_asks 11 = .ok (.goto 9, 3) := by decide +kernel
theorem dX11_asks_14 : decode cX11_asks 14 = .ok (.aload_n 0, 1) := by decide +kernel
theorem dX11_asks_15 : decode cX11_asks 15 = .ok (.getfield 16, 3) := by decide +kernel
theorem dX11_asks_18 : decode cX11_asks 18 = .ok (.iload_n 1, 1) := by decide +kernel
theorem dX11_asks_19 : decode cX11_asks 19 = .ok (.iaload, 1) := by decide +kernel
theorem dX11_asks_20 : decode cX11_asks 20 = .ok (.ireturn, 1) := by decide +kernel
theorem dX11_lives_0 : decode cX11_lives 0 = .ok (.iconst 0, 1) := by decide +kernel
theorem dX11_lives_1 : decode cX11_lives 1 = .ok (.istore_n 2, 1) := by decide +kernel
theorem dX11_lives_2 : decode cX11_lives 2 = .ok (.iconst 0, 1) := by decide +kernel
theorem dX11_lives_3 : decode cX11_lives 3 = .ok (.istore_n 3, 1) := by decide +kernel
theorem dX11_lives_4 : decode cX11_lives 4 = .ok (.iload_n 3, 1) := by decide +kernel
theorem dX11_lives_5 : decode cX11_lives 5 = .ok (.aload_n 0, 1) := by decide +kernel
theorem dX11_lives_6 : decode cX11_lives 6 = .ok (.getfield 93, 3) := by decide +kernel
theorem dX11_lives_9 : decode cX11_lives 9 = .ok (.if_icmp .ge 37, 3) := by decide +kernel
theorem dX11_lives_12 : decode cX11_lives 12 = .ok (.aload_n 0, 1) := by decide +kernel
theorem dX11_lives_13 : decode cX11_lives 13 = .ok (.getfield 46, 3) := by decide +kernel
theorem dX11_lives_16 : decode cX11_lives 16 = .ok (.aload_n 1, 1) := by decide +kernel
theorem dX11_lives_17 : decode cX11_lives 17 = .ok (.iload_n 3, 1) := by decide +kernel
theorem dX11_lives_18 : decode cX11_lives 18 = .ok (.iaload, 1) := by decide +kernel
theorem dX11_lives_19 : decode cX11_lives 19 = .ok (.iload_n 2, 1) := by decide +kernel
theorem dX11_lives_20 : decode cX11_lives 20 = .ok (.iastore, 1) := by decide +kernel
theorem dX11_lives_21 : decode cX11_lives 21 = .ok (.aload_n 0, 1) := by decide +kernel
theorem dX11_lives_22 : decode cX11_lives 22 = .ok (.getfield 55, 3) := by decide +kernel
theorem dX11_lives_25 : decode cX11_lives 25 = .ok (.aload_n 1, 1) := by decide +kernel
theorem dX11_lives_26 : decode cX11_lives 26 = .ok (.iload_n 3, 1) := by decide +kernel
theorem dX11_lives_27 : decode cX11_lives 27 = .ok (.iaload, 1) := by decide +kernel
theorem dX11_lives_28 : decode cX11_lives 28 = .ok (.iload_n 3, 1) := by decide +kernel
theorem dX11_lives_29 : decode cX11_lives 29 = .ok (.iastore, 1) := by decide +kernel
theorem dX11_lives_30 : decode cX11_lives 30 = .ok (.iload_n 2, 1) := by decide +kernel
theorem dX11_lives_31 : decode cX11_lives 31 = .ok (.aload_n 0, 1) := by decide +kernel
theorem dX11_lives_32 : decode cX11_lives 32 = .ok (.aload_n 1, 1) := by decide +kernel
theorem dX11_lives_33 : decode cX11_lives 33 = .ok (.iload_n 3, 1) := by decide +kernel
theorem dX11_lives_34 : decode cX11_lives 34 = .ok (.iaload, 1) := by decide +kernel
theorem dX11_lives_35 : decode cX11_lives 35 = .ok (.invokevirtual 161, 3) := by decide +kernel
theorem dX11_lives_38 : decode cX11_lives 38 = .ok (.ior, 1) := by decide +kernel
theorem dX11_lives_39 : decode cX11_lives 39 = .ok (.istore_n 2, 1) := by decide +kernel
theorem dX11_lives_40 : decode cX11_lives 40 = .ok (.iinc 3 1, 3) := by decide +kernel
theorem dX11_lives_43 : decode cX11_lives 43 = .ok (.goto (-39), 3) := by decide +kernel
theorem dX11_lives_46 : decode cX11_lives 46 = .ok (.aload_n 0, 1) := by decide +kernel
theorem dX11_lives_47 : decode cX11_lives 47 = .ok (.iconst 0, 1) := by decide +kernel
theorem dX11_lives_48 : decode cX11_lives 48 = .ok (.putfield 164, 3) := by decide +kernel
theorem dX11_lives_51 : decode cX11_lives 51 = .ok (.iconst 0, 1) := by decide +kernel
theorem dX11_lives_52 : decode cX11_lives 52 = .ok (.istore_n 3, 1) := by decide +kernel
theorem dX11_lives_53 : decode cX11_lives 53 = .ok (.iload_n 3, 1) := by decide +kernel
theorem dX11_lives_54 : decode cX11_lives 54 = .ok (.aload_n 0, 1) := by decide +kernel
theorem dX11_lives_55 : decode cX11_lives 55 = .ok (.getfield 93, 3) := by decide +kernel
theorem dX11_lives_58 : decode cX11_lives 58 = .ok (.if_icmp .ge 179, 3) := by decide +kernel
theorem dX11_lives_61 : decode cX11_lives 61 = .ok (.iconst 0, 1) := by decide +kernel
theorem dX11_lives_62 : decode cX11_lives 62 = .ok (.istore 4, 2) := by decide +kernel
theorem dX11_lives_64 : decode cX11_lives 64 = .ok (.iconst 0, 1) := by decide +kernel
theorem dX11_lives_65 : decode cX11_lives 65 = .ok (.istore 5, 2) := by decide +kernel
theorem dX11_lives_67 : decode cX11_lives 67 = .ok (.iload 5, 2) := by decide +kernel
theorem dX11_lives_69 : decode cX11_lives 69 = .ok (.aload_n 0, 1) := by decide +kernel
theorem dX11_lives_70 : decode cX11_lives 70 = .ok (.getfield 103, 3) := by decide +kernel
theorem dX11_lives_73 : decode cX11_lives 73 = .ok (.if_icmp .ge 104, 3) := by decide +kernel
theorem dX11_lives_76 : decode cX11_lives 76 = .ok (.aload_n 0, 1) := by decide +kernel
theorem dX11_lives_77 : decode cX11_lives 77 = .ok (.getfield 13, 3) := by decide +kernel
theorem dX11_lives_80 : decode cX11_lives 80 = .ok (.iload_n 3, 1) := by decide +kernel
theorem dX11_lives_81 : decode cX11_lives 81 = .ok (.iaload, 1) := by decide +kernel
theorem dX11_lives_82 : decode cX11_lives 82 = .ok (.iconst 1, 1) := by decide +kernel
theorem dX11_lives_83 : decode cX11_lives 83 = .ok (.if_icmp .eq 94, 3) := by decide +kernel
theorem dX11_lives_86 : decode cX11_lives 86 = .ok (.aload_n 0, 1) := by decide +kernel
theorem dX11_lives_87 : decode cX11_lives 87 = .ok (.getfield 13, 3) := by decide +kernel
theorem dX11_lives_90 : decode cX11_lives 90 = .ok (.iload_n 3, 1) := by decide +kernel
theorem dX11_lives_91 : decode cX11_lives 91 = .ok (.iaload, 1) := by decide +kernel
theorem dX11_lives_92 : decode cX11_lives 92 = .ok (.iconst 4, 1) := by decide +kernel
theorem dX11_lives_93 : decode cX11_lives 93 = .ok (.if_icmp .eq 84, 3) := by decide +kernel
theorem dX11_lives_96 : decode cX11_lives 96 = .ok (.aload_n 0, 1) := by decide +kernel
theorem dX11_lives_97 : decode cX11_lives 97 = .ok (.getfield 28, 3) := by decide +kernel
theorem dX11_lives_100 : decode cX11_lives 100 = .ok (.iload 5, 2) := by decide +kernel
theorem dX11_lives_102 : decode cX11_lives 102 = .ok (.iaload, 1) := by decide +kernel
theorem dX11_lives_103 : decode cX11_lives 103 = .ok (.istore 6, 2) := by decide +kernel
theorem dX11_lives_105 : decode cX11_lives 105 = .ok (.aload_n 0, 1) := by decide +kernel
theorem dX11_lives_106 : decode cX11_lives 106 = .ok (.getfield 13, 3) := by decide +kernel
theorem dX11_lives_109 : decode cX11_lives 109 = .ok (.iload 6, 2) := by decide +kernel
theorem dX11_lives_111 : decode cX11_lives 111 = .ok (.iaload, 1) := by decide +kernel
theorem dX11_lives_112 : decode cX11_lives 112 = .ok (.iconst 3, 1) := by decide +kernel
theorem dX11_lives_113 : decode cX11_lives 113 = .ok (.if_icmp .eq 18, 3) := by decide +kernel
theorem dX11_lives_116 : decode cX11_lives 116 = .ok (.aload_n 0, 1) := by decide +kernel
theorem dX11_lives_117 : decode cX11_lives 117 = .ok (.getfield 13, 3) := by decide +kernel
theorem dX11_lives_120 : decode cX11_lives 120 = .ok (.iload 6, 2) := by decide +kernel
theorem dX11_lives_122 : decode cX11_lives 122 = .ok (.iaload, 1) := by decide +kernel
theorem dX11_lives_123 : decode cX11_lives 123 = .ok (.iconst 5, 1) := by decide +kernel
theorem dX11_lives_124 : decode cX11_lives 124 = .ok (.if_icmp .eq 7, 3) := by decide +kernel
theorem dX11_lives_127 : decode cX11_lives 127 = .ok (.iconst 1, 1) := by decide +kernel
theorem dX11_lives_128 : decode cX11_lives 128 = .ok (.goto 4, 3) := by decide +kernel
theorem dX11_lives_131 : decode cX11_lives 131 = .ok (.iconst 0, 1) := by decide +kernel
theorem dX11_lives_132 : decode cX11_lives 132 = .ok (.istore 7, 2) := by decide +kernel
theorem dX11_lives_134 : decode cX11_lives 134 = .ok (.iload 4, 2) := by decide +kernel
theorem dX11_lives_136 : decode cX11_lives 136 = .ok (.iload 6, 2) := by decide +kernel
theorem dX11_lives_138 : decode cX11_lives 138 = .ok (.iload_n 3, 1) := by decide +kernel
theorem dX11_lives_139 : decode cX11_lives 139 = .ok (.if_icmp .ge 28, 3) := by decide +kernel
theorem dX11_lives_142 : decode cX11_lives 142 = .ok (.iload 7, 2) := by decide +kernel
theorem dX11_lives_144 : decode cX11_lives 144 = .ok (.ifCond .eq 23, 3) := by decide +kernel
theorem dX11_lives_147 : decode cX11_lives 147 = .ok (.aload_n 0, 1) := by decide +kernel
theorem dX11_lives_148 : decode cX11_lives 148 = .ok (.getfield 52, 3) := by decide +kernel
theorem dX11_lives_151 : decode cX11_lives 151 = .ok (.iload 6, 2) := by decide +kernel
theorem dX11_lives_153 : decode cX11_lives 153 = .ok (.iaload, 1) := by decide +kernel
theorem dX11_lives_154 : decode cX11_lives 154 = .ok (.iconst 1, 1) := by decide +kernel
theorem dX11_lives_155 : decode cX11_lives 155 = .ok (.aload_n 0, 1) := by decide +kernel
theorem dX11_lives_156 : decode cX11_lives 156 = .ok (.getfield 31, 3) := by decide +kernel
theorem dX11_lives_159 : decode cX11_lives 159 = .ok (.iload 5, 2) := by decide +kernel
theorem dX11_lives_161 : decode cX11_lives 161 = .ok (.iaload, 1) := by decide +kernel
theorem dX11_lives_162 : decode cX11_lives 162 = .ok (.ishl, 1) := by decide +kernel
theorem dX11_lives_163 : decode cX11_lives 163 = .ok (.iand, 1) := by decide +kernel
theorem dX11_lives_164 : decode cX11_lives 164 = .ok (.goto 4, 3) := by decide +kernel
theorem dX11_lives_167 : decode cX11_lives 167 = .ok (.iconst 0, 1) := by decide +kernel
theorem dX11_lives_168 : decode cX11_lives 168 = .ok (.ior, 1) := by decide +kernel
theorem dX11_lives_169 : decode cX11_lives 169 = .ok (.istore 4, 2) := by decide +kernel
theorem dX11_lives_171 : decode cX11_lives 171 = .ok (.iinc 5 1, 3) := by decide +kernel
theorem dX11_lives_174 : decode cX11_lives 174 = .ok (.goto (-107), 3) := by decide +kernel
theorem dX11_lives_177 : decode cX11_lives 177 = .ok (.aload_n 0, 1) := by decide +kernel
theorem dX11_lives_178 : decode cX11_lives 178 = .ok (.getfield 49, 3) := by decide +kernel
theorem dX11_lives_181 : decode cX11_lives 181 = .ok (.iload_n 3, 1) := by decide +kernel
theorem dX11_lives_182 : decode cX11_lives 182 = .ok (.iload 4, 2) := by decide +kernel
theorem dX11_lives_184 : decode cX11_lives 184 = .ok (.iastore, 1) := by decide +kernel
theorem dX11_lives_185 : decode cX11_lives 185 = .ok (.aload_n 0, 1) := by decide +kernel
theorem dX11_lives_186 : decode cX11_lives 186 = .ok (.getfield 52, 3) := by decide +kernel
theorem dX11_lives_189 : decode cX11_lives 189 = .ok (.iload_n 3, 1) := by decide +kernel
theorem dX11_lives_190 : decode cX11_lives 190 = .ok (.aload_n 0, 1) := by decide +kernel
theorem dX11_lives_191 : decode cX11_lives 191 = .ok (.getfield 46, 3) := by decide +kernel
theorem dX11_lives_194 : decode cX11_lives 194 = .ok (.iload_n 3, 1) := by decide +kernel
theorem dX11_lives_195 : decode cX11_lives 195 = .ok (.iaload, 1) := by decide +kernel
theorem dX11_lives_196 : decode cX11_lives 196 = .ok (.iload 4, 2) := by decide +kernel
theorem dX11_lives_198 : decode cX11_lives 198 = .ok (.ior, 1) := by decide +kernel
theorem dX11_lives_199 : decode cX11_lives 199 = .ok (.iastore, 1) := by decide +kernel
theorem dX11_lives_200 : decode cX11_lives 200 = .ok (.aload_n 0, 1) := by decide +kernel
theorem dX11_lives_201 : decode cX11_lives 201 = .ok (.dup, 1) := by decide +kernel
theorem dX11_lives_202 : decode cX11_lives 202 = .ok (.getfield 164, 3) := by decide +kernel
theorem dX11_lives_205 : decode cX11_lives 205 = .ok (.aload_n 0, 1) := by decide +kernel
theorem dX11_lives_206 : decode cX11_lives 206 = .ok (.iload_n 3, 1) := by decide +kernel
theorem dX11_lives_207 : decode cX11_lives 207 = .ok (.invokevirtual 167, 3) := by decide +kernel
theorem dX11_lives_210 : decode cX11_lives 210 = .ok (.aload_n 0, 1) := by decide +kernel
theorem dX11_lives_211 : decode cX11_lives 211 = .ok (.getfield 52, 3) := by decide +kernel
theorem dX11_lives_214 : decode cX11_lives 214 = .ok (.iload_n 3, 1) := by decide +kernel
theorem dX11_lives_215 : decode cX11_lives 215 = .ok (.iaload, 1) := by decide +kernel
theorem dX11_lives_216 : decode cX11_lives 216 = .ok (.iconst (-1), 1) := by decide +kernel
theorem dX11_lives_217 : decode cX11_lives 217 = .ok (.ixor, 1) := by decide +kernel
theorem dX11_lives_218 : decode cX11_lives 218 = .ok (.iand, 1) := by decide +kernel
theorem dX11_lives_219 : decode cX11_lives 219 = .ok (.ifCond .ne 7, 3) := by decide +kernel
theorem dX11_lives_222 : decode cX11_lives 222 = .ok (.iconst 1, 1) := by decide +kernel
theorem dX11_lives_223 : decode cX11_lives 223 = .ok (.goto 4, 3) := by decide +kernel
theorem dX11_lives_226 : decode cX11_lives 226 = .ok (.iconst 0, 1) := by decide +kernel
theorem dX11_lives_227 : decode cX11_lives 227 = .ok (.iadd, 1) := by decide +kernel
theorem dX11_lives_228 : decode cX11_lives 228 = .ok (.putfield 164, 3) := by decide +kernel
theorem dX11_lives_231 : decode cX11_lives 231 = .ok (.iinc 3 1, 3) := by decide +kernel
theorem dX11_lives_234 : decode cX11_lives 234 = .ok (.goto (-181), 3) := by decide +kernel
theorem dX11_lives_237 : decode cX11_lives 237 = .ok (.return_, 1) := by decide +kernel
theorem dX11_lived_0 : decode cX11_lived 0 = .ok (.aload_n 0, 1) := by decide +kernel
theorem dX11_lived_1 : decode cX11_lived 1 = .ok (.iload_n 1, 1) := by decide +kernel
theorem dX11_lived_2 : decode cX11_lived 2 = .ok (.invokevirtual 124, 3) := by decide +kernel
theorem dX11_lived_5 : decode cX11_lived 5 = .ok (.ifCond .eq 12, 3) := by decide +kernel
theorem dX11_lived_8 : decode cX11_lived 8 = .ok (.aload_n 0, 1) := by decide +kernel
theorem dX11_lived_9 : decode cX11_lived 9 = .ok (.getfield 25, 3) := by decide +kernel
theorem dX11_lived_12 : decode cX11_lived 12 = .ok (.iload_n 1, 1) := by decide +kernel
theorem dX11_lived_13 : decode cX11_lived 13 = .ok (.iaload, 1) := by decide +kernel
theorem dX11_lived_14 : decode cX11_lived 14 = .ok (.goto 9, 3) := by decide +kernel
theorem dX11_lived_17 : decode cX11_lived 17 = .ok (.aload_n 0, 1) := by decide +kernel
theorem dX11_lived_18 : decode cX11_lived 18 = .ok (.bipush (-2), 2) := by decide +kernel
theorem dX11_lived_20 : decode cX11_lived 20 = .ok (.invokevirtual 120, 3) := by decide +kernel
theorem dX11_lived_23 : decode cX11_lived 23 = .ok (.ireturn, 1) := by decide +kernel
theorem dX11_knows_0 : decode cX11_knows 0 = .ok (.aload_n 0, 1) := by decide +kernel
theorem dX11_knows_1 : decode cX11_knows 1 = .ok (.iload_n 1, 1) := by decide +kernel
theorem dX11_knows_2 : decode cX11_knows 2 = .ok (.invokevirtual 124, 3) := by decide +kernel
theorem dX11_knows_5 : decode cX11_knows 5 = .ok (.ifCond .ne 10, 3) := by decide +kernel
theorem dX11_knows_8 : decode cX11_knows 8 = .ok (.aload_n 0, 1) := by decide +kernel
theorem dX11_knows_9 : decode cX11_knows 9 = .ok (.bipush (-2), 2) := by decide +kernel
theorem dX11_knows_11 : decode cX11_knows 11 = .ok (.invokevirtual 120, 3) := by decide +kernel
theorem dX11_knows_14 : decode cX11_knows 14 = .ok (.ireturn, 1) := by decide +kernel
theorem dX11_knows_15 : decode cX11_knows 15 = .ok (.aload_n 0, 1) := by decide +kernel
theorem dX11_knows_16 : decode cX11_knows 16 = .ok (.aload_n 0, 1) := by decide +kernel
theorem dX11_knows_17 : decode cX11_knows 17 = .ok (.getfield 25, 3) := by decide +kernel
theorem dX11_knows_20 : decode cX11_knows 20 = .ok (.invokevirtual 170, 3) := by decide +kernel
theorem dX11_knows_23 : decode cX11_knows 23 = .ok (.aload_n 0, 1) := by decide +kernel
theorem dX11_knows_24 : decode cX11_knows 24 = .ok (.getfield 52, 3) := by decide +kernel
theorem dX11_knows_27 : decode cX11_knows 27 = .ok (.iload_n 1, 1) := by decide +kernel
theorem dX11_knows_28 : decode cX11_knows 28 = .ok (.iaload, 1) := by decide +kernel
theorem dX11_knows_29 : decode cX11_knows 29 = .ok (.ireturn, 1) := by decide +kernel
theorem dX11_reads_0 : decode cX11_reads 0 = .ok (.aload_n 0, 1) := by decide +kernel
theorem dX11_reads_1 : decode cX11_reads 1 = .ok (.iload_n 1, 1) := by decide +kernel
theorem dX11_reads_2 : decode cX11_reads 2 = .ok (.invokevirtual 124, 3) := by decide +kernel
theorem dX11_reads_5 : decode cX11_reads 5 = .ok (.ifCond .ne 10, 3) := by decide +kernel
theorem dX11_reads_8 : decode cX11_reads 8 = .ok (.aload_n 0, 1) := by decide +kernel
theorem dX11_reads_9 : decode cX11_reads 9 = .ok (.bipush (-2), 2) := by decide +kernel
theorem dX11_reads_11 : decode cX11_reads 11 = .ok (.invokevirtual 120, 3) := by decide +kernel
theorem dX11_reads_14 : decode cX11_reads 14 = .ok (.ireturn, 1) := by decide +kernel
theorem dX11_reads_15 : decode cX11_reads 15 = .ok (.aload_n 0, 1) := by decide +kernel
theorem dX11_reads_16 : decode cX11_reads 16 = .ok (.aload_n 0, 1) := by decide +kernel
theorem dX11_reads_17 : decode cX11_reads 17 = .ok (.getfield 25, 3) := by decide +kernel
theorem dX11_reads_20 : decode cX11_reads 20 = .ok (.invokevirtual 170, 3) := by decide +kernel
theorem dX11_reads_23 : decode cX11_reads 23 = .ok (.aload_n 0, 1) := by decide +kernel
theorem dX11_reads_24 : decode cX11_reads 24 = .ok (.getfield 49, 3) := by decide +kernel
theorem dX11_reads_27 : decode cX11_reads 27 = .ok (.iload_n 1, 1) := by decide +kernel
theorem dX11_reads_28 : decode cX11_reads 28 = .ok (.iaload, 1) := by decide +kernel
theorem dX11_reads_29 : decode cX11_reads 29 = .ok (.ireturn, 1) := by decide +kernel
theorem dX11_missing_0 : decode cX11_missing 0 = .ok (.aload_n 0, 1) := by decide +kernel
theorem dX11_missing_1 : decode cX11_missing 1 = .ok (.iload_n 1, 1) := by decide +kernel
theorem dX11_missing_2 : decode cX11_missing 2 = .ok (.invokevirtual 124, 3) := by decide +kernel
theorem dX11_missing_5 : decode cX11_missing 5 = .ok (.ifCond .ne 10, 3) := by decide +kernel
theorem dX11_missing_8 : decode cX11_missing 8 = .ok (.aload_n 0, 1) := by decide +kernel
theorem dX11_missing_9 : decode cX11_missing 9 = .ok (.bipush (-2), 2) := by decide +kernel
theorem dX11_missing_11 : decode cX11_missing 11 = .ok (.invokevirtual 120, 3) := by decide +kernel
theorem dX11_missing_14 : decode cX11_missing 14 = .ok (.ireturn, 1) := by decide +kernel
theorem dX11_missing_15 : decode cX11_missing 15 = .ok (.aload_n 0, 1) := by decide +kernel
theorem dX11_missing_16 : decode cX11_missing 16 = .ok (.aload_n 0, 1) := by decide +kernel
theorem dX11_missing_17 : decode cX11_missing 17 = .ok (.getfield 25, 3) := by decide +kernel
theorem dX11_missing_20 : decode cX11_missing 20 = .ok (.invokevirtual 170, 3) := by decide +kernel
theorem dX11_missing_23 : decode cX11_missing 23 = .ok (.aload_n 0, 1) := by decide +kernel
theorem dX11_missing_24 : decode cX11_missing 24 = .ok (.iload_n 1, 1) := by decide +kernel
theorem dX11_missing_25 : decode cX11_missing 25 = .ok (.invokevirtual 167, 3) := by decide +kernel
theorem dX11_missing_28 : decode cX11_missing 28 = .ok (.aload_n 0, 1) := by decide +kernel
theorem dX11_missing_29 : decode cX11_missing 29 = .ok (.getfield 52, 3) := by decide +kernel
theorem dX11_missing_32 : decode cX11_missing 32 = .ok (.iload_n 1, 1) := by decide +kernel
theorem dX11_missing_33 : decode cX11_missing 33 = .ok (.iaload, 1) := by decide +kernel
theorem dX11_missing_34 : decode cX11_missing 34 = .ok (.iconst (-1), 1) := by decide +kernel
theorem dX11_missing_35 : decode cX11_missing 35 = .ok (.ixor, 1) := by decide +kernel
theorem dX11_missing_36 : decode cX11_missing 36 = .ok (.iand, 1) := by decide +kernel
theorem dX11_missing_37 : decode cX11_missing 37 = .ok (.ireturn, 1) := by decide +kernel
theorem dX11_first_0 : decode cX11_first 0 = .ok (.iload_n 1, 1) := by decide +kernel
theorem dX11_first_1 : decode cX11_first 1 = .ok (.i2l, 1) := by decide +kernel
theorem dX11_first_2 : decode cX11_first 2 = .ok (.lconst 0, 1) := by decide +kernel
theorem dX11_first_3 : decode cX11_first 3 = .ok (.lconst 1, 1) := by decide +kernel
theorem dX11_first_4 : decode cX11_first 4 = .ok (.invokestatic 97, 3) := by decide +kernel
theorem dX11_first_7 : decode cX11_first 7 = .ok (.ifCond .ne 10, 3) := by decide +kernel
theorem dX11_first_10 : decode cX11_first 10 = .ok (.aload_n 0, 1) := by decide +kernel
theorem dX11_first_11 : decode cX11_first 11 = .ok (.bipush (-2), 2) := by decide +kernel
theorem dX11_first_13 : decode cX11_first 13 = .ok (.invokevirtual 120, 3) := by decide +kernel
theorem dX11_first_16 : decode cX11_first 16 = .ok (.ireturn, 1) := by decide +kernel
theorem dX11_first_17 : decode cX11_first 17 = .ok (.aload_n 0, 1) := by decide +kernel
theorem dX11_first_18 : decode cX11_first 18 = .ok (.aload_n 0, 1) := by decide +kernel
theorem dX11_first_19 : decode cX11_first 19 = .ok (.getfield 25, 3) := by decide +kernel
theorem dX11_first_22 : decode cX11_first 22 = .ok (.invokevirtual 170, 3) := by decide +kernel
theorem dX11_first_25 : decode cX11_first 25 = .ok (.iconst (-1), 1) := by decide +kernel
theorem dX11_first_26 : decode cX11_first 26 = .ok (.istore_n 2, 1) := by decide +kernel
theorem dX11_first_27 : decode cX11_first 27 = .ok (.aload_n 0, 1) := by decide +kernel
theorem dX11_first_28 : decode cX11_first 28 = .ok (.getfield 93, 3) := by decide +kernel
theorem dX11_first_31 : decode cX11_first 31 = .ok (.iconst 1, 1) := by decide +kernel
theorem dX11_first_32 : decode cX11_first 32 = .ok (.isub, 1) := by decide +kernel
theorem dX11_first_33 : decode cX11_first 33 = .ok (.istore_n 3, 1) := by decide +kernel
theorem dX11_first_34 : decode cX11_first 34 = .ok (.iload_n 3, 1) := by decide +kernel
theorem dX11_first_35 : decode cX11_first 35 = .ok (.ifCond .lt 47, 3) := by decide +kernel
theorem dX11_first_38 : decode cX11_first 38 = .ok (.aload_n 0, 1) := by decide +kernel
theorem dX11_first_39 : decode cX11_first 39 = .ok (.aload_n 0, 1) := by decide +kernel
theorem dX11_first_40 : decode cX11_first 40 = .ok (.getfield 25, 3) := by decide +kernel
theorem dX11_first_43 : decode cX11_first 43 = .ok (.iload_n 3, 1) := by decide +kernel
theorem dX11_first_44 : decode cX11_first 44 = .ok (.iaload, 1) := by decide +kernel
theorem dX11_first_45 : decode cX11_first 45 = .ok (.invokevirtual 167, 3) := by decide +kernel
theorem dX11_first_48 : decode cX11_first 48 = .ok (.aload_n 0, 1) := by decide +kernel
theorem dX11_first_49 : decode cX11_first 49 = .ok (.getfield 52, 3) := by decide +kernel
theorem dX11_first_52 : decode cX11_first 52 = .ok (.aload_n 0, 1) := by decide +kernel
theorem dX11_first_53 : decode cX11_first 53 = .ok (.getfield 25, 3) := by decide +kernel
theorem dX11_first_56 : decode cX11_first 56 = .ok (.iload_n 3, 1) := by decide +kernel
theorem dX11_first_57 : decode cX11_first 57 = .ok (.iaload, 1) := by decide +kernel
theorem dX11_first_58 : decode cX11_first 58 = .ok (.iaload, 1) := by decide +kernel
theorem dX11_first_59 : decode cX11_first 59 = .ok (.iconst (-1), 1) := by decide +kernel
theorem dX11_first_60 : decode cX11_first 60 = .ok (.ixor, 1) := by decide +kernel
theorem dX11_first_61 : decode cX11_first 61 = .ok (.iand, 1) := by decide +kernel
theorem dX11_first_62 : decode cX11_first 62 = .ok (.ifCond .ne 7, 3) := by decide +kernel
theorem dX11_first_65 : decode cX11_first 65 = .ok (.iload_n 2, 1) := by decide +kernel
theorem dX11_first_66 : decode cX11_first 66 = .ok (.goto 9, 3) := by decide +kernel
theorem dX11_first_69 : decode cX11_first 69 = .ok (.aload_n 0, 1) := by decide +kernel
theorem dX11_first_70 : decode cX11_first 70 = .ok (.getfield 25, 3) := by decide +kernel
theorem dX11_first_73 : decode cX11_first 73 = .ok (.iload_n 3, 1) := by decide +kernel
theorem dX11_first_74 : decode cX11_first 74 = .ok (.iaload, 1) := by decide +kernel
theorem dX11_first_75 : decode cX11_first 75 = .ok (.istore_n 2, 1) := by decide +kernel
theorem dX11_first_76 : decode cX11_first 76 = .ok (.iinc 3 (-1), 3) := by decide +kernel
theorem dX11_first_79 : decode cX11_first 79 = .ok (.goto (-45), 3) := by decide +kernel
theorem dX11_first_82 : decode cX11_first 82 = .ok (.iload_n 1, 1) := by decide +kernel
theorem dX11_first_83 : decode cX11_first 83 = .ok (.ifCond .ne 7, 3) := by decide +kernel
theorem dX11_first_86 : decode cX11_first 86 = .ok (.iload_n 2, 1) := by decide +kernel
theorem dX11_first_87 : decode cX11_first 87 = .ok (.goto 7, 3) := by decide +kernel
theorem dX11_first_90 : decode cX11_first 90 = .ok (.aload_n 0, 1) := by decide +kernel
theorem dX11_first_91 : decode cX11_first 91 = .ok (.getfield 164, 3) := by decide +kernel
theorem dX11_first_94 : decode cX11_first 94 = .ok (.ireturn, 1) := by decide +kernel
theorem dX11_cards_0 : decode cX11_cards 0 = .ok (.aload_n 0, 1) := by decide +kernel
theorem dX11_cards_1 : decode cX11_cards 1 = .ok (.iload_n 1, 1) := by decide +kernel
theorem dX11_cards_2 : decode cX11_cards 2 = .ok (.invokevirtual 124, 3) := by decide +kernel
theorem dX11_cards_5 : decode cX11_cards 5 = .ok (.ifCond .ne 10, 3) := by decide +kernel
theorem dX11_cards_8 : decode cX11_cards 8 = .ok (.aload_n 0, 1) := by decide +kernel
theorem dX11_cards_9 : decode cX11_cards 9 = .ok (.bipush (-2), 2) := by decide +kernel
theorem dX11_cards_11 : decode cX11_cards 11 = .ok (.invokevirtual 120, 3) := by decide +kernel
theorem dX11_cards_14 : decode cX11_cards 14 = .ok (.ireturn, 1) := by decide +kernel
theorem dX11_cards_15 : decode cX11_cards 15 = .ok (.aload_n 0, 1) := by decide +kernel
theorem dX11_cards_16 : decode cX11_cards 16 = .ok (.aload_n 0, 1) := by decide +kernel
theorem dX11_cards_17 : decode cX11_cards 17 = .ok (.getfield 25, 3) := by decide +kernel
theorem dX11_cards_20 : decode cX11_cards 20 = .ok (.invokevirtual 170, 3) := by decide +kernel
theorem dX11_cards_23 : decode cX11_cards 23 = .ok (.iconst 0, 1) := by decide +kernel
theorem dX11_cards_24 : decode cX11_cards 24 = .ok (.istore_n 2, 1) := by decide +kernel
theorem dX11_cards_25 : decode cX11_cards 25 = .ok (.iconst 0, 1) := by decide +kernel
theorem dX11_cards_26 : decode cX11_cards 26 = .ok (.istore_n 3, 1) := by decide +kernel
theorem dX11_cards_27 : decode cX11_cards 27 = .ok (.iload_n 3, 1) := by decide +kernel
theorem dX11_cards_28 : decode cX11_cards 28 = .ok (.iload_n 1, 1) := by decide +kernel
theorem dX11_cards_29 : decode cX11_cards 29 = .ok (.if_icmp .ge 18, 3) := by decide +kernel
theorem dX11_cards_32 : decode cX11_cards 32 = .ok (.iload_n 2, 1) := by decide +kernel
theorem dX11_cards_33 : decode cX11_cards 33 = .ok (.aload_n 0, 1) := by decide +kernel
theorem dX11_cards_34 : decode cX11_cards 34 = .ok (.getfield 52, 3) := by decide +kernel
theorem dX11_cards_37 : decode cX11_cards 37 = .ok (.iload_n 3, 1) := by decide +kernel
theorem dX11_cards_38 : decode cX11_cards 38 = .ok (.iaload, 1) := by decide +kernel
theorem dX11_cards_39 : decode cX11_cards 39 = .ok (.ior, 1) := by decide +kernel
theorem dX11_cards_40 : decode cX11_cards 40 = .ok (.istore_n 2, 1) := by decide +kernel
theorem dX11_cards_41 : decode cX11_cards 41 = .ok (.iinc 3 1, 3) := by decide +kernel
theorem dX11_cards_44 : decode cX11_cards 44 = .ok (.goto (-17), 3) := by decide +kernel
theorem dX11_cards_47 : decode cX11_cards 47 = .ok (.iload_n 2, 1) := by decide +kernel
theorem dX11_cards_48 : decode cX11_cards 48 = .ok (.aload_n 0, 1) := by decide +kernel
theorem dX11_cards_49 : decode cX11_cards 49 = .ok (.getfield 52, 3) := by decide +kernel
theorem dX11_cards_52 : decode cX11_cards 52 = .ok (.iload_n 1, 1) := by decide +kernel
theorem dX11_cards_53 : decode cX11_cards 53 = .ok (.iaload, 1) := by decide +kernel
theorem dX11_cards_54 : decode cX11_cards 54 = .ok (.iconst (-1), 1) := by decide +kernel
theorem dX11_cards_55 : decode cX11_cards 55 = .ok (.ixor, 1) := by decide +kernel
theorem dX11_cards_56 : decode cX11_cards 56 = .ok (.iand, 1) := by decide +kernel
theorem dX11_cards_57 : decode cX11_cards 57 = .ok (.ireturn, 1) := by decide +kernel
theorem dX11_isTold_0 : decode cX11_isTold 0 = .ok (.iconst 1, 1) := by decide +kernel
theorem dX11_isTold_1 : decode cX11_isTold 1 = .ok (.istore_n 1, 1) := by decide +kernel
theorem dX11_isTold_2 : decode cX11_isTold 2 = .ok (.iconst 0, 1) := by decide +kernel
theorem dX11_isTold_3 : decode cX11_isTold 3 = .ok (.istore_n 2, 1) := by decide +kernel
theorem dX11_isTold_4 : decode cX11_isTold 4 = .ok (.iload_n 2, 1) := by decide +kernel
theorem dX11_isTold_5 : decode cX11_isTold 5 = .ok (.aload_n 0, 1) := by decide +kernel
theorem dX11_isTold_6 : decode cX11_isTold 6 = .ok (.getfield 106, 3) := by decide +kernel
theorem dX11_isTold_9 : decode cX11_isTold 9 = .ok (.if_icmp .ge 44, 3) := by decide +kernel
theorem dX11_isTold_12 : decode cX11_isTold 12 = .ok (.iload_n 1, 1) := by decide +kernel
theorem dX11_isTold_13 : decode cX11_isTold 13 = .ok (.ifCond .eq 32, 3) := by decide +kernel
theorem dX11_isTold_16 : decode cX11_isTold 16 = .ok (.aload_n 0, 1) := by decide +kernel
theorem dX11_isTold_17 : decode cX11_isTold 17 = .ok (.getfield 55, 3) := by decide +kernel
theorem dX11_isTold_20 : decode cX11_isTold 20 = .ok (.aload_n 0, 1) := by decide +kernel
theorem dX11_isTold_21 : decode cX11_isTold 21 = .ok (.getfield 34, 3) := by decide +kernel
theorem dX11_isTold_24 : decode cX11_isTold 24 = .ok (.iload_n 2, 1) := by decide +kernel
theorem dX11_isTold_25 : decode cX11_isTold 25 = .ok (.iaload, 1) := by decide +kernel
theorem dX11_isTold_26 : decode cX11_isTold 26 = .ok (.iaload, 1) := by decide +kernel
theorem dX11_isTold_27 : decode cX11_isTold 27 = .ok (.aload_n 0, 1) := by decide +kernel
theorem dX11_isTold_28 : decode cX11_isTold 28 = .ok (.getfield 55, 3) := by decide +kernel
theorem dX11_isTold_31 : decode cX11_isTold 31 = .ok (.aload_n 0, 1) := by decide +kernel
theorem dX11_isTold_32 : decode cX11_isTold 32 = .ok (.getfield 37, 3) := by decide +kernel
theorem dX11_isTold_35 : decode cX11_isTold 35 = .ok (.iload_n 2, 1) := by decide +kernel
theorem dX11_isTold_36 : decode cX11_isTold 36 = .ok (.iaload, 1) := by decide +kernel
theorem dX11_isTold_37 : decode cX11_isTold 37 = .ok (.iaload, 1) := by decide +kernel
theorem dX11_isTold_38 : decode cX11_isTold 38 = .ok (.if_icmp .ge 7, 3) := by decide +kernel
theorem dX11_isTold_41 : decode cX11_isTold 41 = .ok (.iconst 1, 1) := by decide +kernel
theorem dX11_isTold_42 : decode cX11_isTold 42 = .ok (.goto 4, 3) := by decide +kernel
theorem dX11_isTold_45 : decode cX11_isTold 45 = .ok (.iconst 0, 1) := by decide +kernel
theorem dX11_isTold_46 : decode cX11_isTold 46 = .ok (.istore_n 1, 1) := by decide +kernel
theorem dX11_isTold_47 : decode cX11_isTold 47 = .ok (.iinc 2 1, 3) := by decide +kernel
theorem dX11_isTold_50 : decode cX11_isTold 50 = .ok (.goto (-46), 3) := by decide +kernel
theorem dX11_isTold_53 : decode cX11_isTold 53 = .ok (.iconst 0, 1) := by decide +kernel
theorem dX11_isTold_54 : decode cX11_isTold 54 = .ok (.istore_n 2, 1) := by decide +kernel
theorem dX11_isTold_55 : decode cX11_isTold 55 = .ok (.iload_n 2, 1) := by decide +kernel
theorem dX11_isTold_56 : decode cX11_isTold 56 = .ok (.aload_n 0, 1) := by decide +kernel
theorem dX11_isTold_57 : decode cX11_isTold 57 = .ok (.getfield 93, 3) := by decide +kernel
theorem dX11_isTold_60 : decode cX11_isTold 60 = .ok (.if_icmp .ge 44, 3) := by decide +kernel
theorem dX11_isTold_63 : decode cX11_isTold 63 = .ok (.iload_n 1, 1) := by decide +kernel
theorem dX11_isTold_64 : decode cX11_isTold 64 = .ok (.ifCond .eq 32, 3) := by decide +kernel
theorem dX11_isTold_67 : decode cX11_isTold 67 = .ok (.aload_n 0, 1) := by decide +kernel
theorem dX11_isTold_68 : decode cX11_isTold 68 = .ok (.getfield 22, 3) := by decide +kernel
theorem dX11_isTold_71 : decode cX11_isTold 71 = .ok (.iload_n 2, 1) := by decide +kernel
theorem dX11_isTold_72 : decode cX11_isTold 72 = .ok (.iaload, 1) := by decide +kernel
theorem dX11_isTold_73 : decode cX11_isTold 73 = .ok (.iconst (-1), 1) := by decide +kernel
theorem dX11_isTold_74 : decode cX11_isTold 74 = .ok (.if_icmp .eq 18, 3) := by decide +kernel
theorem dX11_isTold_77 : decode cX11_isTold 77 = .ok (.aload_n 0, 1) := by decide +kernel
theorem dX11_isTold_78 : decode cX11_isTold 78 = .ok (.getfield 22, 3) := by decide +kernel
theorem dX11_isTold_81 : decode cX11_isTold 81 = .ok (.iload_n 2, 1) := by decide +kernel
theorem dX11_isTold_82 : decode cX11_isTold 82 = .ok (.iaload, 1) := by decide +kernel
theorem dX11_isTold_83 : decode cX11_isTold 83 = .ok (.aload_n 0, 1) := by decide +kernel
theorem dX11_isTold_84 : decode cX11_isTold 84 = .ok (.getfield 55, 3) := by decide +kernel
theorem dX11_isTold_87 : decode cX11_isTold 87 = .ok (.iload_n 2, 1) := by decide +kernel
theorem dX11_isTold_88 : decode cX11_isTold 88 = .ok (.iaload, 1) := by decide +kernel
theorem dX11_isTold_89 : decode cX11_isTold 89 = .ok (.if_icmp .ne 7, 3) := by decide +kernel
theorem dX11_isTold_92 : decode cX11_isTold 92 = .ok (.iconst 1, 1) := by decide +kernel
theorem dX11_isTold_93 : decode cX11_isTold 93 = .ok (.goto 4, 3) := by decide +kernel
theorem dX11_isTold_96 : decode cX11_isTold 96 = .ok (.iconst 0, 1) := by decide +kernel
theorem dX11_isTold_97 : decode cX11_isTold 97 = .ok (.istore_n 1, 1) := by decide +kernel
theorem dX11_isTold_98 : decode cX11_isTold 98 = .ok (.iinc 2 1, 3) := by decide +kernel
theorem dX11_isTold_101 : decode cX11_isTold 101 = .ok (.goto (-46), 3) := by decide +kernel
theorem dX11_isTold_104 : decode cX11_isTold 104 = .ok (.iload_n 1, 1) := by decide +kernel
theorem dX11_isTold_105 : decode cX11_isTold 105 = .ok (.ireturn, 1) := by decide +kernel
theorem dX11_doesHang_0 : decode cX11_doesHang 0 = .ok (.aload_n 0, 1) := by decide +kernel
theorem dX11_doesHang_1 : decode cX11_doesHang 1 = .ok (.getfield 164, 3) := by decide +kernel
theorem dX11_doesHang_4 : decode cX11_doesHang 4 = .ok (.aload_n 0, 1) := by decide +kernel
theorem dX11_doesHang_5 : decode cX11_doesHang 5 = .ok (.getfield 93, 3) := by decide +kernel
theorem dX11_doesHang_8 : decode cX11_doesHang 8 = .ok (.if_icmp .ne 14, 3) := by decide +kernel
theorem dX11_doesHang_11 : decode cX11_doesHang 11 = .ok (.aload_n 0, 1) := by decide +kernel
theorem dX11_doesHang_12 : decode cX11_doesHang 12 = .ok (.invokevirtual 174, 3) := by decide +kernel
theorem dX11_doesHang_15 : decode cX11_doesHang 15 = .ok (.ifCond .eq 7, 3) := by decide +kernel
theorem dX11_doesHang_18 : decode cX11_doesHang 18 = .ok (.iconst 1, 1) := by decide +kernel
theorem dX11_doesHang_19 : decode cX11_doesHang 19 = .ok (.goto 4, 3) := by decide +kernel
theorem dX11_doesHang_22 : decode cX11_doesHang 22 = .ok (.iconst 0, 1) := by decide +kernel
theorem dX11_doesHang_23 : decode cX11_doesHang 23 = .ok (.ireturn, 1) := by decide +kernel
theorem dX11_hang_0 : decode cX11_hang 0 = .ok (.iload_n 1, 1) := by decide +kernel
theorem dX11_hang_1 : decode cX11_hang 1 = .ok (.iconst (-1), 1) := by decide +kernel
theorem dX11_hang_2 : decode cX11_hang 2 = .ok (.if_icmp .ge 10, 3) := by decide +kernel
theorem dX11_hang_5 : decode cX11_hang 5 = .ok (.aload_n 0, 1) := by decide +kernel
theorem dX11_hang_6 : decode cX11_hang 6 = .ok (.bipush (-10), 2) := by decide +kernel
theorem dX11_hang_8 : decode cX11_hang 8 = .ok (.invokevirtual 120, 3) := by decide +kernel
theorem dX11_hang_11 : decode cX11_hang 11 = .ok (.ireturn, 1) := by decide +kernel
theorem dX11_hang_12 : decode cX11_hang 12 = .ok (.iconst 0, 1) := by decide +kernel
theorem dX11_hang_13 : decode cX11_hang 13 = .ok (.istore_n 2, 1) := by decide +kernel
theorem dX11_hang_14 : decode cX11_hang 14 = .ok (.aload_n 0, 1) := by decide +kernel
theorem dX11_hang_15 : decode cX11_hang 15 = .ok (.getfield 58, 3) := by decide +kernel
theorem dX11_hang_18 : decode cX11_hang 18 = .ok (.invokestatic 178, 3) := by decide +kernel
theorem dX11_hang_21 : decode cX11_hang 21 = .ok (.iconst 0, 1) := by decide +kernel
theorem dX11_hang_22 : decode cX11_hang 22 = .ok (.istore_n 3, 1) := by decide +kernel
theorem dX11_hang_23 : decode cX11_hang 23 = .ok (.iload_n 3, 1) := by decide +kernel
theorem dX11_hang_24 : decode cX11_hang 24 = .ok (.aload_n 0, 1) := by decide +kernel
theorem dX11_hang_25 : decode cX11_hang 25 = .ok (.invokevirtual 147, 3) := by decide +kernel
theorem dX11_hang_28 : decode cX11_hang 28 = .ok (.if_icmp .ge 42, 3) := by decide +kernel
theorem dX11_hang_31 : decode cX11_hang 31 = .ok (.aload_n 0, 1) := by decide +kernel
theorem dX11_hang_32 : decode cX11_hang 32 = .ok (.aload_n 0, 1) := by decide +kernel
theorem dX11_hang_33 : decode cX11_hang 33 = .ok (.getfield 58, 3) := by decide +kernel
theorem dX11_hang_36 : decode cX11_hang 36 = .ok (.invokevirtual 170, 3) := by decide +kernel
theorem dX11_hang_39 : decode cX11_hang 39 = .ok (.aload_n 0, 1) := by decide +kernel
theorem dX11_hang_40 : decode cX11_hang 40 = .ok (.invokevirtual 181, 3) := by decide +kernel
theorem dX11_hang_43 : decode cX11_hang 43 = .ok (.ifCond .eq 13, 3) := by decide +kernel
theorem dX11_hang_46 : decode cX11_hang 46 = .ok (.iload_n 2, 1) := by decide +kernel
theorem dX11_hang_47 : decode cX11_hang 47 = .ok (.iload_n 1, 1) := by decide +kernel
theorem dX11_hang_48 : decode cX11_hang 48 = .ok (.if_icmp .ne 5, 3) := by decide +kernel
theorem dX11_hang_51 : decode cX11_hang 51 = .ok (.iload_n 3, 1) := by decide +kernel
theorem dX11_hang_52 : decode cX11_hang 52 = .ok (.ireturn, 1) := by decide +kernel
theorem dX11_hang_53 : decode cX11_hang 53 = .ok (.iinc 2 1, 3) := by decide +kernel
theorem dX11_hang_56 : decode cX11_hang 56 = .ok (.aload_n 0, 1) := by decide +kernel
theorem dX11_hang_57 : decode cX11_hang 57 = .ok (.aload_n 0, 1) := by decide +kernel
theorem dX11_hang_58 : decode cX11_hang 58 = .ok (.getfield 58, 3) := by decide +kernel
theorem dX11_hang_61 : decode cX11_hang 61 = .ok (.invokevirtual 184, 3) := by decide +kernel
theorem dX11_hang_64 : decode cX11_hang 64 = .ok (.iinc 3 1, 3) := by decide +kernel
theorem dX11_hang_67 : decode cX11_hang 67 = .ok (.goto (-44), 3) := by decide +kernel
theorem dX11_hang_70 : decode cX11_hang 70 = .ok (.iload_n 1, 1) := by decide +kernel
theorem dX11_hang_71 : decode cX11_hang 71 = .ok (.iconst (-1), 1) := by decide +kernel
theorem dX11_hang_72 : decode cX11_hang 72 = .ok (.if_icmp .ne 7, 3) := by decide +kernel
theorem dX11_hang_75 : decode cX11_hang 75 = .ok (.iload_n 2, 1) := by decide +kernel
theorem dX11_hang_76 : decode cX11_hang 76 = .ok (.goto 5, 3) := by decide +kernel
theorem dX11_hang_79 : decode cX11_hang 79 = .ok (.bipush (-5), 2) := by decide +kernel
theorem dX11_hang_81 : decode cX11_hang 81 = .ok (.ireturn, 1) := by decide +kernel
theorem dX11_must_0 : decode cX11_must 0 = .ok (.aload_n 0, 1) := by decide +kernel
theorem dX11_must_1 : decode cX11_must 1 = .ok (.iload_n 1, 1) := by decide +kernel
theorem dX11_must_2 : decode cX11_must 2 = .ok (.invokevirtual 124, 3) := by decide +kernel
theorem dX11_must_5 : decode cX11_must 5 = .ok (.ifCond .ne 10, 3) := by decide +kernel
theorem dX11_must_8 : decode cX11_must 8 = .ok (.aload_n 0, 1) := by decide +kernel
theorem dX11_must_9 : decode cX11_must 9 = .ok (.bipush (-2), 2) := by decide +kernel
theorem dX11_must_11 : decode cX11_must 11 = .ok (.invokevirtual 120, 3) := by decide +kernel
theorem dX11_must_14 : decode cX11_must 14 = .ok (.ireturn, 1) := by decide +kernel
theorem dX11_must_15 : decode cX11_must 15 = .ok (.iconst 1, 1) := by decide +kernel
theorem dX11_must_16 : decode cX11_must 16 = .ok (.aload_n 0, 1) := by decide +kernel
theorem dX11_must_17 : decode cX11_must 17 = .ok (.getfield 93, 3) := by decide +kernel
theorem dX11_must_20 : decode cX11_must 20 = .ok (.ishl, 1) := by decide +kernel
theorem dX11_must_21 : decode cX11_must 21 = .ok (.iconst 1, 1) := by decide +kernel
theorem dX11_must_22 : decode cX11_must 22 = .ok (.isub, 1) := by decide +kernel
theorem dX11_must_23 : decode cX11_must 23 = .ok (.istore_n 2, 1) := by decide +kernel
theorem dX11_must_24 : decode cX11_must 24 = .ok (.iconst 0, 1) := by decide +kernel
theorem dX11_must_25 : decode cX11_must 25 = .ok (.istore_n 3, 1) := by decide +kernel
theorem dX11_must_26 : decode cX11_must 26 = .ok (.aload_n 0, 1) := by decide +kernel
theorem dX11_must_27 : decode cX11_must 27 = .ok (.getfield 58, 3) := by decide +kernel
theorem dX11_must_30 : decode cX11_must 30 = .ok (.invokestatic 178, 3) := by decide +kernel
theorem dX11_must_33 : decode cX11_must 33 = .ok (.iconst 0, 1) := by decide +kernel
theorem dX11_must_34 : decode cX11_must 34 = .ok (.istore 4, 2) := by decide +kernel
theorem dX11_must_36 : decode cX11_must 36 = .ok (.iload 4, 2) := by decide +kernel
theorem dX11_must_38 : decode cX11_must 38 = .ok (.aload_n 0, 1) := by decide +kernel
theorem dX11_must_39 : decode cX11_must 39 = .ok (.invokevirtual 147, 3) := by decide +kernel
theorem dX11_must_42 : decode cX11_must 42 = .ok (.if_icmp .ge 81, 3) := by decide +kernel
theorem dX11_must_45 : decode cX11_must 45 = .ok (.aload_n 0, 1) := by decide +kernel
theorem dX11_must_46 : decode cX11_must 46 = .ok (.aload_n 0, 1) := by decide +kernel
theorem dX11_must_47 : decode cX11_must 47 = .ok (.getfield 58, 3) := by decide +kernel
theorem dX11_must_50 : decode cX11_must 50 = .ok (.invokevirtual 170, 3) := by decide +kernel
theorem dX11_must_53 : decode cX11_must 53 = .ok (.aload_n 0, 1) := by decide +kernel
theorem dX11_must_54 : decode cX11_must 54 = .ok (.invokevirtual 181, 3) := by decide +kernel
theorem dX11_must_57 : decode cX11_must 57 = .ok (.ifCond .eq 52, 3) := by decide +kernel
theorem dX11_must_60 : decode cX11_must 60 = .ok (.iconst 1, 1) := by decide +kernel
theorem dX11_must_61 : decode cX11_must 61 = .ok (.istore_n 3, 1) := by decide +kernel
theorem dX11_must_62 : decode cX11_must 62 = .ok (.iconst 0, 1) := by decide +kernel
theorem dX11_must_63 : decode cX11_must 63 = .ok (.istore 5, 2) := by decide +kernel
theorem dX11_must_65 : decode cX11_must 65 = .ok (.iload 5, 2) := by decide +kernel
theorem dX11_must_67 : decode cX11_must 67 = .ok (.aload_n 0, 1) := by decide +kernel
theorem dX11_must_68 : decode cX11_must 68 = .ok (.getfield 93, 3) := by decide +kernel
theorem dX11_must_71 : decode cX11_must 71 = .ok (.if_icmp .ge 38, 3) := by decide +kernel
theorem dX11_must_74 : decode cX11_must 74 = .ok (.iload_n 2, 1) := by decide +kernel
theorem dX11_must_75 : decode cX11_must 75 = .ok (.aload_n 0, 1) := by decide +kernel
theorem dX11_must_76 : decode cX11_must 76 = .ok (.getfield 55, 3) := by decide +kernel
theorem dX11_must_79 : decode cX11_must 79 = .ok (.iload 5, 2) := by decide +kernel
theorem dX11_must_81 : decode cX11_must 81 = .ok (.iaload, 1) := by decide +kernel
theorem dX11_must_82 : decode cX11_must 82 = .ok (.aload_n 0, 1) := by decide +kernel
theorem dX11_must_83 : decode cX11_must 83 = .ok (.getfield 55, 3) := by decide +kernel
theorem dX11_must_86 : decode cX11_must 86 = .ok (.iload_n 1, 1) := by decide +kernel
theorem dX11_must_87 : decode cX11_must 87 = .ok (.iaload, 1) := by decide +kernel
theorem dX11_must_88 : decode cX11_must 88 = .ok (.if_icmp .ge 7, 3) := by decide +kernel
theorem dX11_must_91 : decode cX11_must 91 = .ok (.iconst (-1), 1) := by decide +kernel
theorem dX11_must_92 : decode cX11_must 92 = .ok (.goto 9, 3) := by decide +kernel
theorem dX11_must_95 : decode cX11_must 95 = .ok (.iconst 1, 1) := by decide +kernel
theorem dX11_must_96 : decode cX11_must 96 = .ok (.iload 5, 2) := by decide +kernel
theorem dX11_must_98 : decode cX11_must 98 = .ok (.ishl, 1) := by decide +kernel
theorem dX11_must_99 : decode cX11_must 99 = .ok (.iconst (-1), 1) := by decide +kernel
theorem dX11_must_100 : decode cX11_must 100 = .ok (.ixor, 1) := by decide +kernel
theorem dX11_must_101 : decode cX11_must 101 = .ok (.iand, 1) := by decide +kernel
theorem dX11_must_102 : decode cX11_must 102 = .ok (.istore_n 2, 1) := by decide +kernel
theorem dX11_must_103 : decode cX11_must 103 = .ok (.iinc 5 1, 3) := by decide +kernel
theorem dX11_must_106 : decode cX11_must 106 = .ok (.goto (-41), 3) := by decide +kernel
theorem dX11_must_109 : decode cX11_must 109 = .ok (.aload_n 0, 1) := by decide +kernel
theorem dX11_must_110 : decode cX11_must 110 = .ok (.aload_n 0, 1) := by decide +kernel
theorem dX11_must_111 : decode cX11_must 111 = .ok (.getfield 58, 3) := by decide +kernel
theorem dX11_must_114 : decode cX11_must 114 = .ok (.invokevirtual 184, 3) := by decide +kernel
theorem dX11_must_117 : decode cX11_must 117 = .ok (.iinc 4 1, 3) := by decide +kernel
theorem dX11_must_120 : decode cX11_must 120 = .ok (.goto (-84), 3) := by decide +kernel
theorem dX11_must_123 : decode cX11_must 123 = .ok (.iload_n 3, 1) := by decide +kernel
theorem dX11_must_124 : decode cX11_must 124 = .ok (.ifCond .eq 7, 3) := by decide +kernel
theorem dX11_must_127 : decode cX11_must 127 = .ok (.iload_n 2, 1) := by decide +kernel
theorem dX11_must_128 : decode cX11_must 128 = .ok (.goto 7, 3) := by decide +kernel
theorem dX11_must_131 : decode cX11_must 131 = .ok (.aload_n 0, 1) := by decide +kernel
theorem dX11_must_132 : decode cX11_must 132 = .ok (.invokevirtual 131, 3) := by decide +kernel
theorem dX11_must_135 : decode cX11_must 135 = .ok (.ireturn, 1) := by decide +kernel
theorem dX11_told_0 : decode cX11_told 0 = .ok (.aload_n 0, 1) := by decide +kernel
theorem dX11_told_1 : decode cX11_told 1 = .ok (.iload_n 1, 1) := by decide +kernel
theorem dX11_told_2 : decode cX11_told 2 = .ok (.invokevirtual 150, 3) := by decide +kernel
theorem dX11_told_5 : decode cX11_told 5 = .ok (.ifCond .ne 10, 3) := by decide +kernel
theorem dX11_told_8 : decode cX11_told 8 = .ok (.aload_n 0, 1) := by decide +kernel
theorem dX11_told_9 : decode cX11_told 9 = .ok (.bipush (-2), 2) := by decide +kernel
theorem dX11_told_11 : decode cX11_told 11 = .ok (.invokevirtual 120, 3) := by decide +kernel
theorem dX11_told_14 : decode cX11_told 14 = .ok (.ireturn, 1) := by decide +kernel
theorem dX11_told_15 : decode cX11_told 15 = .ok (.aload_n 0, 1) := by decide +kernel
theorem dX11_told_16 : decode cX11_told 16 = .ok (.getfield 109, 3) := by decide +kernel
theorem dX11_told_19 : decode cX11_told 19 = .ok (.iconst 3, 1) := by decide +kernel
theorem dX11_told_20 : decode cX11_told 20 = .ok (.if_icmp .ne 8, 3) := by decide +kernel
theorem dX11_told_23 : decode cX11_told 23 = .ok (.aload_n 0, 1) := by decide +kernel
theorem dX11_told_24 : decode cX11_told 24 = .ok (.invokevirtual 139, 3) := by decide +kernel
theorem dX11_told_27 : decode cX11_told 27 = .ok (.ireturn, 1) := by decide +kernel
theorem dX11_told_28 : decode cX11_told 28 = .ok (.aload_n 0, 1) := by decide +kernel
theorem dX11_told_29 : decode cX11_told 29 = .ok (.getfield 40, 3) := by decide +kernel
theorem dX11_told_32 : decode cX11_told 32 = .ok (.aload_n 0, 1) := by decide +kernel
theorem dX11_told_33 : decode cX11_told 33 = .ok (.getfield 109, 3) := by decide +kernel
theorem dX11_told_36 : decode cX11_told 36 = .ok (.iload_n 1, 1) := by decide +kernel
theorem dX11_told_37 : decode cX11_told 37 = .ok (.iastore, 1) := by decide +kernel
theorem dX11_told_38 : decode cX11_told 38 = .ok (.aload_n 0, 1) := by decide +kernel
theorem dX11_told_39 : decode cX11_told 39 = .ok (.dup, 1) := by decide +kernel
theorem dX11_told_40 : decode cX11_told 40 = .ok (.getfield 109, 3) := by decide +kernel
theorem dX11_told_43 : decode cX11_told 43 = .ok (.iconst 1, 1) := by decide +kernel
theorem dX11_told_44 : decode cX11_told 44 = .ok (.iadd, 1) := by decide +kernel
theorem dX11_told_45 : decode cX11_told 45 = .ok (.putfield 109, 3) := by decide +kernel
theorem dX11_told_48 : decode cX11_told 48 = .ok (.aload_n 0, 1) := by decide +kernel
theorem dX11_told_49 : decode cX11_told 49 = .ok (.getfield 109, 3) := by decide +kernel
theorem dX11_told_52 : decode cX11_told 52 = .ok (.iconst 1, 1) := by decide +kernel
theorem dX11_told_53 : decode cX11_told 53 = .ok (.isub, 1) := by decide +kernel
theorem dX11_told_54 : decode cX11_told 54 = .ok (.ireturn, 1) := by decide +kernel
theorem dX11_areWell_0 : decode cX11_areWell 0 = .ok (.aload_n 0, 1) := by decide +kernel
theorem dX11_areWell_1 : decode cX11_areWell 1 = .ok (.aload_n 0, 1) := by decide +kernel
theorem dX11_areWell_2 : decode cX11_areWell 2 = .ok (.getfield 25, 3) := by decide +kernel
theorem dX11_areWell_5 : decode cX11_areWell 5 = .ok (.invokevirtual 170, 3) := by decide +kernel
theorem dX11_areWell_8 : decode cX11_areWell 8 = .ok (.aload_n 0, 1) := by decide +kernel
theorem dX11_areWell_9 : decode cX11_areWell 9 = .ok (.getfield 164, 3) := by decide +kernel
theorem dX11_areWell_12 : decode cX11_areWell 12 = .ok (.aload_n 0, 1) := by decide +kernel
theorem dX11_areWell_13 : decode cX11_areWell 13 = .ok (.getfield 93, 3) := by decide +kernel
theorem dX11_areWell_16 : decode cX11_areWell 16 = .ok (.if_icmp .ne 7, 3) := by decide +kernel
theorem dX11_areWell_19 : decode cX11_areWell 19 = .ok (.iconst 1, 1) := by decide +kernel
theorem dX11_areWell_20 : decode cX11_areWell 20 = .ok (.goto 4, 3) := by decide +kernel
theorem dX11_areWell_23 : decode cX11_areWell 23 = .ok (.iconst 0, 1) := by decide +kernel
theorem dX11_areWell_24 : decode cX11_areWell 24 = .ok (.istore_n 1, 1) := by decide +kernel
theorem dX11_areWell_25 : decode cX11_areWell 25 = .ok (.iconst 0, 1) := by decide +kernel
theorem dX11_areWell_26 : decode cX11_areWell 26 = .ok (.istore_n 2, 1) := by decide +kernel
theorem dX11_areWell_27 : decode cX11_areWell 27 = .ok (.iload_n 2, 1) := by decide +kernel
theorem dX11_areWell_28 : decode cX11_areWell 28 = .ok (.aload_n 0, 1) := by decide +kernel
theorem dX11_areWell_29 : decode cX11_areWell 29 = .ok (.getfield 109, 3) := by decide +kernel
theorem dX11_areWell_32 : decode cX11_areWell 32 = .ok (.if_icmp .ge 52, 3) := by decide +kernel
theorem dX11_areWell_35 : decode cX11_areWell 35 = .ok (.iload_n 1, 1) := by decide +kernel
theorem dX11_areWell_36 : decode cX11_areWell 36 = .ok (.ifCond .eq 48, 3) := by decide +kernel
theorem dX11_areWell_39 : decode cX11_areWell 39 = .ok (.aload_n 0, 1) := by decide +kernel
theorem dX11_areWell_40 : decode cX11_areWell 40 = .ok (.aload_n 0, 1) := by decide +kernel
theorem dX11_areWell_41 : decode cX11_areWell 41 = .ok (.getfield 40, 3) := by decide +kernel
theorem dX11_areWell_44 : decode cX11_areWell 44 = .ok (.iload_n 2, 1) := by decide +kernel
theorem dX11_areWell_45 : decode cX11_areWell 45 = .ok (.iaload, 1) := by decide +kernel
theorem dX11_areWell_46 : decode cX11_areWell 46 = .ok (.aload_n 0, 1) := by decide +kernel
theorem dX11_areWell_47 : decode cX11_areWell 47 = .ok (.getfield 58, 3) := by decide +kernel
theorem dX11_areWell_50 : decode cX11_areWell 50 = .ok (.invokevirtual 157, 3) := by decide +kernel
theorem dX11_areWell_53 : decode cX11_areWell 53 = .ok (.aload_n 0, 1) := by decide +kernel
theorem dX11_areWell_54 : decode cX11_areWell 54 = .ok (.aload_n 0, 1) := by decide +kernel
theorem dX11_areWell_55 : decode cX11_areWell 55 = .ok (.getfield 58, 3) := by decide +kernel
theorem dX11_areWell_58 : decode cX11_areWell 58 = .ok (.invokevirtual 170, 3) := by decide +kernel
theorem dX11_areWell_61 : decode cX11_areWell 61 = .ok (.aload_n 0, 1) := by decide +kernel
theorem dX11_areWell_62 : decode cX11_areWell 62 = .ok (.getfield 164, 3) := by decide +kernel
theorem dX11_areWell_65 : decode cX11_areWell 65 = .ok (.aload_n 0, 1) := by decide +kernel
theorem dX11_areWell_66 : decode cX11_areWell 66 = .ok (.getfield 93, 3) := by decide +kernel
theorem dX11_areWell_69 : decode cX11_areWell 69 = .ok (.if_icmp .ne 7, 3) := by decide +kernel
theorem dX11_areWell_72 : decode cX11_areWell 72 = .ok (.iconst 1, 1) := by decide +kernel
theorem dX11_areWell_73 : decode cX11_areWell 73 = .ok (.goto 4, 3) := by decide +kernel
theorem dX11_areWell_76 : decode cX11_areWell 76 = .ok (.iconst 0, 1) := by decide +kernel
theorem dX11_areWell_77 : decode cX11_areWell 77 = .ok (.istore_n 1, 1) := by decide +kernel
theorem dX11_areWell_78 : decode cX11_areWell 78 = .ok (.iinc 2 1, 3) := by decide +kernel
theorem dX11_areWell_81 : decode cX11_areWell 81 = .ok (.goto (-54), 3) := by decide +kernel
theorem dX11_areWell_84 : decode cX11_areWell 84 = .ok (.iload_n 1, 1) := by decide +kernel
theorem dX11_areWell_85 : decode cX11_areWell 85 = .ok (.ireturn, 1) := by decide +kernel
theorem dX11_adds_0 : decode cX11_adds 0 = .ok (.iload_n 1, 1) := by decide +kernel
theorem dX11_adds_1 : decode cX11_adds 1 = .ok (.bipush 10, 2) := by decide +kernel
theorem dX11_adds_3 : decode cX11_adds 3 = .ok (.idiv, 1) := by decide +kernel
theorem dX11_adds_4 : decode cX11_adds 4 = .ok (.istore_n 2, 1) := by decide +kernel
theorem dX11_adds_5 : decode cX11_adds 5 = .ok (.iload_n 1, 1) := by decide +kernel
theorem dX11_adds_6 : decode cX11_adds 6 = .ok (.bipush 10, 2) := by decide +kernel
theorem dX11_adds_8 : decode cX11_adds 8 = .ok (.irem, 1) := by decide +kernel
theorem dX11_adds_9 : decode cX11_adds 9 = .ok (.istore_n 3, 1) := by decide +kernel
theorem dX11_adds_10 : decode cX11_adds 10 = .ok (.aload_n 0, 1) := by decide +kernel
theorem dX11_adds_11 : decode cX11_adds 11 = .ok (.iload_n 2, 1) := by decide +kernel
theorem dX11_adds_12 : decode cX11_adds 12 = .ok (.invokevirtual 124, 3) := by decide +kernel
theorem dX11_adds_15 : decode cX11_adds 15 = .ok (.ifCond .eq 28, 3) := by decide +kernel
theorem dX11_adds_18 : decode cX11_adds 18 = .ok (.iload_n 3, 1) := by decide +kernel
theorem dX11_adds_19 : decode cX11_adds 19 = .ok (.invokestatic 128, 3) := by decide +kernel
theorem dX11_adds_22 : decode cX11_adds 22 = .ok (.ifCond .eq 21, 3) := by decide +kernel
theorem dX11_adds_25 : decode cX11_adds 25 = .ok (.aload_n 0, 1) := by decide +kernel
theorem dX11_adds_26 : decode cX11_adds 26 = .ok (.iload_n 2, 1) := by decide +kernel
theorem dX11_adds_27 : decode cX11_adds 27 = .ok (.iload_n 3, 1) := by decide +kernel
theorem dX11_adds_28 : decode cX11_adds 28 = .ok (.invokevirtual 135, 3) := by decide +kernel
theorem dX11_adds_31 : decode cX11_adds 31 = .ok (.ifCond .ne 12, 3) := by decide +kernel
theorem dX11_adds_34 : decode cX11_adds 34 = .ok (.aload_n 0, 1) := by decide +kernel
theorem dX11_adds_35 : decode cX11_adds 35 = .ok (.getfield 103, 3) := by decide +kernel
theorem dX11_adds_38 : decode cX11_adds 38 = .ok (.bipush 6, 2) := by decide +kernel
theorem dX11_adds_40 : decode cX11_adds 40 = .ok (.if_icmp .ne 5, 3) := by decide +kernel
theorem dX11_adds_43 : decode cX11_adds 43 = .ok (.iconst 0, 1) := by decide +kernel
theorem dX11_adds_44 : decode cX11_adds 44 = .ok (.ireturn, 1) := by decide +kernel
theorem dX11_adds_45 : decode cX11_adds 45 = .ok (.aload_n 0, 1) := by decide +kernel
theorem dX11_adds_46 : decode cX11_adds 46 = .ok (.getfield 28, 3) := by decide +kernel
theorem dX11_adds_49 : decode cX11_adds 49 = .ok (.aload_n 0, 1) := by decide +kernel
theorem dX11_adds_50 : decode cX11_adds 50 = .ok (.getfield 103, 3) := by decide +kernel
theorem dX11_adds_53 : decode cX11_adds 53 = .ok (.iload_n 2, 1) := by decide +kernel
theorem dX11_adds_54 : decode cX11_adds 54 = .ok (.iastore, 1) := by decide +kernel
theorem dX11_adds_55 : decode cX11_adds 55 = .ok (.aload_n 0, 1) := by decide +kernel
theorem dX11_adds_56 : decode cX11_adds 56 = .ok (.getfield 31, 3) := by decide +kernel
theorem dX11_adds_59 : decode cX11_adds 59 = .ok (.aload_n 0, 1) := by decide +kernel
theorem dX11_adds_60 : decode cX11_adds 60 = .ok (.getfield 103, 3) := by decide +kernel
theorem dX11_adds_63 : decode cX11_adds 63 = .ok (.iload_n 3, 1) := by decide +kernel
theorem dX11_adds_64 : decode cX11_adds 64 = .ok (.iastore, 1) := by decide +kernel
theorem dX11_adds_65 : decode cX11_adds 65 = .ok (.aload_n 0, 1) := by decide +kernel
theorem dX11_adds_66 : decode cX11_adds 66 = .ok (.dup, 1) := by decide +kernel
theorem dX11_adds_67 : decode cX11_adds 67 = .ok (.getfield 103, 3) := by decide +kernel
theorem dX11_adds_70 : decode cX11_adds 70 = .ok (.iconst 1, 1) := by decide +kernel
theorem dX11_adds_71 : decode cX11_adds 71 = .ok (.iadd, 1) := by decide +kernel
theorem dX11_adds_72 : decode cX11_adds 72 = .ok (.putfield 103, 3) := by decide +kernel
theorem dX11_adds_75 : decode cX11_adds 75 = .ok (.iconst 1, 1) := by decide +kernel
theorem dX11_adds_76 : decode cX11_adds 76 = .ok (.ireturn, 1) := by decide +kernel
theorem dX11_fewest_0 : decode cX11_fewest 0 = .ok (.aload_n 0, 1) := by decide +kernel
theorem dX11_fewest_1 : decode cX11_fewest 1 = .ok (.invokevirtual 187, 3) := by decide +kernel
theorem dX11_fewest_4 : decode cX11_fewest 4 = .ok (.ifCond .eq 7, 3) := by decide +kernel
theorem dX11_fewest_7 : decode cX11_fewest 7 = .ok (.sipush 9999, 3) := by decide +kernel
theorem dX11_fewest_10 : decode cX11_fewest 10 = .ok (.ireturn, 1) := by decide +kernel
theorem dX11_fewest_11 : decode cX11_fewest 11 = .ok (.iconst (-1), 1) := by decide +kernel
theorem dX11_fewest_12 : decode cX11_fewest 12 = .ok (.istore_n 1, 1) := by decide +kernel
theorem dX11_fewest_13 : decode cX11_fewest 13 = .ok (.iconst 0, 1) := by decide +kernel
theorem dX11_fewest_14 : decode cX11_fewest 14 = .ok (.istore_n 2, 1) := by decide +kernel
theorem dX11_fewest_15 : decode cX11_fewest 15 = .ok (.iload_n 2, 1) := by decide +kernel
theorem dX11_fewest_16 : decode cX11_fewest 16 = .ok (.bipush 70, 2) := by decide +kernel
theorem dX11_fewest_18 : decode cX11_fewest 18 = .ok (.if_icmp .ge 51, 3) := by decide +kernel
theorem dX11_fewest_21 : decode cX11_fewest 21 = .ok (.iload_n 1, 1) := by decide +kernel
theorem dX11_fewest_22 : decode cX11_fewest 22 = .ok (.iconst (-1), 1) := by decide +kernel
theorem dX11_fewest_23 : decode cX11_fewest 23 = .ok (.if_icmp .ne 46, 3) := by decide +kernel
theorem dX11_fewest_26 : decode cX11_fewest 26 = .ok (.aload_n 0, 1) := by decide +kernel
theorem dX11_fewest_27 : decode cX11_fewest 27 = .ok (.iload_n 2, 1) := by decide +kernel
theorem dX11_fewest_28 : decode cX11_fewest 28 = .ok (.invokevirtual 190, 3) := by decide +kernel
theorem dX11_fewest_31 : decode cX11_fewest 31 = .ok (.ifCond .eq 32, 3) := by decide +kernel
theorem dX11_fewest_34 : decode cX11_fewest 34 = .ok (.aload_n 0, 1) := by decide +kernel
theorem dX11_fewest_35 : decode cX11_fewest 35 = .ok (.invokevirtual 187, 3) := by decide +kernel
theorem dX11_fewest_38 : decode cX11_fewest 38 = .ok (.ifCond .eq 13, 3) := by decide +kernel
theorem dX11_fewest_41 : decode cX11_fewest 41 = .ok (.bipush 100, 2) := by decide +kernel
theorem dX11_fewest_43 : decode cX11_fewest 43 = .ok (.iload_n 2, 1) := by decide +kernel
theorem dX11_fewest_44 : decode cX11_fewest 44 = .ok (.imul, 1) := by decide +kernel
theorem dX11_fewest_45 : decode cX11_fewest 45 = .ok (.bipush 99, 2) := by decide +kernel
theorem dX11_fewest_47 : decode cX11_fewest 47 = .ok (.iadd, 1) := by decide +kernel
theorem dX11_fewest_48 : decode cX11_fewest 48 = .ok (.goto 4, 3) := by decide +kernel
theorem dX11_fewest_51 : decode cX11_fewest 51 = .ok (.iconst (-1), 1) := by decide +kernel
theorem dX11_fewest_52 : decode cX11_fewest 52 = .ok (.istore_n 1, 1) := by decide +kernel
theorem dX11_fewest_53 : decode cX11_fewest 53 = .ok (.aload_n 0, 1) := by decide +kernel
theorem dX11_fewest_54 : decode cX11_fewest 54 = .ok (.dup, 1) := by decide +kernel
theorem dX11_fewest_55 : decode cX11_fewest 55 = .ok (.getfield 103, 3) := by decide +kernel
theorem dX11_fewest_58 : decode cX11_fewest 58 = .ok (.iconst 1, 1) := by decide +kernel
theorem dX11_fewest_59 : decode cX11_fewest 59 = .ok (.isub, 1) := by decide +kernel
theorem dX11_fewest_60 : decode cX11_fewest 60 = .ok (.putfield 103, 3) := by decide +kernel
theorem dX11_fewest_63 : decode cX11_fewest 63 = .ok (.iinc 2 1, 3) := by decide +kernel
theorem dX11_fewest_66 : decode cX11_fewest 66 = .ok (.goto (-51), 3) := by decide +kernel
theorem dX11_fewest_69 : decode cX11_fewest 69 = .ok (.iconst 0, 1) := by decide +kernel
theorem dX11_fewest_70 : decode cX11_fewest 70 = .ok (.istore_n 2, 1) := by decide +kernel
theorem dX11_fewest_71 : decode cX11_fewest 71 = .ok (.iload_n 2, 1) := by decide +kernel
theorem dX11_fewest_72 : decode cX11_fewest 72 = .ok (.bipush 70, 2) := by decide +kernel
theorem dX11_fewest_74 : decode cX11_fewest 74 = .ok (.if_icmp .ge 89, 3) := by decide +kernel
theorem dX11_fewest_77 : decode cX11_fewest 77 = .ok (.iload_n 1, 1) := by decide +kernel
theorem dX11_fewest_78 : decode cX11_fewest 78 = .ok (.iconst (-1), 1) := by decide +kernel
theorem dX11_fewest_79 : decode cX11_fewest 79 = .ok (.if_icmp .ne 84, 3) := by decide +kernel
theorem dX11_fewest_82 : decode cX11_fewest 82 = .ok (.aload_n 0, 1) := by decide +kernel
theorem dX11_fewest_83 : decode cX11_fewest 83 = .ok (.iload_n 2, 1) := by decide +kernel
theorem dX11_fewest_84 : decode cX11_fewest 84 = .ok (.invokevirtual 190, 3) := by decide +kernel
theorem dX11_fewest_87 : decode cX11_fewest 87 = .ok (.ifCond .eq 70, 3) := by decide +kernel
theorem dX11_fewest_90 : decode cX11_fewest 90 = .ok (.iload_n 2, 1) := by decide +kernel
theorem dX11_fewest_91 : decode cX11_fewest 91 = .ok (.iconst 1, 1) := by decide +kernel
theorem dX11_fewest_92 : decode cX11_fewest 92 = .ok (.iadd, 1) := by decide +kernel
theorem dX11_fewest_93 : decode cX11_fewest 93 = .ok (.istore_n 3, 1) := by decide +kernel
theorem dX11_fewest_94 : decode cX11_fewest 94 = .ok (.iload_n 3, 1) := by decide +kernel
theorem dX11_fewest_95 : decode cX11_fewest 95 = .ok (.bipush 70, 2) := by decide +kernel
theorem dX11_fewest_97 : decode cX11_fewest 97 = .ok (.if_icmp .ge 50, 3) := by decide +kernel
theorem dX11_fewest_100 : decode cX11_fewest 100 = .ok (.iload_n 1, 1) := by decide +kernel
theorem dX11_fewest_101 : decode cX11_fewest 101 = .ok (.iconst (-1), 1) := by decide +kernel
theorem dX11_fewest_102 : decode cX11_fewest 102 = .ok (.if_icmp .ne 45, 3) := by decide +kernel
theorem dX11_fewest_105 : decode cX11_fewest 105 = .ok (.aload_n 0, 1) := by decide +kernel
theorem dX11_fewest_106 : decode cX11_fewest 106 = .ok (.iload_n 3, 1) := by decide +kernel
theorem dX11_fewest_107 : decode cX11_fewest 107 = .ok (.invokevirtual 190, 3) := by decide +kernel
theorem dX11_fewest_110 : decode cX11_fewest 110 = .ok (.ifCond .eq 31, 3) := by decide +kernel
theorem dX11_fewest_113 : decode cX11_fewest 113 = .ok (.aload_n 0, 1) := by decide +kernel
theorem dX11_fewest_114 : decode cX11_fewest 114 = .ok (.invokevirtual 187, 3) := by decide +kernel
theorem dX11_fewest_117 : decode cX11_fewest 117 = .ok (.ifCond .eq 12, 3) := by decide +kernel
theorem dX11_fewest_120 : decode cX11_fewest 120 = .ok (.bipush 100, 2) := by decide +kernel
theorem dX11_fewest_122 : decode cX11_fewest 122 = .ok (.iload_n 2, 1) := by decide +kernel
theorem dX11_fewest_123 : decode cX11_fewest 123 = .ok (.imul, 1) := by decide +kernel
theorem dX11_fewest_124 : decode cX11_fewest 124 = .ok (.iload_n 3, 1) := by decide +kernel
theorem dX11_fewest_125 : decode cX11_fewest 125 = .ok (.iadd, 1) := by decide +kernel
theorem dX11_fewest_126 : decode cX11_fewest 126 = .ok (.goto 4, 3) := by decide +kernel
theorem dX11_fewest_129 : decode cX11_fewest 129 = .ok (.iconst (-1), 1) := by decide +kernel
theorem dX11_fewest_130 : decode cX11_fewest 130 = .ok (.istore_n 1, 1) := by decide +kernel
theorem dX11_fewest_131 : decode cX11_fewest 131 = .ok (.aload_n 0, 1) := by decide +kernel
theorem dX11_fewest_132 : decode cX11_fewest 132 = .ok (.dup, 1) := by decide +kernel
theorem dX11_fewest_133 : decode cX11_fewest 133 = .ok (.getfield 103, 3) := by decide +kernel
theorem dX11_fewest_136 : decode cX11_fewest 136 = .ok (.iconst 1, 1) := by decide +kernel
theorem dX11_fewest_137 : decode cX11_fewest 137 = .ok (.isub, 1) := by decide +kernel
theorem dX11_fewest_138 : decode cX11_fewest 138 = .ok (.putfield 103, 3) := by decide +kernel
theorem dX11_fewest_141 : decode cX11_fewest 141 = .ok (.iinc 3 1, 3) := by decide +kernel
theorem dX11_fewest_144 : decode cX11_fewest 144 = .ok (.goto (-50), 3) := by decide +kernel
theorem dX11_fewest_147 : decode cX11_fewest 147 = .ok (.aload_n 0, 1) := by decide +kernel
theorem dX11_fewest_148 : decode cX11_fewest 148 = .ok (.dup, 1) := by decide +kernel
theorem dX11_fewest_149 : decode cX11_fewest 149 = .ok (.getfield 103, 3) := by decide +kernel
theorem dX11_fewest_152 : decode cX11_fewest 152 = .ok (.iconst 1, 1) := by decide +kernel
theorem dX11_fewest_153 : decode cX11_fewest 153 = .ok (.isub, 1) := by decide +kernel
theorem dX11_fewest_154 : decode cX11_fewest 154 = .ok (.putfield 103, 3) := by decide +kernel
theorem dX11_fewest_157 : decode cX11_fewest 157 = .ok (.iinc 2 1, 3) := by decide +kernel
theorem dX11_fewest_160 : decode cX11_fewest 160 = .ok (.goto (-89), 3) := by decide +kernel
theorem dX11_fewest_163 : decode cX11_fewest 163 = .ok (.iload_n 1, 1) := by decide +kernel
theorem dX11_fewest_164 : decode cX11_fewest 164 = .ok (.ireturn, 1) := by decide +kernel
theorem dX11_notes_0 : decode cX11_notes 0 = .ok (.iload_n 1, 1) := by decide +kernel
theorem dX11_notes_1 : decode cX11_notes 1 = .ok (.i2l, 1) := by decide +kernel
theorem dX11_notes_2 : decode cX11_notes 2 = .ok (.lconst 0, 1) := by decide +kernel
theorem dX11_notes_3 : decode cX11_notes 3 = .ok (.ldc2_w 193, 3) := by decide +kernel
theorem dX11_notes_6 : decode cX11_notes 6 = .ok (.invokestatic 97, 3) := by decide +kernel
theorem dX11_notes_9 : decode cX11_notes 9 = .ok (.ifCond .ne 10, 3) := by decide +kernel
theorem dX11_notes_12 : decode cX11_notes 12 = .ok (.aload_n 0, 1) := by decide +kernel
theorem dX11_notes_13 : decode cX11_notes 13 = .ok (.bipush (-10), 2) := by decide +kernel
theorem dX11_notes_15 : decode cX11_notes 15 = .ok (.invokevirtual 120, 3) := by decide +kernel
theorem dX11_notes_18 : decode cX11_notes 18 = .ok (.ireturn, 1) := by decide +kernel
theorem dX11_notes_19 : decode cX11_notes 19 = .ok (.aload_n 0, 1) := by decide +kernel
theorem dX11_notes_20 : decode cX11_notes 20 = .ok (.invokevirtual 195, 3) := by decide +kernel
theorem dX11_notes_23 : decode cX11_notes 23 = .ok (.istore_n 2, 1) := by decide +kernel
theorem dX11_notes_24 : decode cX11_notes 24 = .ok (.iload_n 2, 1) := by decide +kernel
theorem dX11_notes_25 : decode cX11_notes 25 = .ok (.iconst (-1), 1) := by decide +kernel
theorem dX11_notes_26 : decode cX11_notes 26 = .ok (.if_icmp .ne 5, 3) := by decide +kernel
theorem dX11_notes_29 : decode cX11_notes 29 = .ok (.iconst (-1), 1) := by decide +kernel
theorem dX11_notes_30 : decode cX11_notes 30 = .ok (.ireturn, 1) := by decide +kernel
theorem dX11_notes_31 : decode cX11_notes 31 = .ok (.iload_n 2, 1) := by decide +kernel
theorem dX11_notes_32 : decode cX11_notes 32 = .ok (.bipush 100, 2) := by decide +kernel
theorem dX11_notes_34 : decode cX11_notes 34 = .ok (.idiv, 1) := by decide +kernel
theorem dX11_notes_35 : decode cX11_notes 35 = .ok (.istore_n 3, 1) := by decide +kernel
theorem dX11_notes_36 : decode cX11_notes 36 = .ok (.iload_n 2, 1) := by decide +kernel
theorem dX11_notes_37 : decode cX11_notes 37 = .ok (.bipush 100, 2) := by decide +kernel
theorem dX11_notes_39 : decode cX11_notes 39 = .ok (.irem, 1) := by decide +kernel
theorem dX11_notes_40 : decode cX11_notes 40 = .ok (.istore 4, 2) := by decide +kernel
theorem dX11_notes_42 : decode cX11_notes 42 = .ok (.iload_n 1, 1) := by decide +kernel
theorem dX11_notes_43 : decode cX11_notes 43 = .ok (.ifCond .ne 30, 3) := by decide +kernel
theorem dX11_notes_46 : decode cX11_notes 46 = .ok (.iload_n 3, 1) := by decide +kernel
theorem dX11_notes_47 : decode cX11_notes 47 = .ok (.bipush 99, 2) := by decide +kernel
theorem dX11_notes_49 : decode cX11_notes 49 = .ok (.if_icmp .ne 7, 3) := by decide +kernel
theorem dX11_notes_52 : decode cX11_notes 52 = .ok (.iconst 0, 1) := by decide +kernel
theorem dX11_notes_53 : decode cX11_notes 53 = .ok (.goto 4, 3) := by decide +kernel
theorem dX11_notes_56 : decode cX11_notes 56 = .ok (.iconst 1, 1) := by decide +kernel
theorem dX11_notes_57 : decode cX11_notes 57 = .ok (.iload 4, 2) := by decide +kernel
theorem dX11_notes_59 : decode cX11_notes 59 = .ok (.bipush 99, 2) := by decide +kernel
theorem dX11_notes_61 : decode cX11_notes 61 = .ok (.if_icmp .ne 7, 3) := by decide +kernel
theorem dX11_notes_64 : decode cX11_notes 64 = .ok (.iconst 0, 1) := by decide +kernel
theorem dX11_notes_65 : decode cX11_notes 65 = .ok (.goto 4, 3) := by decide +kernel
theorem dX11_notes_68 : decode cX11_notes 68 = .ok (.iconst 1, 1) := by decide +kernel
theorem dX11_notes_69 : decode cX11_notes 69 = .ok (.iadd, 1) := by decide +kernel
theorem dX11_notes_70 : decode cX11_notes 70 = .ok (.goto 35, 3) := by decide +kernel
theorem dX11_notes_73 : decode cX11_notes 73 = .ok (.iload_n 1, 1) := by decide +kernel
theorem dX11_notes_74 : decode cX11_notes 74 = .ok (.iconst 1, 1) := by decide +kernel
theorem dX11_notes_75 : decode cX11_notes 75 = .ok (.if_icmp .ne 17, 3) := by decide +kernel
theorem dX11_notes_78 : decode cX11_notes 78 = .ok (.iload_n 3, 1) := by decide +kernel
theorem dX11_notes_79 : decode cX11_notes 79 = .ok (.bipush 99, 2) := by decide +kernel
theorem dX11_notes_81 : decode cX11_notes 81 = .ok (.if_icmp .ne 7, 3) := by decide +kernel
theorem dX11_notes_84 : decode cX11_notes 84 = .ok (.iconst (-1), 1) := by decide +kernel
theorem dX11_notes_85 : decode cX11_notes 85 = .ok (.goto 20, 3) := by decide +kernel
theorem dX11_notes_88 : decode cX11_notes 88 = .ok (.iload_n 3, 1) := by decide +kernel
theorem dX11_notes_89 : decode cX11_notes 89 = .ok (.goto 16, 3) := by decide +kernel
theorem dX11_notes_92 : decode cX11_notes 92 = .ok (.iload 4, 2) := by decide +kernel
theorem dX11_notes_94 : decode cX11_notes 94 = .ok (.bipush 99, 2) := by decide +kernel
theorem dX11_notes_96 : decode cX11_notes 96 = .ok (.if_icmp .ne 7, 3) := by decide +kernel
theorem dX11_notes_99 : decode cX11_notes 99 = .ok (.iconst (-1), 1) := by decide +kernel
theorem dX11_notes_100 : decode cX11_notes 100 = .ok (.goto 5, 3) := by decide +kernel
theorem dX11_notes_103 : decode cX11_notes 103 = .ok (.iload 4, 2) := by decide +kernel
theorem dX11_notes_105 : decode cX11_notes 105 = .ok (.ireturn, 1) := by decide +kernel
theorem dX11_tells_0 : decode cX11_tells 0 = .ok (.lload_n 1, 1) := by decide +kernel
theorem dX11_tells_1 : decode cX11_tells 1 = .ok (.lstore 5, 2) := by decide +kernel
theorem dX11_tells_3 : decode cX11_tells 3 = .ok (.lload_n 3, 1) := by decide +kernel
theorem dX11_tells_4 : decode cX11_tells 4 = .ok (.lstore 7, 2) := by decide +kernel
theorem dX11_tells_6 : decode cX11_tells 6 = .ok (.lload 7, 2) := by decide +kernel
theorem dX11_tells_8 : decode cX11_tells 8 = .ok (.lconst 0, 1) := by decide +kernel
theorem dX11_tells_9 : decode cX11_tells 9 = .ok (.lcmp, 1) := by decide +kernel
theorem dX11_tells_10 : decode cX11_tells 10 = .ok (.ifCond .eq 21, 3) := by decide +kernel
theorem dX11_tells_13 : decode cX11_tells 13 = .ok (.lload 5, 2) := by decide +kernel
theorem dX11_tells_15 : decode cX11_tells 15 = .ok (.lload 7, 2) := by decide +kernel
theorem dX11_tells_17 : decode cX11_tells 17 = .ok (.lrem, 1) := by decide +kernel
theorem dX11_tells_18 : decode cX11_tells 18 = .ok (.lstore 9, 2) := by decide +kernel
theorem dX11_tells_20 : decode cX11_tells 20 = .ok (.lload 7, 2) := by decide +kernel
theorem dX11_tells_22 : decode cX11_tells 22 = .ok (.lstore 5, 2) := by decide +kernel
theorem dX11_tells_24 : decode cX11_tells 24 = .ok (.lload 9, 2) := by decide +kernel
theorem dX11_tells_26 : decode cX11_tells 26 = .ok (.lstore 7, 2) := by decide +kernel
theorem dX11_tells_28 : decode cX11_tells 28 = .ok (.goto (-22), 3) := by decide +kernel
theorem dX11_tells_31 : decode cX11_tells 31 = .ok (.aload_n 0, 1) := by decide +kernel
theorem dX11_tells_32 : decode cX11_tells 32 = .ok (.lload_n 1, 1) := by decide +kernel
theorem dX11_tells_33 : decode cX11_tells 33 = .ok (.lload 5, 2) := by decide +kernel
theorem dX11_tells_35 : decode cX11_tells 35 = .ok (.ldiv, 1) := by decide +kernel
theorem dX11_tells_36 : decode cX11_tells 36 = .ok (.putfield 86, 3) := by decide +kernel
theorem dX11_tells_39 : decode cX11_tells 39 = .ok (.aload_n 0, 1) := by decide +kernel
theorem dX11_tells_40 : decode cX11_tells 40 = .ok (.lload_n 3, 1) := by decide +kernel
theorem dX11_tells_41 : decode cX11_tells 41 = .ok (.lload 5, 2) := by decide +kernel
theorem dX11_tells_43 : decode cX11_tells 43 = .ok (.ldiv, 1) := by decide +kernel
theorem dX11_tells_44 : decode cX11_tells 44 = .ok (.putfield 90, 3) := by decide +kernel
theorem dX11_tells_47 : decode cX11_tells 47 = .ok (.return_, 1) := by decide +kernel
theorem dX11_mean_0 : decode cX11_mean 0 = .ok (.lconst 0, 1) := by decide +kernel
theorem dX11_mean_1 : decode cX11_mean 1 = .ok (.lstore_n 1, 1) := by decide +kernel
theorem dX11_mean_2 : decode cX11_mean 2 = .ok (.lconst 0, 1) := by decide +kernel
theorem dX11_mean_3 : decode cX11_mean 3 = .ok (.lstore_n 3, 1) := by decide +kernel
theorem dX11_mean_4 : decode cX11_mean 4 = .ok (.aload_n 0, 1) := by decide +kernel
theorem dX11_mean_5 : decode cX11_mean 5 = .ok (.getfield 58, 3) := by decide +kernel
theorem dX11_mean_8 : decode cX11_mean 8 = .ok (.invokestatic 178, 3) := by decide +kernel
theorem dX11_mean_11 : decode cX11_mean 11 = .ok (.iconst 0, 1) := by decide +kernel
theorem dX11_mean_12 : decode cX11_mean 12 = .ok (.istore 5, 2) := by decide +kernel
theorem dX11_mean_14 : decode cX11_mean 14 = .ok (.iload 5, 2) := by decide +kernel
theorem dX11_mean_16 : decode cX11_mean 16 = .ok (.aload_n 0, 1) := by decide +kernel
theorem dX11_mean_17 : decode cX11_mean 17 = .ok (.invokevirtual 147, 3) := by decide +kernel
theorem dX11_mean_20 : decode cX11_mean 20 = .ok (.if_icmp .ge 44, 3) := by decide +kernel
theorem dX11_mean_23 : decode cX11_mean 23 = .ok (.aload_n 0, 1) := by decide +kernel
theorem dX11_mean_24 : decode cX11_mean 24 = .ok (.aload_n 0, 1) := by decide +kernel
theorem dX11_mean_25 : decode cX11_mean 25 = .ok (.getfield 58, 3) := by decide +kernel
theorem dX11_mean_28 : decode cX11_mean 28 = .ok (.invokevirtual 170, 3) := by decide +kernel
theorem dX11_mean_31 : decode cX11_mean 31 = .ok (.aload_n 0, 1) := by decide +kernel
theorem dX11_mean_32 : decode cX11_mean 32 = .ok (.invokevirtual 174, 3) := by decide +kernel
theorem dX11_mean_35 : decode cX11_mean 35 = .ok (.ifCond .eq 15, 3) := by decide +kernel
theorem dX11_mean_38 : decode cX11_mean 38 = .ok (.lload_n 1, 1) := by decide +kernel
theorem dX11_mean_39 : decode cX11_mean 39 = .ok (.aload_n 0, 1) := by decide +kernel
theorem dX11_mean_40 : decode cX11_mean 40 = .ok (.getfield 164, 3) := by decide +kernel
theorem dX11_mean_43 : decode cX11_mean 43 = .ok (.i2l, 1) := by decide +kernel
theorem dX11_mean_44 : decode cX11_mean 44 = .ok (.ladd, 1) := by decide +kernel
theorem dX11_mean_45 : decode cX11_mean 45 = .ok (.lstore_n 1, 1) := by decide +kernel
theorem dX11_mean_46 : decode cX11_mean 46 = .ok (.lload_n 3, 1) := by decide +kernel
theorem dX11_mean_47 : decode cX11_mean 47 = .ok (.lconst 1, 1) := by decide +kernel
theorem dX11_mean_48 : decode cX11_mean 48 = .ok (.ladd, 1) := by decide +kernel
theorem dX11_mean_49 : decode cX11_mean 49 = .ok (.lstore_n 3, 1) := by decide +kernel
theorem dX11_mean_50 : decode cX11_mean 50 = .ok (.aload_n 0, 1) := by decide +kernel
theorem dX11_mean_51 : decode cX11_mean 51 = .ok (.aload_n 0, 1) := by decide +kernel
theorem dX11_mean_52 : decode cX11_mean 52 = .ok (.getfield 58, 3) := by decide +kernel
theorem dX11_mean_55 : decode cX11_mean 55 = .ok (.invokevirtual 184, 3) := by decide +kernel
theorem dX11_mean_58 : decode cX11_mean 58 = .ok (.iinc 5 1, 3) := by decide +kernel
theorem dX11_mean_61 : decode cX11_mean 61 = .ok (.goto (-47), 3) := by decide +kernel
theorem dX11_mean_64 : decode cX11_mean 64 = .ok (.lload_n 3, 1) := by decide +kernel
theorem dX11_mean_65 : decode cX11_mean 65 = .ok (.lconst 0, 1) := by decide +kernel
theorem dX11_mean_66 : decode cX11_mean 66 = .ok (.lcmp, 1) := by decide +kernel
theorem dX11_mean_67 : decode cX11_mean 67 = .ok (.ifCond .ne 8, 3) := by decide +kernel
theorem dX11_mean_70 : decode cX11_mean 70 = .ok (.aload_n 0, 1) := by decide +kernel
theorem dX11_mean_71 : decode cX11_mean 71 = .ok (.invokevirtual 131, 3) := by decide +kernel
theorem dX11_mean_74 : decode cX11_mean 74 = .ok (.ireturn, 1) := by decide +kernel
theorem dX11_mean_75 : decode cX11_mean 75 = .ok (.aload_n 0, 1) := by decide +kernel
theorem dX11_mean_76 : decode cX11_mean 76 = .ok (.lload_n 1, 1) := by decide +kernel
theorem dX11_mean_77 : decode cX11_mean 77 = .ok (.lload_n 3, 1) := by decide +kernel
theorem dX11_mean_78 : decode cX11_mean 78 = .ok (.invokevirtual 198, 3) := by decide +kernel
theorem dX11_mean_81 : decode cX11_mean 81 = .ok (.iconst 1, 1) := by decide +kernel
theorem dX11_mean_82 : decode cX11_mean 82 = .ok (.ireturn, 1) := by decide +kernel
theorem dX11_best_0 : decode cX11_best 0 = .ok (.iconst (-1), 1) := by decide +kernel
theorem dX11_best_1 : decode cX11_best 1 = .ok (.istore_n 1, 1) := by decide +kernel
theorem dX11_best_2 : decode cX11_best 2 = .ok (.iconst (-1), 1) := by decide +kernel
theorem dX11_best_3 : decode cX11_best 3 = .ok (.istore_n 2, 1) := by decide +kernel
theorem dX11_best_4 : decode cX11_best 4 = .ok (.aload_n 0, 1) := by decide +kernel
theorem dX11_best_5 : decode cX11_best 5 = .ok (.getfield 58, 3) := by decide +kernel
theorem dX11_best_8 : decode cX11_best 8 = .ok (.invokestatic 178, 3) := by decide +kernel
theorem dX11_best_11 : decode cX11_best 11 = .ok (.iconst 0, 1) := by decide +kernel
theorem dX11_best_12 : decode cX11_best 12 = .ok (.istore_n 3, 1) := by decide +kernel
theorem dX11_best_13 : decode cX11_best 13 = .ok (.iload_n 3, 1) := by decide +kernel
theorem dX11_best_14 : decode cX11_best 14 = .ok (.aload_n 0, 1) := by decide +kernel
theorem dX11_best_15 : decode cX11_best 15 = .ok (.invokevirtual 147, 3) := by decide +kernel
theorem dX11_best_18 : decode cX11_best 18 = .ok (.if_icmp .ge 47, 3) := by decide +kernel
theorem dX11_best_21 : decode cX11_best 21 = .ok (.aload_n 0, 1) := by decide +kernel
theorem dX11_best_22 : decode cX11_best 22 = .ok (.aload_n 0, 1) := by decide +kernel
theorem dX11_best_23 : decode cX11_best 23 = .ok (.getfield 58, 3) := by decide +kernel
theorem dX11_best_26 : decode cX11_best 26 = .ok (.invokevirtual 170, 3) := by decide +kernel
theorem dX11_best_29 : decode cX11_best 29 = .ok (.aload_n 0, 1) := by decide +kernel
theorem dX11_best_30 : decode cX11_best 30 = .ok (.invokevirtual 174, 3) := by decide +kernel
theorem dX11_best_33 : decode cX11_best 33 = .ok (.ifCond .eq 18, 3) := by decide +kernel
theorem dX11_best_36 : decode cX11_best 36 = .ok (.aload_n 0, 1) := by decide +kernel
theorem dX11_best_37 : decode cX11_best 37 = .ok (.getfield 164, 3) := by decide +kernel
theorem dX11_best_40 : decode cX11_best 40 = .ok (.iload_n 2, 1) := by decide +kernel
theorem dX11_best_41 : decode cX11_best 41 = .ok (.if_icmp .le 10, 3) := by decide +kernel
theorem dX11_best_44 : decode cX11_best 44 = .ok (.iload_n 3, 1) := by decide +kernel
theorem dX11_best_45 : decode cX11_best 45 = .ok (.istore_n 1, 1) := by decide +kernel
theorem dX11_best_46 : decode cX11_best 46 = .ok (.aload_n 0, 1) := by decide +kernel
theorem dX11_best_47 : decode cX11_best 47 = .ok (.getfield 164, 3) := by decide +kernel
theorem dX11_best_50 : decode cX11_best 50 = .ok (.istore_n 2, 1) := by decide +kernel
theorem dX11_best_51 : decode cX11_best 51 = .ok (.aload_n 0, 1) := by decide +kernel
theorem dX11_best_52 : decode cX11_best 52 = .ok (.aload_n 0, 1) := by decide +kernel
theorem dX11_best_53 : decode cX11_best 53 = .ok (.getfield 58, 3) := by decide +kernel
theorem dX11_best_56 : decode cX11_best 56 = .ok (.invokevirtual 184, 3) := by decide +kernel
theorem dX11_best_59 : decode cX11_best 59 = .ok (.iinc 3 1, 3) := by decide +kernel
theorem dX11_best_62 : decode cX11_best 62 = .ok (.goto (-49), 3) := by decide +kernel
theorem dX11_best_65 : decode cX11_best 65 = .ok (.iload_n 1, 1) := by decide +kernel
theorem dX11_best_66 : decode cX11_best 66 = .ok (.iconst (-1), 1) := by decide +kernel
theorem dX11_best_67 : decode cX11_best 67 = .ok (.if_icmp .ne 10, 3) := by decide +kernel
theorem dX11_best_70 : decode cX11_best 70 = .ok (.aload_n 0, 1) := by decide +kernel
theorem dX11_best_71 : decode cX11_best 71 = .ok (.invokevirtual 131, 3) := by decide +kernel
theorem dX11_best_74 : decode cX11_best 74 = .ok (.goto 4, 3) := by decide +kernel
theorem dX11_best_77 : decode cX11_best 77 = .ok (.iload_n 1, 1) := by decide +kernel
theorem dX11_best_78 : decode cX11_best 78 = .ok (.ireturn, 1) := by decide +kernel
theorem dX11_when_0 : decode cX11_when 0 = .ok (.aload_n 0, 1) := by decide +kernel
theorem dX11_when_1 : decode cX11_when 1 = .ok (.iload_n 1, 1) := by decide +kernel
theorem dX11_when_2 : decode cX11_when 2 = .ok (.invokevirtual 124, 3) := by decide +kernel
theorem dX11_when_5 : decode cX11_when 5 = .ok (.ifCond .eq 15, 3) := by decide +kernel
theorem dX11_when_8 : decode cX11_when 8 = .ok (.iload_n 2, 1) := by decide +kernel
theorem dX11_when_9 : decode cX11_when 9 = .ok (.i2l, 1) := by decide +kernel
theorem dX11_when_10 : decode cX11_when 10 = .ok (.lconst 0, 1) := by decide +kernel
theorem dX11_when_11 : decode cX11_when 11 = .ok (.ldc2_w 202, 3) := by decide +kernel
theorem dX11_when_14 : decode cX11_when 14 = .ok (.invokestatic 97, 3) := by decide +kernel
theorem dX11_when_17 : decode cX11_when 17 = .ok (.ifCond .ne 10, 3) := by decide +kernel
theorem dX11_when_20 : decode cX11_when 20 = .ok (.aload_n 0, 1) := by decide +kernel
theorem dX11_when_21 : decode cX11_when 21 = .ok (.bipush (-2), 2) := by decide +kernel
theorem dX11_when_23 : decode cX11_when 23 = .ok (.invokevirtual 120, 3) := by decide +kernel
theorem dX11_when_26 : decode cX11_when 26 = .ok (.ireturn, 1) := by decide +kernel
theorem dX11_when_27 : decode cX11_when 27 = .ok (.iconst 0, 1) := by decide +kernel
theorem dX11_when_28 : decode cX11_when 28 = .ok (.istore_n 3, 1) := by decide +kernel
theorem dX11_when_29 : decode cX11_when 29 = .ok (.aload_n 0, 1) := by decide +kernel
theorem dX11_when_30 : decode cX11_when 30 = .ok (.getfield 58, 3) := by decide +kernel
theorem dX11_when_33 : decode cX11_when 33 = .ok (.invokestatic 178, 3) := by decide +kernel
theorem dX11_when_36 : decode cX11_when 36 = .ok (.iconst 0, 1) := by decide +kernel
theorem dX11_when_37 : decode cX11_when 37 = .ok (.istore 4, 2) := by decide +kernel
theorem dX11_when_39 : decode cX11_when 39 = .ok (.iload 4, 2) := by decide +kernel
theorem dX11_when_41 : decode cX11_when 41 = .ok (.aload_n 0, 1) := by decide +kernel
theorem dX11_when_42 : decode cX11_when 42 = .ok (.invokevirtual 147, 3) := by decide +kernel
theorem dX11_when_45 : decode cX11_when 45 = .ok (.if_icmp .ge 57, 3) := by decide +kernel
theorem dX11_when_48 : decode cX11_when 48 = .ok (.aload_n 0, 1) := by decide +kernel
theorem dX11_when_49 : decode cX11_when 49 = .ok (.aload_n 0, 1) := by decide +kernel
theorem dX11_when_50 : decode cX11_when 50 = .ok (.getfield 58, 3) := by decide +kernel
theorem dX11_when_53 : decode cX11_when 53 = .ok (.invokevirtual 170, 3) := by decide +kernel
theorem dX11_when_56 : decode cX11_when 56 = .ok (.iload_n 3, 1) := by decide +kernel
theorem dX11_when_57 : decode cX11_when 57 = .ok (.aload_n 0, 1) := by decide +kernel
theorem dX11_when_58 : decode cX11_when 58 = .ok (.invokevirtual 174, 3) := by decide +kernel
theorem dX11_when_61 : decode cX11_when 61 = .ok (.ifCond .eq 24, 3) := by decide +kernel
theorem dX11_when_64 : decode cX11_when 64 = .ok (.aload_n 0, 1) := by decide +kernel
theorem dX11_when_65 : decode cX11_when 65 = .ok (.getfield 52, 3) := by decide +kernel
theorem dX11_when_68 : decode cX11_when 68 = .ok (.iload_n 1, 1) := by decide +kernel
theorem dX11_when_69 : decode cX11_when 69 = .ok (.iaload, 1) := by decide +kernel
theorem dX11_when_70 : decode cX11_when 70 = .ok (.iload_n 2, 1) := by decide +kernel
theorem dX11_when_71 : decode cX11_when 71 = .ok (.if_icmp .ne 14, 3) := by decide +kernel
theorem dX11_when_74 : decode cX11_when 74 = .ok (.iconst 1, 1) := by decide +kernel
theorem dX11_when_75 : decode cX11_when 75 = .ok (.aload_n 0, 1) := by decide +kernel
theorem dX11_when_76 : decode cX11_when 76 = .ok (.getfield 55, 3) := by decide +kernel
theorem dX11_when_79 : decode cX11_when 79 = .ok (.iload_n 1, 1) := by decide +kernel
theorem dX11_when_80 : decode cX11_when 80 = .ok (.iaload, 1) := by decide +kernel
theorem dX11_when_81 : decode cX11_when 81 = .ok (.ishl, 1) := by decide +kernel
theorem dX11_when_82 : decode cX11_when 82 = .ok (.goto 4, 3) := by decide +kernel
theorem dX11_when_85 : decode cX11_when 85 = .ok (.iconst 0, 1) := by decide +kernel
theorem dX11_when_86 : decode cX11_when 86 = .ok (.ior, 1) := by decide +kernel
theorem dX11_when_87 : decode cX11_when 87 = .ok (.istore_n 3, 1) := by decide +kernel
theorem dX11_when_88 : decode cX11_when 88 = .ok (.aload_n 0, 1) := by decide +kernel
theorem dX11_when_89 : decode cX11_when 89 = .ok (.aload_n 0, 1) := by decide +kernel
theorem dX11_when_90 : decode cX11_when 90 = .ok (.getfield 58, 3) := by decide +kernel
theorem dX11_when_93 : decode cX11_when 93 = .ok (.invokevirtual 184, 3) := by decide +kernel
theorem dX11_when_96 : decode cX11_when 96 = .ok (.iinc 4 1, 3) := by decide +kernel
theorem dX11_when_99 : decode cX11_when 99 = .ok (.goto (-60), 3) := by decide +kernel
theorem dX11_when_102 : decode cX11_when 102 = .ok (.iload_n 3, 1) := by decide +kernel
theorem dX11_when_103 : decode cX11_when 103 = .ok (.ireturn, 1) := by decide +kernel
theorem dX11_diary_0 : decode cX11_diary 0 = .ok (.aload_n 0, 1) := by decide +kernel
theorem dX11_diary_1 : decode cX11_diary 1 = .ok (.iload_n 1, 1) := by decide +kernel
theorem dX11_diary_2 : decode cX11_diary 2 = .ok (.invokevirtual 124, 3) := by decide +kernel
theorem dX11_diary_5 : decode cX11_diary 5 = .ok (.ifCond .eq 17, 3) := by decide +kernel
theorem dX11_diary_8 : decode cX11_diary 8 = .ok (.iload_n 2, 1) := by decide +kernel
theorem dX11_diary_9 : decode cX11_diary 9 = .ok (.i2l, 1) := by decide +kernel
theorem dX11_diary_10 : decode cX11_diary 10 = .ok (.ldc2_w 204, 3) := by decide +kernel
theorem dX11_diary_13 : decode cX11_diary 13 = .ok (.ldc2_w 202, 3) := by decide +kernel
theorem dX11_diary_16 : decode cX11_diary 16 = .ok (.invokestatic 97, 3) := by decide +kernel
theorem dX11_diary_19 : decode cX11_diary 19 = .ok (.ifCond .ne 10, 3) := by decide +kernel
theorem dX11_diary_22 : decode cX11_diary 22 = .ok (.aload_n 0, 1) := by decide +kernel
theorem dX11_diary_23 : decode cX11_diary 23 = .ok (.bipush (-10), 2) := by decide +kernel
theorem dX11_diary_25 : decode cX11_diary 25 = .ok (.invokevirtual 120, 3) := by decide +kernel
theorem dX11_diary_28 : decode cX11_diary 28 = .ok (.ireturn, 1) := by decide +kernel
theorem dX11_diary_29 : decode cX11_diary 29 = .ok (.aload_n 0, 1) := by decide +kernel
theorem dX11_diary_30 : decode cX11_diary 30 = .ok (.getfield 43, 3) := by decide +kernel
theorem dX11_diary_33 : decode cX11_diary 33 = .ok (.iload_n 1, 1) := by decide +kernel
theorem dX11_diary_34 : decode cX11_diary 34 = .ok (.iaload, 1) := by decide +kernel
theorem dX11_diary_35 : decode cX11_diary 35 = .ok (.istore_n 3, 1) := by decide +kernel
theorem dX11_diary_36 : decode cX11_diary 36 = .ok (.aload_n 0, 1) := by decide +kernel
theorem dX11_diary_37 : decode cX11_diary 37 = .ok (.getfield 43, 3) := by decide +kernel
theorem dX11_diary_40 : decode cX11_diary 40 = .ok (.iload_n 1, 1) := by decide +kernel
theorem dX11_diary_41 : decode cX11_diary 41 = .ok (.iload_n 2, 1) := by decide +kernel
theorem dX11_diary_42 : decode cX11_diary 42 = .ok (.iastore, 1) := by decide +kernel
theorem dX11_diary_43 : decode cX11_diary 43 = .ok (.iload_n 3, 1) := by decide +kernel
theorem dX11_diary_44 : decode cX11_diary 44 = .ok (.ireturn, 1) := by decide +kernel
theorem dX11_torn_0 : decode cX11_torn 0 = .ok (.iload_n 1, 1) := by decide +kernel
theorem dX11_torn_1 : decode cX11_torn 1 = .ok (.i2l, 1) := by decide +kernel
theorem dX11_torn_2 : decode cX11_torn 2 = .ok (.lconst 0, 1) := by decide +kernel
theorem dX11_torn_3 : decode cX11_torn 3 = .ok (.lconst 1, 1) := by decide +kernel
theorem dX11_torn_4 : decode cX11_torn 4 = .ok (.invokestatic 97, 3) := by decide +kernel
theorem dX11_torn_7 : decode cX11_torn 7 = .ok (.ifCond .ne 10, 3) := by decide +kernel
theorem dX11_torn_10 : decode cX11_torn 10 = .ok (.aload_n 0, 1) := by decide +kernel
theorem dX11_torn_11 : decode cX11_torn 11 = .ok (.bipush (-10), 2) := by decide +kernel
theorem dX11_torn_13 : decode cX11_torn 13 = .ok (.invokevirtual 120, 3) := by decide +kernel
theorem dX11_torn_16 : decode cX11_torn 16 = .ok (.ireturn, 1) := by decide +kernel
theorem dX11_torn_17 : decode cX11_torn 17 = .ok (.iconst 0, 1) := by decide +kernel
theorem dX11_torn_18 : decode cX11_torn 18 = .ok (.istore_n 2, 1) := by decide +kernel
theorem dX11_torn_19 : decode cX11_torn 19 = .ok (.iconst (-1), 1) := by decide +kernel
theorem dX11_torn_20 : decode cX11_torn 20 = .ok (.istore_n 3, 1) := by decide +kernel
theorem dX11_torn_21 : decode cX11_torn 21 = .ok (.aload_n 0, 1) := by decide +kernel
theorem dX11_torn_22 : decode cX11_torn 22 = .ok (.getfield 58, 3) := by decide +kernel
theorem dX11_torn_25 : decode cX11_torn 25 = .ok (.invokestatic 178, 3) := by decide +kernel
theorem dX11_torn_28 : decode cX11_torn 28 = .ok (.iconst 0, 1) := by decide +kernel
theorem dX11_torn_29 : decode cX11_torn 29 = .ok (.istore 4, 2) := by decide +kernel
theorem dX11_torn_31 : decode cX11_torn 31 = .ok (.iload 4, 2) := by decide +kernel
theorem dX11_torn_33 : decode cX11_torn 33 = .ok (.aload_n 0, 1) := by decide +kernel
theorem dX11_torn_34 : decode cX11_torn 34 = .ok (.invokevirtual 147, 3) := by decide +kernel
theorem dX11_torn_37 : decode cX11_torn 37 = .ok (.if_icmp .ge 124, 3) := by decide +kernel
theorem dX11_torn_40 : decode cX11_torn 40 = .ok (.aload_n 0, 1) := by decide +kernel
theorem dX11_torn_41 : decode cX11_torn 41 = .ok (.aload_n 0, 1) := by decide +kernel
theorem dX11_torn_42 : decode cX11_torn 42 = .ok (.getfield 58, 3) := by decide +kernel
theorem dX11_torn_45 : decode cX11_torn 45 = .ok (.invokevirtual 170, 3) := by decide +kernel
theorem dX11_torn_48 : decode cX11_torn 48 = .ok (.aload_n 0, 1) := by decide +kernel
theorem dX11_torn_49 : decode cX11_torn 49 = .ok (.invokevirtual 174, 3) := by decide +kernel
theorem dX11_torn_52 : decode cX11_torn 52 = .ok (.istore 5, 2) := by decide +kernel
theorem dX11_torn_54 : decode cX11_torn 54 = .ok (.iconst 0, 1) := by decide +kernel
theorem dX11_torn_55 : decode cX11_torn 55 = .ok (.istore 6, 2) := by decide +kernel
theorem dX11_torn_57 : decode cX11_torn 57 = .ok (.iload 6, 2) := by decide +kernel
theorem dX11_torn_59 : decode cX11_torn 59 = .ok (.aload_n 0, 1) := by decide +kernel
theorem dX11_torn_60 : decode cX11_torn 60 = .ok (.getfield 93, 3) := by decide +kernel
theorem dX11_torn_63 : decode cX11_torn 63 = .ok (.if_icmp .ge 54, 3) := by decide +kernel
theorem dX11_torn_66 : decode cX11_torn 66 = .ok (.iload 5, 2) := by decide +kernel
theorem dX11_torn_68 : decode cX11_torn 68 = .ok (.ifCond .eq 40, 3) := by decide +kernel
theorem dX11_torn_71 : decode cX11_torn 71 = .ok (.aload_n 0, 1) := by decide +kernel
theorem dX11_torn_72 : decode cX11_torn 72 = .ok (.getfield 43, 3) := by decide +kernel
theorem dX11_torn_75 : decode cX11_torn 75 = .ok (.iload 6, 2) := by decide +kernel
theorem dX11_torn_77 : decode cX11_torn 77 = .ok (.iaload, 1) := by decide +kernel
theorem dX11_torn_78 : decode cX11_torn 78 = .ok (.iconst (-1), 1) := by decide +kernel
theorem dX11_torn_79 : decode cX11_torn 79 = .ok (.if_icmp .eq 25, 3) := by decide +kernel
theorem dX11_torn_82 : decode cX11_torn 82 = .ok (.aload_n 0, 1) := by decide +kernel
theorem dX11_torn_83 : decode cX11_torn 83 = .ok (.getfield 52, 3) := by decide +kernel
theorem dX11_torn_86 : decode cX11_torn 86 = .ok (.aload_n 0, 1) := by decide +kernel
theorem dX11_torn_87 : decode cX11_torn 87 = .ok (.getfield 58, 3) := by decide +kernel
theorem dX11_torn_90 : decode cX11_torn 90 = .ok (.iload 6, 2) := by decide +kernel
theorem dX11_torn_92 : decode cX11_torn 92 = .ok (.iaload, 1) := by decide +kernel
theorem dX11_torn_93 : decode cX11_torn 93 = .ok (.iaload, 1) := by decide +kernel
theorem dX11_torn_94 : decode cX11_torn 94 = .ok (.aload_n 0, 1) := by decide +kernel
theorem dX11_torn_95 : decode cX11_torn 95 = .ok (.getfield 43, 3) := by decide +kernel
theorem dX11_torn_98 : decode cX11_torn 98 = .ok (.iload 6, 2) := by decide +kernel
theorem dX11_torn_100 : decode cX11_torn 100 = .ok (.iaload, 1) := by decide +kernel
theorem dX11_torn_101 : decode cX11_torn 101 = .ok (.if_icmp .ne 7, 3) := by decide +kernel
theorem dX11_torn_104 : decode cX11_torn 104 = .ok (.iconst 1, 1) := by decide +kernel
theorem dX11_torn_105 : decode cX11_torn 105 = .ok (.goto 4, 3) := by decide +kernel
theorem dX11_torn_108 : decode cX11_torn 108 = .ok (.iconst 0, 1) := by decide +kernel
theorem dX11_torn_109 : decode cX11_torn 109 = .ok (.istore 5, 2) := by decide +kernel
theorem dX11_torn_111 : decode cX11_torn 111 = .ok (.iinc 6 1, 3) := by decide +kernel
theorem dX11_torn_114 : decode cX11_torn 114 = .ok (.goto (-57), 3) := by decide +kernel
theorem dX11_torn_117 : decode cX11_torn 117 = .ok (.iload 5, 2) := by decide +kernel
theorem dX11_torn_119 : decode cX11_torn 119 = .ok (.ifCond .eq 13, 3) := by decide +kernel
theorem dX11_torn_122 : decode cX11_torn 122 = .ok (.iload_n 3, 1) := by decide +kernel
theorem dX11_torn_123 : decode cX11_torn 123 = .ok (.iconst (-1), 1) := by decide +kernel
theorem dX11_torn_124 : decode cX11_torn 124 = .ok (.if_icmp .ne 8, 3) := by decide +kernel
theorem dX11_torn_127 : decode cX11_torn 127 = .ok (.iload 4, 2) := by decide +kernel
theorem dX11_torn_129 : decode cX11_torn 129 = .ok (.goto 4, 3) := by decide +kernel
theorem dX11_torn_132 : decode cX11_torn 132 = .ok (.iload_n 3, 1) := by decide +kernel
theorem dX11_torn_133 : decode cX11_torn 133 = .ok (.istore_n 3, 1) := by decide +kernel
theorem dX11_torn_134 : decode cX11_torn 134 = .ok (.iload_n 2, 1) := by decide +kernel
theorem dX11_torn_135 : decode cX11_torn 135 = .ok (.iload 5, 2) := by decide +kernel
theorem dX11_torn_137 : decode cX11_torn 137 = .ok (.ifCond .eq 7, 3) := by decide +kernel
theorem dX11_torn_140 : decode cX11_torn 140 = .ok (.iconst 1, 1) := by decide +kernel
theorem dX11_torn_141 : decode cX11_torn 141 = .ok (.goto 4, 3) := by decide +kernel
theorem dX11_torn_144 : decode cX11_torn 144 = .ok (.iconst 0, 1) := by decide +kernel
theorem dX11_torn_145 : decode cX11_torn 145 = .ok (.iadd, 1) := by decide +kernel
theorem dX11_torn_146 : decode cX11_torn 146 = .ok (.istore_n 2, 1) := by decide +kernel
theorem dX11_torn_147 : decode cX11_torn 147 = .ok (.aload_n 0, 1) := by decide +kernel
theorem dX11_torn_148 : decode cX11_torn 148 = .ok (.aload_n 0, 1) := by decide +kernel
theorem dX11_torn_149 : decode cX11_torn 149 = .ok (.getfield 58, 3) := by decide +kernel
theorem dX11_torn_152 : decode cX11_torn 152 = .ok (.invokevirtual 184, 3) := by decide +kernel
theorem dX11_torn_155 : decode cX11_torn 155 = .ok (.iinc 4 1, 3) := by decide +kernel
theorem dX11_torn_158 : decode cX11_torn 158 = .ok (.goto (-127), 3) := by decide +kernel
theorem dX11_torn_161 : decode cX11_torn 161 = .ok (.iload_n 1, 1) := by decide +kernel
theorem dX11_torn_162 : decode cX11_torn 162 = .ok (.ifCond .ne 7, 3) := by decide +kernel
theorem dX11_torn_165 : decode cX11_torn 165 = .ok (.iload_n 2, 1) := by decide +kernel
theorem dX11_torn_166 : decode cX11_torn 166 = .ok (.goto 4, 3) := by decide +kernel
theorem dX11_torn_169 : decode cX11_torn 169 = .ok (.iload_n 3, 1) := by decide +kernel
theorem dX11_torn_170 : decode cX11_torn 170 = .ok (.ireturn, 1) := by decide +kernel
theorem dX11_promise_0 : decode cX11_promise 0 = .ok (.iload_n 1, 1) := by decide +kernel
theorem dX11_promise_1 : decode cX11_promise 1 = .ok (.invokestatic 128, 3) := by decide +kernel
theorem dX11_promise_4 : decode cX11_promise 4 = .ok (.ifCond .eq 24, 3) := by decide +kernel
theorem dX11_promise_7 : decode cX11_promise 7 = .ok (.aload_n 0, 1) := by decide +kernel
theorem dX11_promise_8 : decode cX11_promise 8 = .ok (.iload_n 2, 1) := by decide +kernel
theorem dX11_promise_9 : decode cX11_promise 9 = .ok (.invokevirtual 124, 3) := by decide +kernel
theorem dX11_promise_12 : decode cX11_promise 12 = .ok (.ifCond .eq 16, 3) := by decide +kernel
theorem dX11_promise_15 : decode cX11_promise 15 = .ok (.aload_n 0, 1) := by decide +kernel
theorem dX11_promise_16 : decode cX11_promise 16 = .ok (.iload_n 3, 1) := by decide +kernel
theorem dX11_promise_17 : decode cX11_promise 17 = .ok (.invokevirtual 124, 3) := by decide +kernel
theorem dX11_promise_20 : decode cX11_promise 20 = .ok (.ifCond .eq 8, 3) := by decide +kernel
theorem dX11_promise_23 : decode cX11_promise 23 = .ok (.iload_n 2, 1) := by decide +kernel
theorem dX11_promise_24 : decode cX11_promise 24 = .ok (.iload_n 3, 1) := by decide +kernel
theorem dX11_promise_25 : decode cX11_promise 25 = .ok (.if_icmp .ne 10, 3) := by decide +kernel
theorem dX11_promise_28 : decode cX11_promise 28 = .ok (.aload_n 0, 1) := by decide +kernel
theorem dX11_promise_29 : decode cX11_promise 29 = .ok (.bipush (-2), 2) := by decide +kernel
theorem dX11_promise_31 : decode cX11_promise 31 = .ok (.invokevirtual 120, 3) := by decide +kernel
theorem dX11_promise_34 : decode cX11_promise 34 = .ok (.ireturn, 1) := by decide +kernel
theorem dX11_promise_35 : decode cX11_promise 35 = .ok (.aload_n 0, 1) := by decide +kernel
theorem dX11_promise_36 : decode cX11_promise 36 = .ok (.getfield 19, 3) := by decide +kernel
theorem dX11_promise_39 : decode cX11_promise 39 = .ok (.iload_n 2, 1) := by decide +kernel
theorem dX11_promise_40 : decode cX11_promise 40 = .ok (.iaload, 1) := by decide +kernel
theorem dX11_promise_41 : decode cX11_promise 41 = .ok (.istore 4, 2) := by decide +kernel
theorem dX11_promise_43 : decode cX11_promise 43 = .ok (.aload_n 0, 1) := by decide +kernel
theorem dX11_promise_44 : decode cX11_promise 44 = .ok (.getfield 19, 3) := by decide +kernel
theorem dX11_promise_47 : decode cX11_promise 47 = .ok (.iload_n 2, 1) := by decide +kernel
theorem dX11_promise_48 : decode cX11_promise 48 = .ok (.dup2, 1) := by decide +kernel
theorem dX11_promise_49 : decode cX11_promise 49 = .ok (.iaload, 1) := by decide +kernel
theorem dX11_promise_50 : decode cX11_promise 50 = .ok (.iconst 1, 1) := by decide +kernel
theorem dX11_promise_51 : decode cX11_promise 51 = .ok (.iload_n 1, 1) := by decide +kernel
theorem dX11_promise_52 : decode cX11_promise 52 = .ok (.ishl, 1) := by decide +kernel
theorem dX11_promise_53 : decode cX11_promise 53 = .ok (.ior, 1) := by decide +kernel
theorem dX11_promise_54 : decode cX11_promise 54 = .ok (.iastore, 1) := by decide +kernel
theorem dX11_promise_55 : decode cX11_promise 55 = .ok (.lconst 0, 1) := by decide +kernel
theorem dX11_promise_56 : decode cX11_promise 56 = .ok (.lstore 5, 2) := by decide +kernel
theorem dX11_promise_58 : decode cX11_promise 58 = .ok (.aload_n 0, 1) := by decide +kernel
theorem dX11_promise_59 : decode cX11_promise 59 = .ok (.getfield 58, 3) := by decide +kernel
theorem dX11_promise_62 : decode cX11_promise 62 = .ok (.invokestatic 178, 3) := by decide +kernel
theorem dX11_promise_65 : decode cX11_promise 65 = .ok (.iconst 0, 1) := by decide +kernel
theorem dX11_promise_66 : decode cX11_promise 66 = .ok (.istore 7, 2) := by decide +kernel
theorem dX11_promise_68 : decode cX11_promise 68 = .ok (.iload 7, 2) := by decide +kernel
theorem dX11_promise_70 : decode cX11_promise 70 = .ok (.aload_n 0, 1) := by decide +kernel
theorem dX11_promise_71 : decode cX11_promise 71 = .ok (.invokevirtual 147, 3) := by decide +kernel
theorem dX11_promise_74 : decode cX11_promise 74 = .ok (.if_icmp .ge 41, 3) := by decide +kernel
theorem dX11_promise_77 : decode cX11_promise 77 = .ok (.aload_n 0, 1) := by decide +kernel
theorem dX11_promise_78 : decode cX11_promise 78 = .ok (.aload_n 0, 1) := by decide +kernel
theorem dX11_promise_79 : decode cX11_promise 79 = .ok (.getfield 58, 3) := by decide +kernel
theorem dX11_promise_82 : decode cX11_promise 82 = .ok (.invokevirtual 170, 3) := by decide +kernel
theorem dX11_promise_85 : decode cX11_promise 85 = .ok (.lload 5, 2) := by decide +kernel
theorem dX11_promise_87 : decode cX11_promise 87 = .ok (.aload_n 0, 1) := by decide +kernel
theorem dX11_promise_88 : decode cX11_promise 88 = .ok (.getfield 52, 3) := by decide +kernel
theorem dX11_promise_91 : decode cX11_promise 91 = .ok (.iload_n 3, 1) := by decide +kernel
theorem dX11_promise_92 : decode cX11_promise 92 = .ok (.iaload, 1) := by decide +kernel
theorem dX11_promise_93 : decode cX11_promise 93 = .ok (.iload_n 1, 1) := by decide +kernel
theorem dX11_promise_94 : decode cX11_promise 94 = .ok (.ishr, 1) := by decide +kernel
theorem dX11_promise_95 : decode cX11_promise 95 = .ok (.iconst 1, 1) := by decide +kernel
theorem dX11_promise_96 : decode cX11_promise 96 = .ok (.iand, 1) := by decide +kernel
theorem dX11_promise_97 : decode cX11_promise 97 = .ok (.i2l, 1) := by decide +kernel
theorem dX11_promise_98 : decode cX11_promise 98 = .ok (.ladd, 1) := by decide +kernel
theorem dX11_promise_99 : decode cX11_promise 99 = .ok (.lstore 5, 2) := by decide +kernel
theorem dX11_promise_101 : decode cX11_promise 101 = .ok (.aload_n 0, 1) := by decide +kernel
theorem dX11_promise_102 : decode cX11_promise 102 = .ok (.aload_n 0, 1) := by decide +kernel
theorem dX11_promise_103 : decode cX11_promise 103 = .ok (.getfield 58, 3) := by decide +kernel
theorem dX11_promise_106 : decode cX11_promise 106 = .ok (.invokevirtual 184, 3) := by decide +kernel
theorem dX11_promise_109 : decode cX11_promise 109 = .ok (.iinc 7 1, 3) := by decide +kernel
theorem dX11_promise_112 : decode cX11_promise 112 = .ok (.goto (-44), 3) := by decide +kernel
theorem dX11_promise_115 : decode cX11_promise 115 = .ok (.aload_n 0, 1) := by decide +kernel
theorem dX11_promise_116 : decode cX11_promise 116 = .ok (.getfield 19, 3) := by decide +kernel
theorem dX11_promise_119 : decode cX11_promise 119 = .ok (.iload_n 2, 1) := by decide +kernel
theorem dX11_promise_120 : decode cX11_promise 120 = .ok (.iload 4, 2) := by decide +kernel
theorem dX11_promise_122 : decode cX11_promise 122 = .ok (.iastore, 1) := by decide +kernel
theorem dX11_promise_123 : decode cX11_promise 123 = .ok (.aload_n 0, 1) := by decide +kernel
theorem dX11_promise_124 : decode cX11_promise 124 = .ok (.lload 5, 2) := by decide +kernel
theorem dX11_promise_126 : decode cX11_promise 126 = .ok (.aload_n 0, 1) := by decide +kernel
theorem dX11_promise_127 : decode cX11_promise 127 = .ok (.invokevirtual 147, 3) := by decide +kernel
theorem dX11_promise_130 : decode cX11_promise 130 = .ok (.i2l, 1) := by decide +kernel
theorem dX11_promise_131 : decode cX11_promise 131 = .ok (.invokevirtual 198, 3) := by decide +kernel
theorem dX11_promise_134 : decode cX11_promise 134 = .ok (.iconst 1, 1) := by decide +kernel
theorem dX11_promise_135 : decode cX11_promise 135 = .ok (.ireturn, 1) := by decide +kernel
theorem dX11_other_0 : decode cX11_other 0 = .ok (.aload_n 0, 1) := by decide +kernel
theorem dX11_other_1 : decode cX11_other 1 = .ok (.iload_n 1, 1) := by decide +kernel
theorem dX11_other_2 : decode cX11_other 2 = .ok (.invokevirtual 150, 3) := by decide +kernel
theorem dX11_other_5 : decode cX11_other 5 = .ok (.ifCond .ne 10, 3) := by decide +kernel
theorem dX11_other_8 : decode cX11_other 8 = .ok (.aload_n 0, 1) := by decide +kernel
theorem dX11_other_9 : decode cX11_other 9 = .ok (.bipush (-2), 2) := by decide +kernel
theorem dX11_other_11 : decode cX11_other 11 = .ok (.invokevirtual 120, 3) := by decide +kernel
theorem dX11_other_14 : decode cX11_other 14 = .ok (.ireturn, 1) := by decide +kernel
theorem dX11_other_15 : decode cX11_other 15 = .ok (.aload_n 0, 1) := by decide +kernel
theorem dX11_other_16 : decode cX11_other 16 = .ok (.getfield 112, 3) := by decide +kernel
theorem dX11_other_19 : decode cX11_other 19 = .ok (.istore_n 2, 1) := by decide +kernel
theorem dX11_other_20 : decode cX11_other 20 = .ok (.aload_n 0, 1) := by decide +kernel
theorem dX11_other_21 : decode cX11_other 21 = .ok (.iload_n 1, 1) := by decide +kernel
theorem dX11_other_22 : decode cX11_other 22 = .ok (.putfield 112, 3) := by decide +kernel
theorem dX11_other_25 : decode cX11_other 25 = .ok (.iload_n 2, 1) := by decide +kernel
theorem dX11_other_26 : decode cX11_other 26 = .ok (.ireturn, 1) := by decide +kernel
theorem dX11_both_0 : decode cX11_both 0 = .ok (.aload_n 0, 1) := by decide +kernel
theorem dX11_both_1 : decode cX11_both 1 = .ok (.aload_n 0, 1) := by decide +kernel
theorem dX11_both_2 : decode cX11_both 2 = .ok (.getfield 25, 3) := by decide +kernel
theorem dX11_both_5 : decode cX11_both 5 = .ok (.invokevirtual 170, 3) := by decide +kernel
theorem dX11_both_8 : decode cX11_both 8 = .ok (.iconst 0, 1) := by decide +kernel
theorem dX11_both_9 : decode cX11_both 9 = .ok (.istore_n 1, 1) := by decide +kernel
theorem dX11_both_10 : decode cX11_both 10 = .ok (.iload_n 1, 1) := by decide +kernel
theorem dX11_both_11 : decode cX11_both 11 = .ok (.aload_n 0, 1) := by decide +kernel
theorem dX11_both_12 : decode cX11_both 12 = .ok (.getfield 93, 3) := by decide +kernel
theorem dX11_both_15 : decode cX11_both 15 = .ok (.if_icmp .ge 21, 3) := by decide +kernel
theorem dX11_both_18 : decode cX11_both 18 = .ok (.aload_n 0, 1) := by decide +kernel
theorem dX11_both_19 : decode cX11_both 19 = .ok (.getfield 61, 3) := by decide +kernel
theorem dX11_both_22 : decode cX11_both 22 = .ok (.iload_n 1, 1) := by decide +kernel
theorem dX11_both_23 : decode cX11_both 23 = .ok (.aload_n 0, 1) := by decide +kernel
theorem dX11_both_24 : decode cX11_both 24 = .ok (.getfield 52, 3) := by decide +kernel
theorem dX11_both_27 : decode cX11_both 27 = .ok (.iload_n 1, 1) := by decide +kernel
theorem dX11_both_28 : decode cX11_both 28 = .ok (.iaload, 1) := by decide +kernel
theorem dX11_both_29 : decode cX11_both 29 = .ok (.iastore, 1) := by decide +kernel
theorem dX11_both_30 : decode cX11_both 30 = .ok (.iinc 1 1, 3) := by decide +kernel
theorem dX11_both_33 : decode cX11_both 33 = .ok (.goto (-23), 3) := by decide +kernel
theorem dX11_both_36 : decode cX11_both 36 = .ok (.aload_n 0, 1) := by decide +kernel
theorem dX11_both_37 : decode cX11_both 37 = .ok (.aload_n 0, 1) := by decide +kernel
theorem dX11_both_38 : decode cX11_both 38 = .ok (.getfield 112, 3) := by decide +kernel
theorem dX11_both_41 : decode cX11_both 41 = .ok (.aload_n 0, 1) := by decide +kernel
theorem dX11_both_42 : decode cX11_both 42 = .ok (.getfield 58, 3) := by decide +kernel
theorem dX11_both_45 : decode cX11_both 45 = .ok (.invokevirtual 157, 3) := by decide +kernel
theorem dX11_both_48 : decode cX11_both 48 = .ok (.aload_n 0, 1) := by decide +kernel
theorem dX11_both_49 : decode cX11_both 49 = .ok (.aload_n 0, 1) := by decide +kernel
theorem dX11_both_50 : decode cX11_both 50 = .ok (.getfield 58, 3) := by decide +kernel
theorem dX11_both_53 : decode cX11_both 53 = .ok (.invokevirtual 170, 3) := by decide +kernel
theorem dX11_both_56 : decode cX11_both 56 = .ok (.return_, 1) := by decide +kernel
theorem dX11_two_0 : decode cX11_two 0 = .ok (.aload_n 0, 1) := by decide +kernel
theorem dX11_two_1 : decode cX11_two 1 = .ok (.iload_n 1, 1) := by decide +kernel
theorem dX11_two_2 : decode cX11_two 2 = .ok (.invokevirtual 124, 3) := by decide +kernel
theorem dX11_two_5 : decode cX11_two 5 = .ok (.ifCond .ne 10, 3) := by decide +kernel
theorem dX11_two_8 : decode cX11_two 8 = .ok (.aload_n 0, 1) := by decide +kernel
theorem dX11_two_9 : decode cX11_two 9 = .ok (.bipush (-2), 2) := by decide +kernel
theorem dX11_two_11 : decode cX11_two 11 = .ok (.invokevirtual 120, 3) := by decide +kernel
theorem dX11_two_14 : decode cX11_two 14 = .ok (.ireturn, 1) := by decide +kernel
theorem dX11_two_15 : decode cX11_two 15 = .ok (.aload_n 0, 1) := by decide +kernel
theorem dX11_two_16 : decode cX11_two 16 = .ok (.invokevirtual 206, 3) := by decide +kernel
theorem dX11_two_19 : decode cX11_two 19 = .ok (.aload_n 0, 1) := by decide +kernel
theorem dX11_two_20 : decode cX11_two 20 = .ok (.getfield 61, 3) := by decide +kernel
theorem dX11_two_23 : decode cX11_two 23 = .ok (.iload_n 1, 1) := by decide +kernel
theorem dX11_two_24 : decode cX11_two 24 = .ok (.iaload, 1) := by decide +kernel
theorem dX11_two_25 : decode cX11_two 25 = .ok (.aload_n 0, 1) := by decide +kernel
theorem dX11_two_26 : decode cX11_two 26 = .ok (.getfield 52, 3) := by decide +kernel
theorem dX11_two_29 : decode cX11_two 29 = .ok (.iload_n 1, 1) := by decide +kernel
theorem dX11_two_30 : decode cX11_two 30 = .ok (.iaload, 1) := by decide +kernel
theorem dX11_two_31 : decode cX11_two 31 = .ok (.iand, 1) := by decide +kernel
theorem dX11_two_32 : decode cX11_two 32 = .ok (.ireturn, 1) := by decide +kernel
theorem dX11_settle_0 : decode cX11_settle 0 = .ok (.iload_n 1, 1) := by decide +kernel
theorem dX11_settle_1 : decode cX11_settle 1 = .ok (.invokestatic 128, 3) := by decide +kernel
theorem dX11_settle_4 : decode cX11_settle 4 = .ok (.ifCond .eq 13, 3) := by decide +kernel
theorem dX11_settle_7 : decode cX11_settle 7 = .ok (.iload_n 2, 1) := by decide +kernel
theorem dX11_settle_8 : decode cX11_settle 8 = .ok (.i2l, 1) := by decide +kernel
theorem dX11_settle_9 : decode cX11_settle 9 = .ok (.lconst 0, 1) := by decide +kernel
theorem dX11_settle_10 : decode cX11_settle 10 = .ok (.lconst 1, 1) := by decide +kernel
theorem dX11_settle_11 : decode cX11_settle 11 = .ok (.invokestatic 97, 3) := by decide +kernel
theorem dX11_settle_14 : decode cX11_settle 14 = .ok (.ifCond .ne 10, 3) := by decide +kernel
theorem dX11_settle_17 : decode cX11_settle 17 = .ok (.aload_n 0, 1) := by decide +kernel
theorem dX11_settle_18 : decode cX11_settle 18 = .ok (.bipush (-10), 2) := by decide +kernel
theorem dX11_settle_20 : decode cX11_settle 20 = .ok (.invokevirtual 120, 3) := by decide +kernel
theorem dX11_settle_23 : decode cX11_settle 23 = .ok (.ireturn, 1) := by decide +kernel
theorem dX11_settle_24 : decode cX11_settle 24 = .ok (.aload_n 0, 1) := by decide +kernel
theorem dX11_settle_25 : decode cX11_settle 25 = .ok (.invokevirtual 206, 3) := by decide +kernel
theorem dX11_settle_28 : decode cX11_settle 28 = .ok (.iconst 0, 1) := by decide +kernel
theorem dX11_settle_29 : decode cX11_settle 29 = .ok (.istore_n 3, 1) := by decide +kernel
theorem dX11_settle_30 : decode cX11_settle 30 = .ok (.iconst (-1), 1) := by decide +kernel
theorem dX11_settle_31 : decode cX11_settle 31 = .ok (.istore 4, 2) := by decide +kernel
theorem dX11_settle_33 : decode cX11_settle 33 = .ok (.iconst 0, 1) := by decide +kernel
theorem dX11_settle_34 : decode cX11_settle 34 = .ok (.istore 5, 2) := by decide +kernel
theorem dX11_settle_36 : decode cX11_settle 36 = .ok (.iload 5, 2) := by decide +kernel
theorem dX11_settle_38 : decode cX11_settle 38 = .ok (.aload_n 0, 1) := by decide +kernel
theorem dX11_settle_39 : decode cX11_settle 39 = .ok (.getfield 93, 3) := by decide +kernel
theorem dX11_settle_42 : decode cX11_settle 42 = .ok (.if_icmp .ge 71, 3) := by decide +kernel
theorem dX11_settle_45 : decode cX11_settle 45 = .ok (.aload_n 0, 1) := by decide +kernel
theorem dX11_settle_46 : decode cX11_settle 46 = .ok (.getfield 61, 3) := by decide +kernel
theorem dX11_settle_49 : decode cX11_settle 49 = .ok (.iload 5, 2) := by decide +kernel
theorem dX11_settle_51 : decode cX11_settle 51 = .ok (.iaload, 1) := by decide +kernel
theorem dX11_settle_52 : decode cX11_settle 52 = .ok (.aload_n 0, 1) := by decide +kernel
theorem dX11_settle_53 : decode cX11_settle 53 = .ok (.getfield 52, 3) := by decide +kernel
theorem dX11_settle_56 : decode cX11_settle 56 = .ok (.iload 5, 2) := by decide +kernel
theorem dX11_settle_58 : decode cX11_settle 58 = .ok (.iaload, 1) := by decide +kernel
theorem dX11_settle_59 : decode cX11_settle 59 = .ok (.iand, 1) := by decide +kernel
theorem dX11_settle_60 : decode cX11_settle 60 = .ok (.iconst 1, 1) := by decide +kernel
theorem dX11_settle_61 : decode cX11_settle 61 = .ok (.iload_n 1, 1) := by decide +kernel
theorem dX11_settle_62 : decode cX11_settle 62 = .ok (.ishl, 1) := by decide +kernel
theorem dX11_settle_63 : decode cX11_settle 63 = .ok (.iand, 1) := by decide +kernel
theorem dX11_settle_64 : decode cX11_settle 64 = .ok (.ifCond .eq 7, 3) := by decide +kernel
theorem dX11_settle_67 : decode cX11_settle 67 = .ok (.iconst 1, 1) := by decide +kernel
theorem dX11_settle_68 : decode cX11_settle 68 = .ok (.goto 4, 3) := by decide +kernel
theorem dX11_settle_71 : decode cX11_settle 71 = .ok (.iconst 0, 1) := by decide +kernel
theorem dX11_settle_72 : decode cX11_settle 72 = .ok (.istore 6, 2) := by decide +kernel
theorem dX11_settle_74 : decode cX11_settle 74 = .ok (.iload 6, 2) := by decide +kernel
theorem dX11_settle_76 : decode cX11_settle 76 = .ok (.ifCond .eq 14, 3) := by decide +kernel
theorem dX11_settle_79 : decode cX11_settle 79 = .ok (.iload 4, 2) := by decide +kernel
theorem dX11_settle_81 : decode cX11_settle 81 = .ok (.iconst (-1), 1) := by decide +kernel
theorem dX11_settle_82 : decode cX11_settle 82 = .ok (.if_icmp .ne 8, 3) := by decide +kernel
theorem dX11_settle_85 : decode cX11_settle 85 = .ok (.iload 5, 2) := by decide +kernel
theorem dX11_settle_87 : decode cX11_settle 87 = .ok (.goto 5, 3) := by decide +kernel
theorem dX11_settle_90 : decode cX11_settle 90 = .ok (.iload 4, 2) := by decide +kernel
theorem dX11_settle_92 : decode cX11_settle 92 = .ok (.istore 4, 2) := by decide +kernel
theorem dX11_settle_94 : decode cX11_settle 94 = .ok (.iload_n 3, 1) := by decide +kernel
theorem dX11_settle_95 : decode cX11_settle 95 = .ok (.iload 6, 2) := by decide +kernel
theorem dX11_settle_97 : decode cX11_settle 97 = .ok (.ifCond .eq 7, 3) := by decide +kernel
theorem dX11_settle_100 : decode cX11_settle 100 = .ok (.iconst 1, 1) := by decide +kernel
theorem dX11_settle_101 : decode cX11_settle 101 = .ok (.goto 4, 3) := by decide +kernel
theorem dX11_settle_104 : decode cX11_settle 104 = .ok (.iconst 0, 1) := by decide +kernel
theorem dX11_settle_105 : decode cX11_settle 105 = .ok (.iadd, 1) := by decide +kernel
theorem dX11_settle_106 : decode cX11_settle 106 = .ok (.istore_n 3, 1) := by decide +kernel
theorem dX11_settle_107 : decode cX11_settle 107 = .ok (.iinc 5 1, 3) := by decide +kernel
theorem dX11_settle_110 : decode cX11_settle 110 = .ok (.goto (-74), 3) := by decide +kernel
theorem dX11_settle_113 : decode cX11_settle 113 = .ok (.iload_n 2, 1) := by decide +kernel
theorem dX11_settle_114 : decode cX11_settle 114 = .ok (.ifCond .ne 7, 3) := by decide +kernel
theorem dX11_settle_117 : decode cX11_settle 117 = .ok (.iload_n 3, 1) := by decide +kernel
theorem dX11_settle_118 : decode cX11_settle 118 = .ok (.goto 5, 3) := by decide +kernel
theorem dX11_settle_121 : decode cX11_settle 121 = .ok (.iload 4, 2) := by decide +kernel
theorem dX11_settle_123 : decode cX11_settle 123 = .ok (.ireturn, 1) := by decide +kernel
theorem dX11_size_0 : decode cX11_size 0 = .ok (.iconst 0, 1) := by decide +kernel
theorem dX11_size_1 : decode cX11_size 1 = .ok (.istore_n 1, 1) := by decide +kernel
theorem dX11_size_2 : decode cX11_size 2 = .ok (.iload_n 0, 1) := by decide +kernel
theorem dX11_size_3 : decode cX11_size 3 = .ok (.istore_n 2, 1) := by decide +kernel
theorem dX11_size_4 : decode cX11_size 4 = .ok (.iload_n 2, 1) := by decide +kernel
theorem dX11_size_5 : decode cX11_size 5 = .ok (.ifCond .eq 15, 3) := by decide +kernel
theorem dX11_size_8 : decode cX11_size 8 = .ok (.iinc 1 1, 3) := by decide +kernel
theorem dX11_size_11 : decode cX11_size 11 = .ok (.iload_n 2, 1) := by decide +kernel
theorem dX11_size_12 : decode cX11_size 12 = .ok (.iload_n 2, 1) := by decide +kernel
theorem dX11_size_13 : decode cX11_size 13 = .ok (.iconst 1, 1) := by decide +kernel
theorem dX11_size_14 : decode cX11_size 14 = .ok (.isub, 1) := by decide +kernel
theorem dX11_size_15 : decode cX11_size 15 = .ok (.iand, 1) := by decide +kernel
theorem dX11_size_16 : decode cX11_size 16 = .ok (.istore_n 2, 1) := by decide +kernel
theorem dX11_size_17 : decode cX11_size 17 = .ok (.goto (-13), 3) := by decide +kernel
theorem dX11_size_20 : decode cX11_size 20 = .ok (.iload_n 1, 1) := by decide +kernel
theorem dX11_size_21 : decode cX11_size 21 = .ok (.ireturn, 1) := by decide +kernel
theorem dX11_named_0 : decode cX11_named 0 = .ok (.iconst 0, 1) := by decide +kernel
theorem dX11_named_1 : decode cX11_named 1 = .ok (.istore_n 3, 1) := by decide +kernel
theorem dX11_named_2 : decode cX11_named 2 = .ok (.iconst 0, 1) := by decide +kernel
theorem dX11_named_3 : decode cX11_named 3 = .ok (.istore 4, 2) := by decide +kernel
theorem dX11_named_5 : decode cX11_named 5 = .ok (.iload 4, 2) := by decide +kernel
theorem dX11_named_7 : decode cX11_named 7 = .ok (.aload_n 0, 1) := by decide +kernel
theorem dX11_named_8 : decode cX11_named 8 = .ok (.getfield 93, 3) := by decide +kernel
theorem dX11_named_11 : decode cX11_named 11 = .ok (.if_icmp .ge 33, 3) := by decide +kernel
theorem dX11_named_14 : decode cX11_named 14 = .ok (.iload_n 3, 1) := by decide +kernel
theorem dX11_named_15 : decode cX11_named 15 = .ok (.iload_n 1, 1) := by decide +kernel
theorem dX11_named_16 : decode cX11_named 16 = .ok (.iload 4, 2) := by decide +kernel
theorem dX11_named_18 : decode cX11_named 18 = .ok (.ishr, 1) := by decide +kernel
theorem dX11_named_19 : decode cX11_named 19 = .ok (.iconst 1, 1) := by decide +kernel
theorem dX11_named_20 : decode cX11_named 20 = .ok (.iand, 1) := by decide +kernel
theorem dX11_named_21 : decode cX11_named 21 = .ok (.iconst 1, 1) := by decide +kernel
theorem dX11_named_22 : decode cX11_named 22 = .ok (.if_icmp .ne 13, 3) := by decide +kernel
theorem dX11_named_25 : decode cX11_named 25 = .ok (.aload_n 0, 1) := by decide +kernel
theorem dX11_named_26 : decode cX11_named 26 = .ok (.getfield 19, 3) := by decide +kernel
theorem dX11_named_29 : decode cX11_named 29 = .ok (.iload 4, 2) := by decide +kernel
theorem dX11_named_31 : decode cX11_named 31 = .ok (.iaload, 1) := by decide +kernel
theorem dX11_named_32 : decode cX11_named 32 = .ok (.goto 4, 3) := by decide +kernel
theorem dX11_named_35 : decode cX11_named 35 = .ok (.iconst 0, 1) := by decide +kernel
theorem dX11_named_36 : decode cX11_named 36 = .ok (.ior, 1) := by decide +kernel
theorem dX11_named_37 : decode cX11_named 37 = .ok (.istore_n 3, 1) := by decide +kernel
theorem dX11_named_38 : decode cX11_named 38 = .ok (.iinc 4 1, 3) := by decide +kernel
theorem dX11_named_41 : decode cX11_named 41 = .ok (.goto (-36), 3) := by decide +kernel
theorem dX11_named_44 : decode cX11_named 44 = .ok (.aload_n 0, 1) := by decide +kernel
theorem dX11_named_45 : decode cX11_named 45 = .ok (.getfield 19, 3) := by decide +kernel
theorem dX11_named_48 : decode cX11_named 48 = .ok (.iload_n 2, 1) := by decide +kernel
theorem dX11_named_49 : decode cX11_named 49 = .ok (.iaload, 1) := by decide +kernel
theorem dX11_named_50 : decode cX11_named 50 = .ok (.iload_n 3, 1) := by decide +kernel
theorem dX11_named_51 : decode cX11_named 51 = .ok (.iconst (-1), 1) := by decide +kernel
theorem dX11_named_52 : decode cX11_named 52 = .ok (.ixor, 1) := by decide +kernel
theorem dX11_named_53 : decode cX11_named 53 = .ok (.iand, 1) := by decide +kernel
theorem dX11_named_54 : decode cX11_named 54 = .ok (.invokestatic 209, 3) := by decide +kernel
theorem dX11_named_57 : decode cX11_named 57 = .ok (.aload_n 0, 1) := by decide +kernel
theorem dX11_named_58 : decode cX11_named 58 = .ok (.getfield 64, 3) := by decide +kernel
theorem dX11_named_61 : decode cX11_named 61 = .ok (.iload_n 1, 1) := by decide +kernel
theorem dX11_named_62 : decode cX11_named 62 = .ok (.iconst 1, 1) := by decide +kernel
theorem dX11_named_63 : decode cX11_named 63 = .ok (.iload_n 2, 1) := by decide +kernel
theorem dX11_named_64 : decode cX11_named 64 = .ok (.ishl, 1) := by decide +kernel
theorem dX11_named_65 : decode cX11_named 65 = .ok (.ior, 1) := by decide +kernel
theorem dX11_named_66 : decode cX11_named 66 = .ok (.iaload, 1) := by decide +kernel
theorem dX11_named_67 : decode cX11_named 67 = .ok (.isub, 1) := by decide +kernel
theorem dX11_named_68 : decode cX11_named 68 = .ok (.ireturn, 1) := by decide +kernel
theorem dX11_game_0 : decode cX11_game 0 = .ok (.iload_n 1, 1) := by decide +kernel
theorem dX11_game_1 : decode cX11_game 1 = .ok (.i2l, 1) := by decide +kernel
theorem dX11_game_2 : decode cX11_game 2 = .ok (.lconst 0, 1) := by decide +kernel
theorem dX11_game_3 : decode cX11_game 3 = .ok (.lconst 1, 1) := by decide +kernel
theorem dX11_game_4 : decode cX11_game 4 = .ok (.invokestatic 97, 3) := by decide +kernel
theorem dX11_game_7 : decode cX11_game 7 = .ok (.ifCond .ne 10, 3) := by decide +kernel
theorem dX11_game_10 : decode cX11_game 10 = .ok (.aload_n 0, 1) := by decide +kernel
theorem dX11_game_11 : decode cX11_game 11 = .ok (.bipush (-100), 2) := by decide +kernel
theorem dX11_game_13 : decode cX11_game 13 = .ok (.invokevirtual 120, 3) := by decide +kernel
theorem dX11_game_16 : decode cX11_game 16 = .ok (.ireturn, 1) := by decide +kernel
theorem dX11_game_17 : decode cX11_game 17 = .ok (.aload_n 0, 1) := by decide +kernel
theorem dX11_game_18 : decode cX11_game 18 = .ok (.getfield 64, 3) := by decide +kernel
theorem dX11_game_21 : decode cX11_game 21 = .ok (.iconst 1, 1) := by decide +kernel
theorem dX11_game_22 : decode cX11_game 22 = .ok (.aload_n 0, 1) := by decide +kernel
theorem dX11_game_23 : decode cX11_game 23 = .ok (.getfield 93, 3) := by decide +kernel
theorem dX11_game_26 : decode cX11_game 26 = .ok (.ishl, 1) := by decide +kernel
theorem dX11_game_27 : decode cX11_game 27 = .ok (.iconst 1, 1) := by decide +kernel
theorem dX11_game_28 : decode cX11_game 28 = .ok (.isub, 1) := by decide +kernel
theorem dX11_game_29 : decode cX11_game 29 = .ok (.iconst 0, 1) := by decide +kernel
theorem dX11_game_30 : decode cX11_game 30 = .ok (.iastore, 1) := by decide +kernel
theorem dX11_game_31 : decode cX11_game 31 = .ok (.iconst 0, 1) := by decide +kernel
theorem dX11_game_32 : decode cX11_game 32 = .ok (.istore_n 2, 1) := by decide +kernel
theorem dX11_game_33 : decode cX11_game 33 = .ok (.iconst 1, 1) := by decide +kernel
theorem dX11_game_34 : decode cX11_game 34 = .ok (.aload_n 0, 1) := by decide +kernel
theorem dX11_game_35 : decode cX11_game 35 = .ok (.getfield 93, 3) := by decide +kernel
theorem dX11_game_38 : decode cX11_game 38 = .ok (.ishl, 1) := by decide +kernel
theorem dX11_game_39 : decode cX11_game 39 = .ok (.iconst 2, 1) := by decide +kernel
theorem dX11_game_40 : decode cX11_game 40 = .ok (.isub, 1) := by decide +kernel
theorem dX11_game_41 : decode cX11_game 41 = .ok (.istore_n 3, 1) := by decide +kernel
theorem dX11_game_42 : decode cX11_game 42 = .ok (.iload_n 3, 1) := by decide +kernel
theorem dX11_game_43 : decode cX11_game 43 = .ok (.ifCond .lt 93, 3) := by decide +kernel
theorem dX11_game_46 : decode cX11_game 46 = .ok (.bipush (-99), 2) := by decide +kernel
theorem dX11_game_48 : decode cX11_game 48 = .ok (.istore 4, 2) := by decide +kernel
theorem dX11_game_50 : decode cX11_game 50 = .ok (.iconst 0, 1) := by decide +kernel
theorem dX11_game_51 : decode cX11_game 51 = .ok (.istore 5, 2) := by decide +kernel
theorem dX11_game_53 : decode cX11_game 53 = .ok (.iload 5, 2) := by decide +kernel
theorem dX11_game_55 : decode cX11_game 55 = .ok (.aload_n 0, 1) := by decide +kernel
theorem dX11_game_56 : decode cX11_game 56 = .ok (.getfield 93, 3) := by decide +kernel
theorem dX11_game_59 : decode cX11_game 59 = .ok (.if_icmp .ge 63, 3) := by decide +kernel
theorem dX11_game_62 : decode cX11_game 62 = .ok (.iload_n 3, 1) := by decide +kernel
theorem dX11_game_63 : decode cX11_game 63 = .ok (.iload 5, 2) := by decide +kernel
theorem dX11_game_65 : decode cX11_game 65 = .ok (.ishr, 1) := by decide +kernel
theorem dX11_game_66 : decode cX11_game 66 = .ok (.iconst 1, 1) := by decide +kernel
theorem dX11_game_67 : decode cX11_game 67 = .ok (.iand, 1) := by decide +kernel
theorem dX11_game_68 : decode cX11_game 68 = .ok (.iconst 1, 1) := by decide +kernel
theorem dX11_game_69 : decode cX11_game 69 = .ok (.if_icmp .ne 8, 3) := by decide +kernel
theorem dX11_game_72 : decode cX11_game 72 = .ok (.bipush (-99), 2) := by decide +kernel
theorem dX11_game_74 : decode cX11_game 74 = .ok (.goto 10, 3) := by decide +kernel
theorem dX11_game_77 : decode cX11_game 77 = .ok (.aload_n 0, 1) := by decide +kernel
theorem dX11_game_78 : decode cX11_game 78 = .ok (.iload_n 3, 1) := by decide +kernel
theorem dX11_game_79 : decode cX11_game 79 = .ok (.iload 5, 2) := by decide +kernel
theorem dX11_game_81 : decode cX11_game 81 = .ok (.invokevirtual 212, 3) := by decide +kernel
theorem dX11_game_84 : decode cX11_game 84 = .ok (.istore 6, 2) := by decide +kernel
theorem dX11_game_86 : decode cX11_game 86 = .ok (.iload 6, 2) := by decide +kernel
theorem dX11_game_88 : decode cX11_game 88 = .ok (.iload 4, 2) := by decide +kernel
theorem dX11_game_90 : decode cX11_game 90 = .ok (.if_icmp .le 8, 3) := by decide +kernel
theorem dX11_game_93 : decode cX11_game 93 = .ok (.iload 5, 2) := by decide +kernel
theorem dX11_game_95 : decode cX11_game 95 = .ok (.goto 4, 3) := by decide +kernel
theorem dX11_game_98 : decode cX11_game 98 = .ok (.iload_n 2, 1) := by decide +kernel
theorem dX11_game_99 : decode cX11_game 99 = .ok (.istore_n 2, 1) := by decide +kernel
theorem dX11_game_100 : decode cX11_game 100 = .ok (.iload 6, 2) := by decide +kernel
theorem dX11_game_102 : decode cX11_game 102 = .ok (.iload 4, 2) := by decide +kernel
theorem dX11_game_104 : decode cX11_game 104 = .ok (.if_icmp .le 8, 3) := by decide +kernel
theorem dX11_game_107 : decode cX11_game 107 = .ok (.iload 6, 2) := by decide +kernel
theorem dX11_game_109 : decode cX11_game 109 = .ok (.goto 5, 3) := by decide +kernel
theorem dX11_game_112 : decode cX11_game 112 = .ok (.iload 4, 2) := by decide +kernel
theorem dX11_game_114 : decode cX11_game 114 = .ok (.istore 4, 2) := by decide +kernel
theorem dX11_game_116 : decode cX11_game 116 = .ok (.iinc 5 1, 3) := by decide +kernel
theorem dX11_game_119 : decode cX11_game 119 = .ok (.goto (-66), 3) := by decide +kernel
theorem dX11_game_122 : decode cX11_game 122 = .ok (.aload_n 0, 1) := by decide +kernel
theorem dX11_game_123 : decode cX11_game 123 = .ok (.getfield 64, 3) := by decide +kernel
theorem dX11_game_126 : decode cX11_game 126 = .ok (.iload_n 3, 1) := by decide +kernel
theorem dX11_game_127 : decode cX11_game 127 = .ok (.iload 4, 2) := by decide +kernel
theorem dX11_game_129 : decode cX11_game 129 = .ok (.iastore, 1) := by decide +kernel
theorem dX11_game_130 : decode cX11_game 130 = .ok (.iinc 3 (-1), 3) := by decide +kernel
theorem dX11_game_133 : decode cX11_game 133 = .ok (.goto (-91), 3) := by decide +kernel
theorem dX11_game_136 : decode cX11_game 136 = .ok (.iload_n 1, 1) := by decide +kernel
theorem dX11_game_137 : decode cX11_game 137 = .ok (.ifCond .ne 12, 3) := by decide +kernel
theorem dX11_game_140 : decode cX11_game 140 = .ok (.aload_n 0, 1) := by decide +kernel
theorem dX11_game_141 : decode cX11_game 141 = .ok (.getfield 64, 3) := by decide +kernel
theorem dX11_game_144 : decode cX11_game 144 = .ok (.iconst 0, 1) := by decide +kernel
theorem dX11_game_145 : decode cX11_game 145 = .ok (.iaload, 1) := by decide +kernel
theorem dX11_game_146 : decode cX11_game 146 = .ok (.goto 4, 3) := by decide +kernel
theorem dX11_game_149 : decode cX11_game 149 = .ok (.iload_n 2, 1) := by decide +kernel
theorem dX11_game_150 : decode cX11_game 150 = .ok (.ireturn, 1) := by decide +kernel
theorem dX11_live_0 : decode cX11_live 0 = .ok (.aload_n 0, 1) := by decide +kernel
theorem dX11_live_1 : decode cX11_live 1 = .ok (.getfield 115, 3) := by decide +kernel
theorem dX11_live_4 : decode cX11_live 4 = .ok (.aload_n 0, 1) := by decide +kernel
theorem dX11_live_5 : decode cX11_live 5 = .ok (.getfield 93, 3) := by decide +kernel
theorem dX11_live_8 : decode cX11_live 8 = .ok (.if_icmp .ne 8, 3) := by decide +kernel
theorem dX11_live_11 : decode cX11_live 11 = .ok (.aload_n 0, 1) := by decide +kernel
theorem dX11_live_12 : decode cX11_live 12 = .ok (.invokevirtual 131, 3) := by decide +kernel
theorem dX11_live_15 : decode cX11_live 15 = .ok (.ireturn, 1) := by decide +kernel
theorem dX11_live_16 : decode cX11_live 16 = .ok (.aload_n 0, 1) := by decide +kernel
theorem dX11_live_17 : decode cX11_live 17 = .ok (.aload_n 0, 1) := by decide +kernel
theorem dX11_live_18 : decode cX11_live 18 = .ok (.getfield 25, 3) := by decide +kernel
theorem dX11_live_21 : decode cX11_live 21 = .ok (.invokevirtual 170, 3) := by decide +kernel
theorem dX11_live_24 : decode cX11_live 24 = .ok (.aload_n 0, 1) := by decide +kernel
theorem dX11_live_25 : decode cX11_live 25 = .ok (.getfield 25, 3) := by decide +kernel
theorem dX11_live_28 : decode cX11_live 28 = .ok (.aload_n 0, 1) := by decide +kernel
theorem dX11_live_29 : decode cX11_live 29 = .ok (.getfield 115, 3) := by decide +kernel
theorem dX11_live_32 : decode cX11_live 32 = .ok (.iaload, 1) := by decide +kernel
theorem dX11_live_33 : decode cX11_live 33 = .ok (.istore_n 1, 1) := by decide +kernel
theorem dX11_live_34 : decode cX11_live 34 = .ok (.aload_n 0, 1) := by decide +kernel
theorem dX11_live_35 : decode cX11_live 35 = .ok (.dup, 1) := by decide +kernel
theorem dX11_live_36 : decode cX11_live 36 = .ok (.getfield 115, 3) := by decide +kernel
theorem dX11_live_39 : decode cX11_live 39 = .ok (.iconst 1, 1) := by decide +kernel
theorem dX11_live_40 : decode cX11_live 40 = .ok (.iadd, 1) := by decide +kernel
theorem dX11_live_41 : decode cX11_live 41 = .ok (.putfield 115, 3) := by decide +kernel
theorem dX11_live_44 : decode cX11_live 44 = .ok (.aload_n 0, 1) := by decide +kernel
theorem dX11_live_45 : decode cX11_live 45 = .ok (.iload_n 1, 1) := by decide +kernel
theorem dX11_live_46 : decode cX11_live 46 = .ok (.invokevirtual 167, 3) := by decide +kernel
theorem dX11_live_49 : decode cX11_live 49 = .ok (.aload_n 0, 1) := by decide +kernel
theorem dX11_live_50 : decode cX11_live 50 = .ok (.getfield 52, 3) := by decide +kernel
theorem dX11_live_53 : decode cX11_live 53 = .ok (.iload_n 1, 1) := by decide +kernel
theorem dX11_live_54 : decode cX11_live 54 = .ok (.iaload, 1) := by decide +kernel
theorem dX11_live_55 : decode cX11_live 55 = .ok (.iconst (-1), 1) := by decide +kernel
theorem dX11_live_56 : decode cX11_live 56 = .ok (.ixor, 1) := by decide +kernel
theorem dX11_live_57 : decode cX11_live 57 = .ok (.iand, 1) := by decide +kernel
theorem dX11_live_58 : decode cX11_live 58 = .ok (.ifCond .ne 7, 3) := by decide +kernel
theorem dX11_live_61 : decode cX11_live 61 = .ok (.iconst 1, 1) := by decide +kernel
theorem dX11_live_62 : decode cX11_live 62 = .ok (.goto 4, 3) := by decide +kernel
theorem dX11_live_65 : decode cX11_live 65 = .ok (.iconst 0, 1) := by decide +kernel
theorem dX11_live_66 : decode cX11_live 66 = .ok (.ireturn, 1) := by decide +kernel
theorem dX11_undo_0 : decode cX11_undo 0 = .ok (.aload_n 0, 1) := by decide +kernel
theorem dX11_undo_1 : decode cX11_undo 1 = .ok (.getfield 115, 3) := by decide +kernel
theorem dX11_undo_4 : decode cX11_undo 4 = .ok (.ifCond .ne 8, 3) := by decide +kernel
theorem dX11_undo_7 : decode cX11_undo 7 = .ok (.aload_n 0, 1) := by decide +kernel
theorem dX11_undo_8 : decode cX11_undo 8 = .ok (.invokevirtual 131, 3) := by decide +kernel
theorem dX11_undo_11 : decode cX11_undo 11 = .ok (.ireturn, 1) := by decide +kernel
theorem dX11_undo_12 : decode cX11_undo 12 = .ok (.aload_n 0, 1) := by decide +kernel
theorem dX11_undo_13 : decode cX11_undo 13 = .ok (.dup, 1) := by decide +kernel
theorem dX11_undo_14 : decode cX11_undo 14 = .ok (.getfield 115, 3) := by decide +kernel
theorem dX11_undo_17 : decode cX11_undo 17 = .ok (.iconst 1, 1) := by decide +kernel
theorem dX11_undo_18 : decode cX11_undo 18 = .ok (.isub, 1) := by decide +kernel
theorem dX11_undo_19 : decode cX11_undo 19 = .ok (.putfield 115, 3) := by decide +kernel
theorem dX11_undo_22 : decode cX11_undo 22 = .ok (.aload_n 0, 1) := by decide +kernel
theorem dX11_undo_23 : decode cX11_undo 23 = .ok (.getfield 115, 3) := by decide +kernel
theorem dX11_undo_26 : decode cX11_undo 26 = .ok (.ireturn, 1) := by decide +kernel
theorem dX11_sofar_0 : decode cX11_sofar 0 = .ok (.iload_n 1, 1) := by decide +kernel
theorem dX11_sofar_1 : decode cX11_sofar 1 = .ok (.i2l, 1) := by decide +kernel
theorem dX11_sofar_2 : decode cX11_sofar 2 = .ok (.lconst 0, 1) := by decide +kernel
theorem dX11_sofar_3 : decode cX11_sofar 3 = .ok (.ldc2_w 193, 3) := by decide +kernel
theorem dX11_sofar_6 : decode cX11_sofar 6 = .ok (.invokestatic 97, 3) := by decide +kernel
theorem dX11_sofar_9 : decode cX11_sofar 9 = .ok (.ifCond .ne 10, 3) := by decide +kernel
theorem dX11_sofar_12 : decode cX11_sofar 12 = .ok (.aload_n 0, 1) := by decide +kernel
theorem dX11_sofar_13 : decode cX11_sofar 13 = .ok (.bipush (-2), 2) := by decide +kernel
theorem dX11_sofar_15 : decode cX11_sofar 15 = .ok (.invokevirtual 120, 3) := by decide +kernel
theorem dX11_sofar_18 : decode cX11_sofar 18 = .ok (.ireturn, 1) := by decide +kernel
theorem dX11_sofar_19 : decode cX11_sofar 19 = .ok (.aload_n 0, 1) := by decide +kernel
theorem dX11_sofar_20 : decode cX11_sofar 20 = .ok (.aload_n 0, 1) := by decide +kernel
theorem dX11_sofar_21 : decode cX11_sofar 21 = .ok (.getfield 25, 3) := by decide +kernel
theorem dX11_sofar_24 : decode cX11_sofar 24 = .ok (.invokevirtual 170, 3) := by decide +kernel
theorem dX11_sofar_27 : decode cX11_sofar 27 = .ok (.iconst 0, 1) := by decide +kernel
theorem dX11_sofar_28 : decode cX11_sofar 28 = .ok (.istore_n 2, 1) := by decide +kernel
theorem dX11_sofar_29 : decode cX11_sofar 29 = .ok (.iconst 0, 1) := by decide +kernel
theorem dX11_sofar_30 : decode cX11_sofar 30 = .ok (.istore_n 3, 1) := by decide +kernel
theorem dX11_sofar_31 : decode cX11_sofar 31 = .ok (.iconst 0, 1) := by decide +kernel
theorem dX11_sofar_32 : decode cX11_sofar 32 = .ok (.istore 4, 2) := by decide +kernel
theorem dX11_sofar_34 : decode cX11_sofar 34 = .ok (.iload 4, 2) := by decide +kernel
theorem dX11_sofar_36 : decode cX11_sofar 36 = .ok (.aload_n 0, 1) := by decide +kernel
theorem dX11_sofar_37 : decode cX11_sofar 37 = .ok (.getfield 115, 3) := by decide +kernel
theorem dX11_sofar_40 : decode cX11_sofar 40 = .ok (.if_icmp .ge 54, 3) := by decide +kernel
theorem dX11_sofar_43 : decode cX11_sofar 43 = .ok (.aload_n 0, 1) := by decide +kernel
theorem dX11_sofar_44 : decode cX11_sofar 44 = .ok (.getfield 25, 3) := by decide +kernel
theorem dX11_sofar_47 : decode cX11_sofar 47 = .ok (.iload 4, 2) := by decide +kernel
theorem dX11_sofar_49 : decode cX11_sofar 49 = .ok (.iaload, 1) := by decide +kernel
theorem dX11_sofar_50 : decode cX11_sofar 50 = .ok (.istore 5, 2) := by decide +kernel
theorem dX11_sofar_52 : decode cX11_sofar 52 = .ok (.iload_n 2, 1) := by decide +kernel
theorem dX11_sofar_53 : decode cX11_sofar 53 = .ok (.aload_n 0, 1) := by decide +kernel
theorem dX11_sofar_54 : decode cX11_sofar 54 = .ok (.iload 5, 2) := by decide +kernel
theorem dX11_sofar_56 : decode cX11_sofar 56 = .ok (.invokevirtual 167, 3) := by decide +kernel
theorem dX11_sofar_59 : decode cX11_sofar 59 = .ok (.aload_n 0, 1) := by decide +kernel
theorem dX11_sofar_60 : decode cX11_sofar 60 = .ok (.getfield 52, 3) := by decide +kernel
theorem dX11_sofar_63 : decode cX11_sofar 63 = .ok (.iload 5, 2) := by decide +kernel
theorem dX11_sofar_65 : decode cX11_sofar 65 = .ok (.iaload, 1) := by decide +kernel
theorem dX11_sofar_66 : decode cX11_sofar 66 = .ok (.iconst (-1), 1) := by decide +kernel
theorem dX11_sofar_67 : decode cX11_sofar 67 = .ok (.ixor, 1) := by decide +kernel
theorem dX11_sofar_68 : decode cX11_sofar 68 = .ok (.iand, 1) := by decide +kernel
theorem dX11_sofar_69 : decode cX11_sofar 69 = .ok (.ifCond .ne 7, 3) := by decide +kernel
theorem dX11_sofar_72 : decode cX11_sofar 72 = .ok (.iconst 1, 1) := by decide +kernel
theorem dX11_sofar_73 : decode cX11_sofar 73 = .ok (.goto 4, 3) := by decide +kernel
theorem dX11_sofar_76 : decode cX11_sofar 76 = .ok (.iconst 0, 1) := by decide +kernel
theorem dX11_sofar_77 : decode cX11_sofar 77 = .ok (.iadd, 1) := by decide +kernel
theorem dX11_sofar_78 : decode cX11_sofar 78 = .ok (.istore_n 2, 1) := by decide +kernel
theorem dX11_sofar_79 : decode cX11_sofar 79 = .ok (.iload_n 3, 1) := by decide +kernel
theorem dX11_sofar_80 : decode cX11_sofar 80 = .ok (.aload_n 0, 1) := by decide +kernel
theorem dX11_sofar_81 : decode cX11_sofar 81 = .ok (.iload 5, 2) := by decide +kernel
theorem dX11_sofar_83 : decode cX11_sofar 83 = .ok (.invokevirtual 161, 3) := by decide +kernel
theorem dX11_sofar_86 : decode cX11_sofar 86 = .ok (.ior, 1) := by decide +kernel
theorem dX11_sofar_87 : decode cX11_sofar 87 = .ok (.istore_n 3, 1) := by decide +kernel
theorem dX11_sofar_88 : decode cX11_sofar 88 = .ok (.iinc 4 1, 3) := by decide +kernel
theorem dX11_sofar_91 : decode cX11_sofar 91 = .ok (.goto (-57), 3) := by decide +kernel
theorem dX11_sofar_94 : decode cX11_sofar 94 = .ok (.iload_n 1, 1) := by decide +kernel
theorem dX11_sofar_95 : decode cX11_sofar 95 = .ok (.ifCond .ne 10, 3) := by decide +kernel
theorem dX11_sofar_98 : decode cX11_sofar 98 = .ok (.aload_n 0, 1) := by decide +kernel
theorem dX11_sofar_99 : decode cX11_sofar 99 = .ok (.getfield 115, 3) := by decide +kernel
theorem dX11_sofar_102 : decode cX11_sofar 102 = .ok (.goto 13, 3) := by decide +kernel
theorem dX11_sofar_105 : decode cX11_sofar 105 = .ok (.iload_n 1, 1) := by decide +kernel
theorem dX11_sofar_106 : decode cX11_sofar 106 = .ok (.iconst 1, 1) := by decide +kernel
theorem dX11_sofar_107 : decode cX11_sofar 107 = .ok (.if_icmp .ne 7, 3) := by decide +kernel
theorem dX11_sofar_110 : decode cX11_sofar 110 = .ok (.iload_n 2, 1) := by decide +kernel
theorem dX11_sofar_111 : decode cX11_sofar 111 = .ok (.goto 4, 3) := by decide +kernel
theorem dX11_sofar_114 : decode cX11_sofar 114 = .ok (.iload_n 3, 1) := by decide +kernel
theorem dX11_sofar_115 : decode cX11_sofar 115 = .ok (.ireturn, 1) := by decide +kernel
theorem dX11_type_0 : decode cX11_type 0 = .ok (.iload_n 1, 1) := by decide +kernel
theorem dX11_type_1 : decode cX11_type 1 = .ok (.i2l, 1) := by decide +kernel
theorem dX11_type_2 : decode cX11_type 2 = .ok (.lconst 0, 1) := by decide +kernel
theorem dX11_type_3 : decode cX11_type 3 = .ok (.ldc2_w 216, 3) := by decide +kernel
theorem dX11_type_6 : decode cX11_type 6 = .ok (.invokestatic 97, 3) := by decide +kernel
theorem dX11_type_9 : decode cX11_type 9 = .ok (.ifCond .ne 10, 3) := by decide +kernel
theorem dX11_type_12 : decode cX11_type 12 = .ok (.aload_n 0, 1) := by decide +kernel
theorem dX11_type_13 : decode cX11_type 13 = .ok (.bipush (-2), 2) := by decide +kernel
theorem dX11_type_15 : decode cX11_type 15 = .ok (.invokevirtual 120, 3) := by decide +kernel
theorem dX11_type_18 : decode cX11_type 18 = .ok (.ireturn, 1) := by decide +kernel
theorem dX11_type_19 : decode cX11_type 19 = .ok (.aload_n 0, 1) := by decide +kernel
theorem dX11_type_20 : decode cX11_type 20 = .ok (.getfield 218, 3) := by decide +kernel
theorem dX11_type_23 : decode cX11_type 23 = .ok (.sipush 150, 3) := by decide +kernel
theorem dX11_type_26 : decode cX11_type 26 = .ok (.if_icmp .ne 8, 3) := by decide +kernel
theorem dX11_type_29 : decode cX11_type 29 = .ok (.aload_n 0, 1) := by decide +kernel
theorem dX11_type_30 : decode cX11_type 30 = .ok (.invokevirtual 139, 3) := by decide +kernel
theorem dX11_type_33 : decode cX11_type 33 = .ok (.ireturn, 1) := by decide +kernel
theorem dX11_type_34 : decode cX11_type 34 = .ok (.aload_n 0, 1) := by decide +kernel
theorem dX11_type_35 : decode cX11_type 35 = .ok (.getfield 67, 3) := by decide +kernel
theorem dX11_type_38 : decode cX11_type 38 = .ok (.aload_n 0, 1) := by decide +kernel
theorem dX11_type_39 : decode cX11_type 39 = .ok (.getfield 218, 3) := by decide +kernel
theorem dX11_type_42 : decode cX11_type 42 = .ok (.iload_n 1, 1) := by decide +kernel
theorem dX11_type_43 : decode cX11_type 43 = .ok (.iastore, 1) := by decide +kernel
theorem dX11_type_44 : decode cX11_type 44 = .ok (.aload_n 0, 1) := by decide +kernel
theorem dX11_type_45 : decode cX11_type 45 = .ok (.dup, 1) := by decide +kernel
theorem dX11_type_46 : decode cX11_type 46 = .ok (.getfield 218, 3) := by decide +kernel
theorem dX11_type_49 : decode cX11_type 49 = .ok (.iconst 1, 1) := by decide +kernel
theorem dX11_type_50 : decode cX11_type 50 = .ok (.iadd, 1) := by decide +kernel
theorem dX11_type_51 : decode cX11_type 51 = .ok (.putfield 218, 3) := by decide +kernel
theorem dX11_type_54 : decode cX11_type 54 = .ok (.aload_n 0, 1) := by decide +kernel
theorem dX11_type_55 : decode cX11_type 55 = .ok (.getfield 218, 3) := by decide +kernel
theorem dX11_type_58 : decode cX11_type 58 = .ok (.ireturn, 1) := by decide +kernel
theorem dX11_clear_0 : decode cX11_clear 0 = .ok (.aload_n 0, 1) := by decide +kernel
theorem dX11_clear_1 : decode cX11_clear 1 = .ok (.getfield 218, 3) := by decide +kernel
theorem dX11_clear_4 : decode cX11_clear 4 = .ok (.istore_n 1, 1) := by decide +kernel
theorem dX11_clear_5 : decode cX11_clear 5 = .ok (.aload_n 0, 1) := by decide +kernel
theorem dX11_clear_6 : decode cX11_clear 6 = .ok (.iconst 0, 1) := by decide +kernel
theorem dX11_clear_7 : decode cX11_clear 7 = .ok (.putfield 218, 3) := by decide +kernel
theorem dX11_clear_10 : decode cX11_clear 10 = .ok (.iload_n 1, 1) := by decide +kernel
theorem dX11_clear_11 : decode cX11_clear 11 = .ok (.ireturn, 1) := by decide +kernel
theorem dX11_skips_0 : decode cX11_skips 0 = .ok (.aload_n 0, 1) := by decide +kernel
theorem dX11_skips_1 : decode cX11_skips 1 = .ok (.getfield 221, 3) := by decide +kernel
theorem dX11_skips_4 : decode cX11_skips 4 = .ok (.aload_n 0, 1) := by decide +kernel
theorem dX11_skips_5 : decode cX11_skips 5 = .ok (.getfield 218, 3) := by decide +kernel
theorem dX11_skips_8 : decode cX11_skips 8 = .ok (.if_icmp .ge 30, 3) := by decide +kernel
theorem dX11_skips_11 : decode cX11_skips 11 = .ok (.aload_n 0, 1) := by decide +kernel
theorem dX11_skips_12 : decode cX11_skips 12 = .ok (.getfield 67, 3) := by decide +kernel
theorem dX11_skips_15 : decode cX11_skips 15 = .ok (.aload_n 0, 1) := by decide +kernel
theorem dX11_skips_16 : decode cX11_skips 16 = .ok (.getfield 221, 3) := by decide +kernel
theorem dX11_skips_19 : decode cX11_skips 19 = .ok (.iaload, 1) := by decide +kernel
theorem dX11_skips_20 : decode cX11_skips 20 = .ok (.bipush 32, 2) := by decide +kernel
theorem dX11_skips_22 : decode cX11_skips 22 = .ok (.if_icmp .ne 16, 3) := by decide +kernel
theorem dX11_skips_25 : decode cX11_skips 25 = .ok (.aload_n 0, 1) := by decide +kernel
theorem dX11_skips_26 : decode cX11_skips 26 = .ok (.dup, 1) := by decide +kernel
theorem dX11_skips_27 : decode cX11_skips 27 = .ok (.getfield 221, 3) := by decide +kernel
theorem dX11_skips_30 : decode cX11_skips 30 = .ok (.iconst 1, 1) := by decide +kernel
theorem dX11_skips_31 : decode cX11_skips 31 = .ok (.iadd, 1) := by decide +kernel
theorem dX11_skips_32 : decode cX11_skips 32 = .ok (.putfield 221, 3) := by decide +kernel
theorem dX11_skips_35 : decode cX11_skips 35 = .ok (.goto (-35), 3) := by decide +kernel
theorem dX11_skips_38 : decode cX11_skips 38 = .ok (.aload_n 0, 1) := by decide +kernel
theorem dX11_skips_39 : decode cX11_skips 39 = .ok (.aload_n 0, 1) := by decide +kernel
theorem dX11_skips_40 : decode cX11_skips 40 = .ok (.getfield 221, 3) := by decide +kernel
theorem dX11_skips_43 : decode cX11_skips 43 = .ok (.putfield 224, 3) := by decide +kernel
theorem dX11_skips_46 : decode cX11_skips 46 = .ok (.return_, 1) := by decide +kernel
theorem dX11_word_0 : decode cX11_word 0 = .ok (.aload_n 0, 1) := by decide +kernel
theorem dX11_word_1 : decode cX11_word 1 = .ok (.invokevirtual 227, 3) := by decide +kernel
theorem dX11_word_4 : decode cX11_word 4 = .ok (.lconst 0, 1) := by decide +kernel
theorem dX11_word_5 : decode cX11_word 5 = .ok (.lstore_n 1, 1) := by decide +kernel
theorem dX11_word_6 : decode cX11_word 6 = .ok (.aload_n 0, 1) := by decide +kernel
theorem dX11_word_7 : decode cX11_word 7 = .ok (.getfield 221, 3) := by decide +kernel
theorem dX11_word_10 : decode cX11_word 10 = .ok (.aload_n 0, 1) := by decide +kernel
theorem dX11_word_11 : decode cX11_word 11 = .ok (.getfield 218, 3) := by decide +kernel
theorem dX11_word_14 : decode cX11_word 14 = .ok (.if_icmp .ge 75, 3) := by decide +kernel
theorem dX11_word_17 : decode cX11_word 17 = .ok (.aload_n 0, 1) := by decide +kernel
theorem dX11_word_18 : decode cX11_word 18 = .ok (.getfield 67, 3) := by decide +kernel
theorem dX11_word_21 : decode cX11_word 21 = .ok (.aload_n 0, 1) := by decide +kernel
theorem dX11_word_22 : decode cX11_word 22 = .ok (.getfield 221, 3) := by decide +kernel
theorem dX11_word_25 : decode cX11_word 25 = .ok (.iaload, 1) := by decide +kernel
theorem dX11_word_26 : decode cX11_word 26 = .ok (.i2l, 1) := by decide +kernel
theorem dX11_word_27 : decode cX11_word 27 = .ok (.ldc2_w 230, 3) := by decide +kernel
theorem dX11_word_30 : decode cX11_word 30 = .ok (.ldc2_w 232, 3) := by decide +kernel
theorem dX11_word_33 : decode cX11_word 33 = .ok (.invokestatic 97, 3) := by decide +kernel
theorem dX11_word_36 : decode cX11_word 36 = .ok (.ifCond .eq 53, 3) := by decide +kernel
theorem dX11_word_39 : decode cX11_word 39 = .ok (.aload_n 0, 1) := by decide +kernel
theorem dX11_word_40 : decode cX11_word 40 = .ok (.getfield 221, 3) := by decide +kernel
theorem dX11_word_43 : decode cX11_word 43 = .ok (.aload_n 0, 1) := by decide +kernel
theorem dX11_word_44 : decode cX11_word 44 = .ok (.getfield 224, 3) := by decide +kernel
theorem dX11_word_47 : decode cX11_word 47 = .ok (.isub, 1) := by decide +kernel
theorem dX11_word_48 : decode cX11_word 48 = .ok (.bipush 7, 2) := by decide +kernel
theorem dX11_word_50 : decode cX11_word 50 = .ok (.if_icmp .le 9, 3) := by decide +kernel
theorem dX11_word_53 : decode cX11_word 53 = .ok (.ldc2_w 204, 3) := by decide +kernel
theorem dX11_word_56 : decode cX11_word 56 = .ok (.goto 19, 3) := by decide +kernel
theorem dX11_word_59 : decode cX11_word 59 = .ok (.lload_n 1, 1) := by decide +kernel
theorem dX11_word_60 : decode cX11_word 60 = .ok (.ldc2_w 234, 3) := by decide +kernel
theorem dX11_word_63 : decode cX11_word 63 = .ok (.lmul, 1) := by decide +kernel
theorem dX11_word_64 : decode cX11_word 64 = .ok (.aload_n 0, 1) := by decide +kernel
theorem dX11_word_65 : decode cX11_word 65 = .ok (.getfield 67, 3) := by decide +kernel
theorem dX11_word_68 : decode cX11_word 68 = .ok (.aload_n 0, 1) := by decide +kernel
theorem dX11_word_69 : decode cX11_word 69 = .ok (.getfield 221, 3) := by decide +kernel
theorem dX11_word_72 : decode cX11_word 72 = .ok (.iaload, 1) := by decide +kernel
theorem dX11_word_73 : decode cX11_word 73 = .ok (.i2l, 1) := by decide +kernel
theorem dX11_word_74 : decode cX11_word 74 = .ok (.ladd, 1) := by decide +kernel
theorem dX11_word_75 : decode cX11_word 75 = .ok (.lstore_n 1, 1) := by decide +kernel
theorem dX11_word_76 : decode cX11_word 76 = .ok (.aload_n 0, 1) := by decide +kernel
theorem dX11_word_77 : decode cX11_word 77 = .ok (.dup, 1) := by decide +kernel
theorem dX11_word_78 : decode cX11_word 78 = .ok (.getfield 221, 3) := by decide +kernel
theorem dX11_word_81 : decode cX11_word 81 = .ok (.iconst 1, 1) := by decide +kernel
theorem dX11_word_82 : decode cX11_word 82 = .ok (.iadd, 1) := by decide +kernel
theorem dX11_word_83 : decode cX11_word 83 = .ok (.putfield 221, 3) := by decide +kernel
theorem dX11_word_86 : decode cX11_word 86 = .ok (.goto (-80), 3) := by decide +kernel
theorem dX11_word_89 : decode cX11_word 89 = .ok (.lload_n 1, 1) := by decide +kernel
theorem dX11_word_90 : decode cX11_word 90 = .ok (.ldc2_w 236, 3) := by decide +kernel
theorem dX11_word_93 : decode cX11_word 93 = .ok (.lcmp, 1) := by decide +kernel
theorem dX11_word_94 : decode cX11_word 94 = .ok (.ifCond .ne 7, 3) := by decide +kernel
theorem dX11_word_97 : decode cX11_word 97 = .ok (.iconst 0, 1) := by decide +kernel
theorem dX11_word_98 : decode cX11_word 98 = .ok (.goto 77, 3) := by decide +kernel
theorem dX11_word_101 : decode cX11_word 101 = .ok (.lload_n 1, 1) := by decide +kernel
theorem dX11_word_102 : decode cX11_word 102 = .ok (.ldc2_w 238, 3) := by decide +kernel
theorem dX11_word_105 : decode cX11_word 105 = .ok (.lcmp, 1) := by decide +kernel
theorem dX11_word_106 : decode cX11_word 106 = .ok (.ifCond .ne 7, 3) := by decide +kernel
theorem dX11_word_109 : decode cX11_word 109 = .ok (.iconst 1, 1) := by decide +kernel
theorem dX11_word_110 : decode cX11_word 110 = .ok (.goto 65, 3) := by decide +kernel
theorem dX11_word_113 : decode cX11_word 113 = .ok (.lload_n 1, 1) := by decide +kernel
theorem dX11_word_114 : decode cX11_word 114 = .ok (.ldc2_w 240, 3) := by decide +kernel
theorem dX11_word_117 : decode cX11_word 117 = .ok (.lcmp, 1) := by decide +kernel
theorem dX11_word_118 : decode cX11_word 118 = .ok (.ifCond .ne 7, 3) := by decide +kernel
theorem dX11_word_121 : decode cX11_word 121 = .ok (.iconst 2, 1) := by decide +kernel
theorem dX11_word_122 : decode cX11_word 122 = .ok (.goto 53, 3) := by decide +kernel
theorem dX11_word_125 : decode cX11_word 125 = .ok (.lload_n 1, 1) := by decide +kernel
theorem dX11_word_126 : decode cX11_word 126 = .ok (.ldc2_w 242, 3) := by decide +kernel
theorem dX11_word_129 : decode cX11_word 129 = .ok (.lcmp, 1) := by decide +kernel
theorem dX11_word_130 : decode cX11_word 130 = .ok (.ifCond .ne 7, 3) := by decide +kernel
theorem dX11_word_133 : decode cX11_word 133 = .ok (.iconst 3, 1) := by decide +kernel
theorem dX11_word_134 : decode cX11_word 134 = .ok (.goto 41, 3) := by decide +kernel
theorem dX11_word_137 : decode cX11_word 137 = .ok (.lload_n 1, 1) := by decide +kernel
theorem dX11_word_138 : decode cX11_word 138 = .ok (.ldc2_w 244, 3) := by decide +kernel
theorem dX11_word_141 : decode cX11_word 141 = .ok (.lcmp, 1) := by decide +kernel
theorem dX11_word_142 : decode cX11_word 142 = .ok (.ifCond .ne 7, 3) := by decide +kernel
theorem dX11_word_145 : decode cX11_word 145 = .ok (.iconst 4, 1) := by decide +kernel
theorem dX11_word_146 : decode cX11_word 146 = .ok (.goto 29, 3) := by decide +kernel
theorem dX11_word_149 : decode cX11_word 149 = .ok (.lload_n 1, 1) := by decide +kernel
theorem dX11_word_150 : decode cX11_word 150 = .ok (.ldc2_w 246, 3) := by decide +kernel
theorem dX11_word_153 : decode cX11_word 153 = .ok (.lcmp, 1) := by decide +kernel
theorem dX11_word_154 : decode cX11_word 154 = .ok (.ifCond .ne 7, 3) := by decide +kernel
theorem dX11_word_157 : decode cX11_word 157 = .ok (.iconst 5, 1) := by decide +kernel
theorem dX11_word_158 : decode cX11_word 158 = .ok (.goto 17, 3) := by decide +kernel
theorem dX11_word_161 : decode cX11_word 161 = .ok (.lload_n 1, 1) := by decide +kernel
theorem dX11_word_162 : decode cX11_word 162 = .ok (.ldc2_w 248, 3) := by decide +kernel
theorem dX11_word_165 : decode cX11_word 165 = .ok (.lcmp, 1) := by decide +kernel
theorem dX11_word_166 : decode cX11_word 166 = .ok (.ifCond .ne 8, 3) := by decide +kernel
theorem dX11_word_169 : decode cX11_word 169 = .ok (.bipush 6, 2) := by decide +kernel
theorem dX11_word_171 : decode cX11_word 171 = .ok (.goto 4, 3) := by decide +kernel
theorem dX11_word_174 : decode cX11_word 174 = .ok (.iconst (-1), 1) := by decide +kernel
theorem dX11_word_175 : decode cX11_word 175 = .ok (.ireturn, 1) := by decide +kernel
theorem dX11_isFigure_0 : decode cX11_isFigure 0 = .ok (.iload_n 1, 1) := by decide +kernel
theorem dX11_isFigure_1 : decode cX11_isFigure 1 = .ok (.aload_n 0, 1) := by decide +kernel
theorem dX11_isFigure_2 : decode cX11_isFigure 2 = .ok (.getfield 218, 3) := by decide +kernel
theorem dX11_isFigure_5 : decode cX11_isFigure 5 = .ok (.if_icmp .ge 26, 3) := by decide +kernel
theorem dX11_isFigure_8 : decode cX11_isFigure 8 = .ok (.aload_n 0, 1) := by decide +kernel
theorem dX11_isFigure_9 : decode cX11_isFigure 9 = .ok (.getfield 67, 3) := by decide +kernel
theorem dX11_isFigure_12 : decode cX11_isFigure 12 = .ok (.iload_n 1, 1) := by decide +kernel
theorem dX11_isFigure_13 : decode cX11_isFigure 13 = .ok (.iaload, 1) := by decide +kernel
theorem dX11_isFigure_14 : decode cX11_isFigure 14 = .ok (.i2l, 1) := by decide +kernel
theorem dX11_isFigure_15 : decode cX11_isFigure 15 = .ok (.ldc2_w 250, 3) := by decide +kernel
theorem dX11_isFigure_18 : decode cX11_isFigure 18 = .ok (.ldc2_w 252, 3) := by decide +kernel
theorem dX11_isFigure_21 : decode cX11_isFigure 21 = .ok (.invokestatic 97, 3) := by decide +kernel
theorem dX11_isFigure_24 : decode cX11_isFigure 24 = .ok (.ifCond .eq 7, 3) := by decide +kernel
theorem dX11_isFigure_27 : decode cX11_isFigure 27 = .ok (.iconst 1, 1) := by decide +kernel
theorem dX11_isFigure_28 : decode cX11_isFigure 28 = .ok (.goto 4, 3) := by decide +kernel
theorem dX11_isFigure_31 : decode cX11_isFigure 31 = .ok (.iconst 0, 1) := by decide +kernel
theorem dX11_isFigure_32 : decode cX11_isFigure 32 = .ok (.ireturn, 1) := by decide +kernel
theorem dX11_figure_0 : decode cX11_figure 0 = .ok (.aload_n 0, 1) := by decide +kernel
theorem dX11_figure_1 : decode cX11_figure 1 = .ok (.invokevirtual 227, 3) := by decide +kernel
theorem dX11_figure_4 : decode cX11_figure 4 = .ok (.aload_n 0, 1) := by decide +kernel
theorem dX11_figure_5 : decode cX11_figure 5 = .ok (.aload_n 0, 1) := by decide +kernel
theorem dX11_figure_6 : decode cX11_figure 6 = .ok (.getfield 254, 3) := by decide +kernel
theorem dX11_figure_9 : decode cX11_figure 9 = .ok (.ifCond .ne 27, 3) := by decide +kernel
theorem dX11_figure_12 : decode cX11_figure 12 = .ok (.aload_n 0, 1) := by decide +kernel
theorem dX11_figure_13 : decode cX11_figure 13 = .ok (.aload_n 0, 1) := by decide +kernel
theorem dX11_figure_14 : decode cX11_figure 14 = .ok (.getfield 221, 3) := by decide +kernel
theorem dX11_figure_17 : decode cX11_figure 17 = .ok (.invokevirtual 258, 3) := by decide +kernel
theorem dX11_figure_20 : decode cX11_figure 20 = .ok (.ifCond .eq 16, 3) := by decide +kernel
theorem dX11_figure_23 : decode cX11_figure 23 = .ok (.aload_n 0, 1) := by decide +kernel
theorem dX11_figure_24 : decode cX11_figure 24 = .ok (.aload_n 0, 1) := by decide +kernel
theorem dX11_figure_25 : decode cX11_figure 25 = .ok (.getfield 221, 3) := by decide +kernel
theorem dX11_figure_28 : decode cX11_figure 28 = .ok (.iconst 1, 1) := by decide +kernel
theorem dX11_figure_29 : decode cX11_figure 29 = .ok (.iadd, 1) := by decide +kernel
theorem dX11_figure_30 : decode cX11_figure 30 = .ok (.invokevirtual 258, 3) := by decide +kernel
theorem dX11_figure_33 : decode cX11_figure 33 = .ok (.ifCond .eq 7, 3) := by decide +kernel
theorem dX11_figure_36 : decode cX11_figure 36 = .ok (.iconst 1, 1) := by decide +kernel
theorem dX11_figure_37 : decode cX11_figure 37 = .ok (.goto 4, 3) := by decide +kernel
theorem dX11_figure_40 : decode cX11_figure 40 = .ok (.iconst 0, 1) := by decide +kernel
theorem dX11_figure_41 : decode cX11_figure 41 = .ok (.putfield 254, 3) := by decide +kernel
theorem dX11_figure_44 : decode cX11_figure 44 = .ok (.aload_n 0, 1) := by decide +kernel
theorem dX11_figure_45 : decode cX11_figure 45 = .ok (.dup, 1) := by decide +kernel
theorem dX11_figure_46 : decode cX11_figure 46 = .ok (.getfield 221, 3) := by decide +kernel
theorem dX11_figure_49 : decode cX11_figure 49 = .ok (.aload_n 0, 1) := by decide +kernel
theorem dX11_figure_50 : decode cX11_figure 50 = .ok (.getfield 254, 3) := by decide +kernel
theorem dX11_figure_53 : decode cX11_figure 53 = .ok (.ifCond .eq 7, 3) := by decide +kernel
theorem dX11_figure_56 : decode cX11_figure 56 = .ok (.iconst 0, 1) := by decide +kernel
theorem dX11_figure_57 : decode cX11_figure 57 = .ok (.goto 4, 3) := by decide +kernel
theorem dX11_figure_60 : decode cX11_figure 60 = .ok (.iconst 1, 1) := by decide +kernel
theorem dX11_figure_61 : decode cX11_figure 61 = .ok (.iadd, 1) := by decide +kernel
theorem dX11_figure_62 : decode cX11_figure 62 = .ok (.putfield 221, 3) := by decide +kernel
theorem dX11_figure_65 : decode cX11_figure 65 = .ok (.aload_n 0, 1) := by decide +kernel
theorem dX11_figure_66 : decode cX11_figure 66 = .ok (.getfield 254, 3) := by decide +kernel
theorem dX11_figure_69 : decode cX11_figure 69 = .ok (.ifCond .eq 7, 3) := by decide +kernel
theorem dX11_figure_72 : decode cX11_figure 72 = .ok (.iconst 0, 1) := by decide +kernel
theorem dX11_figure_73 : decode cX11_figure 73 = .ok (.goto 17, 3) := by decide +kernel
theorem dX11_figure_76 : decode cX11_figure 76 = .ok (.aload_n 0, 1) := by decide +kernel
theorem dX11_figure_77 : decode cX11_figure 77 = .ok (.getfield 67, 3) := by decide +kernel
theorem dX11_figure_80 : decode cX11_figure 80 = .ok (.aload_n 0, 1) := by decide +kernel
theorem dX11_figure_81 : decode cX11_figure 81 = .ok (.getfield 221, 3) := by decide +kernel
theorem dX11_figure_84 : decode cX11_figure 84 = .ok (.iconst 1, 1) := by decide +kernel
theorem dX11_figure_85 : decode cX11_figure 85 = .ok (.isub, 1) := by decide +kernel
theorem dX11_figure_86 : decode cX11_figure 86 = .ok (.iaload, 1) := by decide +kernel
theorem dX11_figure_87 : decode cX11_figure 87 = .ok (.bipush 48, 2) := by decide +kernel
theorem dX11_figure_89 : decode cX11_figure 89 = .ok (.isub, 1) := by decide +kernel
theorem dX11_figure_90 : decode cX11_figure 90 = .ok (.ireturn, 1) := by decide +kernel
theorem dX11_readItem_0 : decode cX11_readItem 0 = .ok (.aload_n 0, 1) := by decide +kernel
theorem dX11_readItem_1 : decode cX11_readItem 1 = .ok (.invokevirtual 261, 3) := by decide +kernel
theorem dX11_readItem_4 : decode cX11_readItem 4 = .ok (.istore_n 1, 1) := by decide +kernel
theorem dX11_readItem_5 : decode cX11_readItem 5 = .ok (.aload_n 0, 1) := by decide +kernel
theorem dX11_readItem_6 : decode cX11_readItem 6 = .ok (.iload_n 1, 1) := by decide +kernel
theorem dX11_readItem_7 : decode cX11_readItem 7 = .ok (.iconst (-1), 1) := by decide +kernel
theorem dX11_readItem_8 : decode cX11_readItem 8 = .ok (.if_icmp .eq 27, 3) := by decide +kernel
theorem dX11_readItem_11 : decode cX11_readItem 11 = .ok (.iload_n 1, 1) := by decide +kernel
theorem dX11_readItem_12 : decode cX11_readItem 12 = .ok (.ifCond .ne 7, 3) := by decide +kernel
theorem dX11_readItem_15 : decode cX11_readItem 15 = .ok (.iconst 1, 1) := by decide +kernel
theorem dX11_readItem_16 : decode cX11_readItem 16 = .ok (.goto 4, 3) := by decide +kernel
theorem dX11_readItem_19 : decode cX11_readItem 19 = .ok (.iconst 0, 1) := by decide +kernel
theorem dX11_readItem_20 : decode cX11_readItem 20 = .ok (.aload_n 0, 1) := by decide +kernel
theorem dX11_readItem_21 : decode cX11_readItem 21 = .ok (.getfield 264, 3) := by decide +kernel
theorem dX11_readItem_24 : decode cX11_readItem 24 = .ok (.ifCond .ne 7, 3) := by decide +kernel
theorem dX11_readItem_27 : decode cX11_readItem 27 = .ok (.iconst 1, 1) := by decide +kernel
theorem dX11_readItem_28 : decode cX11_readItem 28 = .ok (.goto 4, 3) := by decide +kernel
theorem dX11_readItem_31 : decode cX11_readItem 31 = .ok (.iconst 0, 1) := by decide +kernel
theorem dX11_readItem_32 : decode cX11_readItem 32 = .ok (.if_icmp .eq 7, 3) := by decide +kernel
theorem dX11_readItem_35 : decode cX11_readItem 35 = .ok (.iconst 1, 1) := by decide +kernel
theorem dX11_readItem_36 : decode cX11_readItem 36 = .ok (.goto 4, 3) := by decide +kernel
theorem dX11_readItem_39 : decode cX11_readItem 39 = .ok (.iconst 0, 1) := by decide +kernel
theorem dX11_readItem_40 : decode cX11_readItem 40 = .ok (.putfield 254, 3) := by decide +kernel
theorem dX11_readItem_43 : decode cX11_readItem 43 = .ok (.aload_n 0, 1) := by decide +kernel
theorem dX11_readItem_44 : decode cX11_readItem 44 = .ok (.getfield 254, 3) := by decide +kernel
theorem dX11_readItem_47 : decode cX11_readItem 47 = .ok (.ifCond .ne 64, 3) := by decide +kernel
theorem dX11_readItem_50 : decode cX11_readItem 50 = .ok (.aload_n 0, 1) := by decide +kernel
theorem dX11_readItem_51 : decode cX11_readItem 51 = .ok (.getfield 70, 3) := by decide +kernel
theorem dX11_readItem_54 : decode cX11_readItem 54 = .ok (.iconst 3, 1) := by decide +kernel
theorem dX11_readItem_55 : decode cX11_readItem 55 = .ok (.aload_n 0, 1) := by decide +kernel
theorem dX11_readItem_56 : decode cX11_readItem 56 = .ok (.getfield 264, 3) := by decide +kernel
theorem dX11_readItem_59 : decode cX11_readItem 59 = .ok (.imul, 1) := by decide +kernel
theorem dX11_readItem_60 : decode cX11_readItem 60 = .ok (.iload_n 1, 1) := by decide +kernel
theorem dX11_readItem_61 : decode cX11_readItem 61 = .ok (.iastore, 1) := by decide +kernel
theorem dX11_readItem_62 : decode cX11_readItem 62 = .ok (.aload_n 0, 1) := by decide +kernel
theorem dX11_readItem_63 : decode cX11_readItem 63 = .ok (.getfield 70, 3) := by decide +kernel
theorem dX11_readItem_66 : decode cX11_readItem 66 = .ok (.iconst 3, 1) := by decide +kernel
theorem dX11_readItem_67 : decode cX11_readItem 67 = .ok (.aload_n 0, 1) := by decide +kernel
theorem dX11_readItem_68 : decode cX11_readItem 68 = .ok (.getfield 264, 3) := by decide +kernel
theorem dX11_readItem_71 : decode cX11_readItem 71 = .ok (.imul, 1) := by decide +kernel
theorem dX11_readItem_72 : decode cX11_readItem 72 = .ok (.iconst 1, 1) := by decide +kernel
theorem dX11_readItem_73 : decode cX11_readItem 73 = .ok (.iadd, 1) := by decide +kernel
theorem dX11_readItem_74 : decode cX11_readItem 74 = .ok (.aload_n 0, 1) := by decide +kernel
theorem dX11_readItem_75 : decode cX11_readItem 75 = .ok (.invokevirtual 267, 3) := by decide +kernel
theorem dX11_readItem_78 : decode cX11_readItem 78 = .ok (.iastore, 1) := by decide +kernel
theorem dX11_readItem_79 : decode cX11_readItem 79 = .ok (.aload_n 0, 1) := by decide +kernel
theorem dX11_readItem_80 : decode cX11_readItem 80 = .ok (.getfield 70, 3) := by decide +kernel
theorem dX11_readItem_83 : decode cX11_readItem 83 = .ok (.iconst 3, 1) := by decide +kernel
theorem dX11_readItem_84 : decode cX11_readItem 84 = .ok (.aload_n 0, 1) := by decide +kernel
theorem dX11_readItem_85 : decode cX11_readItem 85 = .ok (.getfield 264, 3) := by decide +kernel
theorem dX11_readItem_88 : decode cX11_readItem 88 = .ok (.imul, 1) := by decide +kernel
theorem dX11_readItem_89 : decode cX11_readItem 89 = .ok (.iconst 2, 1) := by decide +kernel
theorem dX11_readItem_90 : decode cX11_readItem 90 = .ok (.iadd, 1) := by decide +kernel
theorem dX11_readItem_91 : decode cX11_readItem 91 = .ok (.iload_n 1, 1) := by decide +kernel
theorem dX11_readItem_92 : decode cX11_readItem 92 = .ok (.ifCond .eq 10, 3) := by decide +kernel
theorem dX11_readItem_95 : decode cX11_readItem 95 = .ok (.aload_n 0, 1) := by decide +kernel
theorem dX11_readItem_96 : decode cX11_readItem 96 = .ok (.getfield 254, 3) := by decide +kernel
theorem dX11_readItem_99 : decode cX11_readItem 99 = .ok (.ifCond .eq 7, 3) := by decide +kernel
theorem dX11_readItem_102 : decode cX11_readItem 102 = .ok (.iconst 0, 1) := by decide +kernel
theorem dX11_readItem_103 : decode cX11_readItem 103 = .ok (.goto 7, 3) := by decide +kernel
theorem dX11_readItem_106 : decode cX11_readItem 106 = .ok (.aload_n 0, 1) := by decide +kernel
theorem dX11_readItem_107 : decode cX11_readItem 107 = .ok (.invokevirtual 267, 3) := by decide +kernel
theorem dX11_readItem_110 : decode cX11_readItem 110 = .ok (.iastore, 1) := by decide +kernel
theorem dX11_readItem_111 : decode cX11_readItem 111 = .ok (.aload_n 0, 1) := by decide +kernel
theorem dX11_readItem_112 : decode cX11_readItem 112 = .ok (.getfield 254, 3) := by decide +kernel
theorem dX11_readItem_115 : decode cX11_readItem 115 = .ok (.ifCond .ne 72, 3) := by decide +kernel
theorem dX11_readItem_118 : decode cX11_readItem 118 = .ok (.aload_n 0, 1) := by decide +kernel
theorem dX11_readItem_119 : decode cX11_readItem 119 = .ok (.invokevirtual 227, 3) := by decide +kernel
theorem dX11_readItem_122 : decode cX11_readItem 122 = .ok (.aload_n 0, 1) := by decide +kernel
theorem dX11_readItem_123 : decode cX11_readItem 123 = .ok (.aload_n 0, 1) := by decide +kernel
theorem dX11_readItem_124 : decode cX11_readItem 124 = .ok (.getfield 221, 3) := by decide +kernel
theorem dX11_readItem_127 : decode cX11_readItem 127 = .ok (.aload_n 0, 1) := by decide +kernel
theorem dX11_readItem_128 : decode cX11_readItem 128 = .ok (.getfield 218, 3) := by decide +kernel
theorem dX11_readItem_131 : decode cX11_readItem 131 = .ok (.if_icmp .eq 17, 3) := by decide +kernel
theorem dX11_readItem_134 : decode cX11_readItem 134 = .ok (.aload_n 0, 1) := by decide +kernel
theorem dX11_readItem_135 : decode cX11_readItem 135 = .ok (.getfield 67, 3) := by decide +kernel
theorem dX11_readItem_138 : decode cX11_readItem 138 = .ok (.aload_n 0, 1) := by decide +kernel
theorem dX11_readItem_139 : decode cX11_readItem 139 = .ok (.getfield 221, 3) := by decide +kernel
theorem dX11_readItem_142 : decode cX11_readItem 142 = .ok (.iaload, 1) := by decide +kernel
theorem dX11_readItem_143 : decode cX11_readItem 143 = .ok (.bipush 59, 2) := by decide +kernel
theorem dX11_readItem_145 : decode cX11_readItem 145 = .ok (.if_icmp .eq 7, 3) := by decide +kernel
theorem dX11_readItem_148 : decode cX11_readItem 148 = .ok (.iconst 1, 1) := by decide +kernel
theorem dX11_readItem_149 : decode cX11_readItem 149 = .ok (.goto 4, 3) := by decide +kernel
theorem dX11_readItem_152 : decode cX11_readItem 152 = .ok (.iconst 0, 1) := by decide +kernel
theorem dX11_readItem_153 : decode cX11_readItem 153 = .ok (.putfield 254, 3) := by decide +kernel
theorem dX11_readItem_156 : decode cX11_readItem 156 = .ok (.aload_n 0, 1) := by decide +kernel
theorem dX11_readItem_157 : decode cX11_readItem 157 = .ok (.dup, 1) := by decide +kernel
theorem dX11_readItem_158 : decode cX11_readItem 158 = .ok (.getfield 221, 3) := by decide +kernel
theorem dX11_readItem_161 : decode cX11_readItem 161 = .ok (.aload_n 0, 1) := by decide +kernel
theorem dX11_readItem_162 : decode cX11_readItem 162 = .ok (.getfield 254, 3) := by decide +kernel
theorem dX11_readItem_165 : decode cX11_readItem 165 = .ok (.ifCond .eq 7, 3) := by decide +kernel
theorem dX11_readItem_168 : decode cX11_readItem 168 = .ok (.iconst 0, 1) := by decide +kernel
theorem dX11_readItem_169 : decode cX11_readItem 169 = .ok (.goto 4, 3) := by decide +kernel
theorem dX11_readItem_172 : decode cX11_readItem 172 = .ok (.iconst 1, 1) := by decide +kernel
theorem dX11_readItem_173 : decode cX11_readItem 173 = .ok (.iadd, 1) := by decide +kernel
theorem dX11_readItem_174 : decode cX11_readItem 174 = .ok (.putfield 221, 3) := by decide +kernel
theorem dX11_readItem_177 : decode cX11_readItem 177 = .ok (.aload_n 0, 1) := by decide +kernel
theorem dX11_readItem_178 : decode cX11_readItem 178 = .ok (.dup, 1) := by decide +kernel
theorem dX11_readItem_179 : decode cX11_readItem 179 = .ok (.getfield 264, 3) := by decide +kernel
theorem dX11_readItem_182 : decode cX11_readItem 182 = .ok (.iconst 1, 1) := by decide +kernel
theorem dX11_readItem_183 : decode cX11_readItem 183 = .ok (.iadd, 1) := by decide +kernel
theorem dX11_readItem_184 : decode cX11_readItem 184 = .ok (.putfield 264, 3) := by decide +kernel
theorem dX11_readItem_187 : decode cX11_readItem 187 = .ok (.return_, 1) := by decide +kernel
theorem dX11_does_0 : decode cX11_does 0 = .ok (.aload_n 0, 1) := by decide +kernel
theorem dX11_does_1 : decode cX11_does 1 = .ok (.getfield 70, 3) := by decide +kernel
theorem dX11_does_4 : decode cX11_does 4 = .ok (.iconst 3, 1) := by decide +kernel
theorem dX11_does_5 : decode cX11_does 5 = .ok (.iload_n 1, 1) := by decide +kernel
theorem dX11_does_6 : decode cX11_does 6 = .ok (.imul, 1) := by decide +kernel
theorem dX11_does_7 : decode cX11_does 7 = .ok (.iconst 1, 1) := by decide +kernel
theorem dX11_does_8 : decode cX11_does 8 = .ok (.iadd, 1) := by decide +kernel
theorem dX11_does_9 : decode cX11_does 9 = .ok (.iaload, 1) := by decide +kernel
theorem dX11_does_10 : decode cX11_does 10 = .ok (.istore_n 2, 1) := by decide +kernel
theorem dX11_does_11 : decode cX11_does 11 = .ok (.aload_n 0, 1) := by decide +kernel
theorem dX11_does_12 : decode cX11_does 12 = .ok (.getfield 70, 3) := by decide +kernel
theorem dX11_does_15 : decode cX11_does 15 = .ok (.iconst 3, 1) := by decide +kernel
theorem dX11_does_16 : decode cX11_does 16 = .ok (.iload_n 1, 1) := by decide +kernel
theorem dX11_does_17 : decode cX11_does 17 = .ok (.imul, 1) := by decide +kernel
theorem dX11_does_18 : decode cX11_does 18 = .ok (.iconst 2, 1) := by decide +kernel
theorem dX11_does_19 : decode cX11_does 19 = .ok (.iadd, 1) := by decide +kernel
theorem dX11_does_20 : decode cX11_does 20 = .ok (.iaload, 1) := by decide +kernel
theorem dX11_does_21 : decode cX11_does 21 = .ok (.istore_n 3, 1) := by decide +kernel
theorem dX11_does_22 : decode cX11_does 22 = .ok (.aload_n 0, 1) := by decide +kernel
theorem dX11_does_23 : decode cX11_does 23 = .ok (.getfield 70, 3) := by decide +kernel
theorem dX11_does_26 : decode cX11_does 26 = .ok (.iconst 3, 1) := by decide +kernel
theorem dX11_does_27 : decode cX11_does 27 = .ok (.iload_n 1, 1) := by decide +kernel
theorem dX11_does_28 : decode cX11_does 28 = .ok (.imul, 1) := by decide +kernel
theorem dX11_does_29 : decode cX11_does 29 = .ok (.iaload, 1) := by decide +kernel
theorem dX11_does_30 : decode cX11_does 30 = .ok (.tableswitch 123 0 5 #[38, 52, 67, 67, 93, 108], 38) := by decide +kernel
theorem dX11_does_68 : decode cX11_does 68 = .ok (.aload_n 0, 1) := by decide +kernel
theorem dX11_does_69 : decode cX11_does 69 = .ok (.iload_n 2, 1) := by decide +kernel
theorem dX11_does_70 : decode cX11_does 70 = .ok (.invokevirtual 270, 3) := by decide +kernel
theorem dX11_does_73 : decode cX11_does 73 = .ok (.ifCond .le 7, 3) := by decide +kernel
theorem dX11_does_76 : decode cX11_does 76 = .ok (.iconst 1, 1) := by decide +kernel
theorem dX11_does_77 : decode cX11_does 77 = .ok (.goto 4, 3) := by decide +kernel
theorem dX11_does_80 : decode cX11_does 80 = .ok (.iconst 0, 1) := by decide +kernel
theorem dX11_does_81 : decode cX11_does 81 = .ok (.ireturn, 1) := by decide +kernel
theorem dX11_does_82 : decode cX11_does 82 = .ok (.aload_n 0, 1) := by decide +kernel
theorem dX11_does_83 : decode cX11_does 83 = .ok (.iload_n 2, 1) := by decide +kernel
theorem dX11_does_84 : decode cX11_does 84 = .ok (.iload_n 3, 1) := by decide +kernel
theorem dX11_does_85 : decode cX11_does 85 = .ok (.invokevirtual 273, 3) := by decide +kernel
theorem dX11_does_88 : decode cX11_does 88 = .ok (.ifCond .lt 7, 3) := by decide +kernel
theorem dX11_does_91 : decode cX11_does 91 = .ok (.iconst 1, 1) := by decide +kernel
theorem dX11_does_92 : decode cX11_does 92 = .ok (.goto 4, 3) := by decide +kernel
theorem dX11_does_95 : decode cX11_does 95 = .ok (.iconst 0, 1) := by decide +kernel
theorem dX11_does_96 : decode cX11_does 96 = .ok (.ireturn, 1) := by decide +kernel
theorem dX11_does_97 : decode cX11_does 97 = .ok (.aload_n 0, 1) := by decide +kernel
theorem dX11_does_98 : decode cX11_does 98 = .ok (.iload_n 2, 1) := by decide +kernel
theorem dX11_does_99 : decode cX11_does 99 = .ok (.aload_n 0, 1) := by decide +kernel
theorem dX11_does_100 : decode cX11_does 100 = .ok (.getfield 70, 3) := by decide +kernel
theorem dX11_does_103 : decode cX11_does 103 = .ok (.iconst 3, 1) := by decide +kernel
theorem dX11_does_104 : decode cX11_does 104 = .ok (.iload_n 1, 1) := by decide +kernel
theorem dX11_does_105 : decode cX11_does 105 = .ok (.imul, 1) := by decide +kernel
theorem dX11_does_106 : decode cX11_does 106 = .ok (.iaload, 1) := by decide +kernel
theorem dX11_does_107 : decode cX11_does 107 = .ok (.iconst 2, 1) := by decide +kernel
theorem dX11_does_108 : decode cX11_does 108 = .ok (.isub, 1) := by decide +kernel
theorem dX11_does_109 : decode cX11_does 109 = .ok (.iload_n 3, 1) := by decide +kernel
theorem dX11_does_110 : decode cX11_does 110 = .ok (.iconst 1, 1) := by decide +kernel
theorem dX11_does_111 : decode cX11_does 111 = .ok (.invokevirtual 276, 3) := by decide +kernel
theorem dX11_does_114 : decode cX11_does 114 = .ok (.ifCond .le 7, 3) := by decide +kernel
theorem dX11_does_117 : decode cX11_does 117 = .ok (.iconst 1, 1) := by decide +kernel
theorem dX11_does_118 : decode cX11_does 118 = .ok (.goto 4, 3) := by decide +kernel
theorem dX11_does_121 : decode cX11_does 121 = .ok (.iconst 0, 1) := by decide +kernel
theorem dX11_does_122 : decode cX11_does 122 = .ok (.ireturn, 1) := by decide +kernel
theorem dX11_does_123 : decode cX11_does 123 = .ok (.aload_n 0, 1) := by decide +kernel
theorem dX11_does_124 : decode cX11_does 124 = .ok (.iload_n 2, 1) := by decide +kernel
theorem dX11_does_125 : decode cX11_does 125 = .ok (.iload_n 3, 1) := by decide +kernel
theorem dX11_does_126 : decode cX11_does 126 = .ok (.invokevirtual 280, 3) := by decide +kernel
theorem dX11_does_129 : decode cX11_does 129 = .ok (.ifCond .lt 7, 3) := by decide +kernel
theorem dX11_does_132 : decode cX11_does 132 = .ok (.iconst 1, 1) := by decide +kernel
theorem dX11_does_133 : decode cX11_does 133 = .ok (.goto 4, 3) := by decide +kernel
theorem dX11_does_136 : decode cX11_does 136 = .ok (.iconst 0, 1) := by decide +kernel
theorem dX11_does_137 : decode cX11_does 137 = .ok (.ireturn, 1) := by decide +kernel
theorem dX11_does_138 : decode cX11_does 138 = .ok (.aload_n 0, 1) := by decide +kernel
theorem dX11_does_139 : decode cX11_does 139 = .ok (.iload_n 2, 1) := by decide +kernel
theorem dX11_does_140 : decode cX11_does 140 = .ok (.iload_n 3, 1) := by decide +kernel
theorem dX11_does_141 : decode cX11_does 141 = .ok (.invokevirtual 283, 3) := by decide +kernel
theorem dX11_does_144 : decode cX11_does 144 = .ok (.ifCond .lt 7, 3) := by decide +kernel
theorem dX11_does_147 : decode cX11_does 147 = .ok (.iconst 1, 1) := by decide +kernel
theorem dX11_does_148 : decode cX11_does 148 = .ok (.goto 4, 3) := by decide +kernel
theorem dX11_does_151 : decode cX11_does 151 = .ok (.iconst 0, 1) := by decide +kernel
theorem dX11_does_152 : decode cX11_does 152 = .ok (.ireturn, 1) := by decide +kernel
theorem dX11_does_153 : decode cX11_does 153 = .ok (.aload_n 0, 1) := by decide +kernel
theorem dX11_does_154 : decode cX11_does 154 = .ok (.iload_n 2, 1) := by decide +kernel
theorem dX11_does_155 : decode cX11_does 155 = .ok (.iload_n 3, 1) := by decide +kernel
theorem dX11_does_156 : decode cX11_does 156 = .ok (.invokevirtual 285, 3) := by decide +kernel
theorem dX11_does_159 : decode cX11_does 159 = .ok (.bipush (-2), 2) := by decide +kernel
theorem dX11_does_161 : decode cX11_does 161 = .ok (.if_icmp .le 7, 3) := by decide +kernel
theorem dX11_does_164 : decode cX11_does 164 = .ok (.iconst 1, 1) := by decide +kernel
theorem dX11_does_165 : decode cX11_does 165 = .ok (.goto 4, 3) := by decide +kernel
theorem dX11_does_168 : decode cX11_does 168 = .ok (.iconst 0, 1) := by decide +kernel
theorem dX11_does_169 : decode cX11_does 169 = .ok (.ireturn, 1) := by decide +kernel
theorem dX11_read_0 : decode cX11_read 0 = .ok (.aload_n 0, 1) := by decide +kernel
theorem dX11_read_1 : decode cX11_read 1 = .ok (.iconst 0, 1) := by decide +kernel
theorem dX11_read_2 : decode cX11_read 2 = .ok (.putfield 221, 3) := by decide +kernel
theorem dX11_read_5 : decode cX11_read 5 = .ok (.aload_n 0, 1) := by decide +kernel
theorem dX11_read_6 : decode cX11_read 6 = .ok (.iconst 0, 1) := by decide +kernel
theorem dX11_read_7 : decode cX11_read 7 = .ok (.putfield 264, 3) := by decide +kernel
theorem dX11_read_10 : decode cX11_read 10 = .ok (.aload_n 0, 1) := by decide +kernel
theorem dX11_read_11 : decode cX11_read 11 = .ok (.iconst 0, 1) := by decide +kernel
theorem dX11_read_12 : decode cX11_read 12 = .ok (.putfield 254, 3) := by decide +kernel
theorem dX11_read_15 : decode cX11_read 15 = .ok (.aload_n 0, 1) := by decide +kernel
theorem dX11_read_16 : decode cX11_read 16 = .ok (.invokevirtual 227, 3) := by decide +kernel
theorem dX11_read_19 : decode cX11_read 19 = .ok (.iconst 1, 1) := by decide +kernel
theorem dX11_read_20 : decode cX11_read 20 = .ok (.istore_n 1, 1) := by decide +kernel
theorem dX11_read_21 : decode cX11_read 21 = .ok (.iload_n 1, 1) := by decide +kernel
theorem dX11_read_22 : decode cX11_read 22 = .ok (.ifCond .eq 48, 3) := by decide +kernel
theorem dX11_read_25 : decode cX11_read 25 = .ok (.aload_n 0, 1) := by decide +kernel
theorem dX11_read_26 : decode cX11_read 26 = .ok (.invokevirtual 288, 3) := by decide +kernel
theorem dX11_read_29 : decode cX11_read 29 = .ok (.aload_n 0, 1) := by decide +kernel
theorem dX11_read_30 : decode cX11_read 30 = .ok (.getfield 254, 3) := by decide +kernel
theorem dX11_read_33 : decode cX11_read 33 = .ok (.ifCond .ne 7, 3) := by decide +kernel
theorem dX11_read_36 : decode cX11_read 36 = .ok (.iconst 1, 1) := by decide +kernel
theorem dX11_read_37 : decode cX11_read 37 = .ok (.goto 4, 3) := by decide +kernel
theorem dX11_read_40 : decode cX11_read 40 = .ok (.iconst 0, 1) := by decide +kernel
theorem dX11_read_41 : decode cX11_read 41 = .ok (.istore_n 1, 1) := by decide +kernel
theorem dX11_read_42 : decode cX11_read 42 = .ok (.iload_n 1, 1) := by decide +kernel
theorem dX11_read_43 : decode cX11_read 43 = .ok (.ifCond .eq (-22), 3) := by decide +kernel
theorem dX11_read_46 : decode cX11_read 46 = .ok (.aload_n 0, 1) := by decide +kernel
theorem dX11_read_47 : decode cX11_read 47 = .ok (.invokevirtual 227, 3) := by decide +kernel
theorem dX11_read_50 : decode cX11_read 50 = .ok (.aload_n 0, 1) := by decide +kernel
theorem dX11_read_51 : decode cX11_read 51 = .ok (.getfield 221, 3) := by decide +kernel
theorem dX11_read_54 : decode cX11_read 54 = .ok (.aload_n 0, 1) := by decide +kernel
theorem dX11_read_55 : decode cX11_read 55 = .ok (.getfield 218, 3) := by decide +kernel
theorem dX11_read_58 : decode cX11_read 58 = .ok (.if_icmp .ge 7, 3) := by decide +kernel
theorem dX11_read_61 : decode cX11_read 61 = .ok (.iconst 1, 1) := by decide +kernel
theorem dX11_read_62 : decode cX11_read 62 = .ok (.goto 4, 3) := by decide +kernel
theorem dX11_read_65 : decode cX11_read 65 = .ok (.iconst 0, 1) := by decide +kernel
theorem dX11_read_66 : decode cX11_read 66 = .ok (.istore_n 1, 1) := by decide +kernel
theorem dX11_read_67 : decode cX11_read 67 = .ok (.goto (-46), 3) := by decide +kernel
theorem dX11_read_70 : decode cX11_read 70 = .ok (.aload_n 0, 1) := by decide +kernel
theorem dX11_read_71 : decode cX11_read 71 = .ok (.getfield 254, 3) := by decide +kernel
theorem dX11_read_74 : decode cX11_read 74 = .ok (.ifCond .eq 11, 3) := by decide +kernel
theorem dX11_read_77 : decode cX11_read 77 = .ok (.bipush (-10), 2) := by decide +kernel
theorem dX11_read_79 : decode cX11_read 79 = .ok (.aload_n 0, 1) := by decide +kernel
theorem dX11_read_80 : decode cX11_read 80 = .ok (.getfield 224, 3) := by decide +kernel
theorem dX11_read_83 : decode cX11_read 83 = .ok (.isub, 1) := by decide +kernel
theorem dX11_read_84 : decode cX11_read 84 = .ok (.ireturn, 1) := by decide +kernel
theorem dX11_read_85 : decode cX11_read 85 = .ok (.iconst 0, 1) := by decide +kernel
theorem dX11_read_86 : decode cX11_read 86 = .ok (.istore_n 2, 1) := by decide +kernel
theorem dX11_read_87 : decode cX11_read 87 = .ok (.iload_n 2, 1) := by decide +kernel
theorem dX11_read_88 : decode cX11_read 88 = .ok (.iconst 3, 1) := by decide +kernel
theorem dX11_read_89 : decode cX11_read 89 = .ok (.if_icmp .ge 21, 3) := by decide +kernel
theorem dX11_read_92 : decode cX11_read 92 = .ok (.aload_n 0, 1) := by decide +kernel
theorem dX11_read_93 : decode cX11_read 93 = .ok (.getfield 73, 3) := by decide +kernel
theorem dX11_read_96 : decode cX11_read 96 = .ok (.iload_n 2, 1) := by decide +kernel
theorem dX11_read_97 : decode cX11_read 97 = .ok (.aload_n 0, 1) := by decide +kernel
theorem dX11_read_98 : decode cX11_read 98 = .ok (.getfield 7, 3) := by decide +kernel
theorem dX11_read_101 : decode cX11_read 101 = .ok (.iload_n 2, 1) := by decide +kernel
theorem dX11_read_102 : decode cX11_read 102 = .ok (.iaload, 1) := by decide +kernel
theorem dX11_read_103 : decode cX11_read 103 = .ok (.iastore, 1) := by decide +kernel
theorem dX11_read_104 : decode cX11_read 104 = .ok (.iinc 2 1, 3) := by decide +kernel
theorem dX11_read_107 : decode cX11_read 107 = .ok (.goto (-20), 3) := by decide +kernel
theorem dX11_read_110 : decode cX11_read 110 = .ok (.aload_n 0, 1) := by decide +kernel
theorem dX11_read_111 : decode cX11_read 111 = .ok (.iconst 2, 1) := by decide +kernel
theorem dX11_read_112 : decode cX11_read 112 = .ok (.invokevirtual 291, 3) := by decide +kernel
theorem dX11_read_115 : decode cX11_read 115 = .ok (.iconst 0, 1) := by decide +kernel
theorem dX11_read_116 : decode cX11_read 116 = .ok (.istore_n 2, 1) := by decide +kernel
theorem dX11_read_117 : decode cX11_read 117 = .ok (.iload_n 2, 1) := by decide +kernel
theorem dX11_read_118 : decode cX11_read 118 = .ok (.aload_n 0, 1) := by decide +kernel
theorem dX11_read_119 : decode cX11_read 119 = .ok (.getfield 264, 3) := by decide +kernel
theorem dX11_read_122 : decode cX11_read 122 = .ok (.if_icmp .ge 17, 3) := by decide +kernel
theorem dX11_read_125 : decode cX11_read 125 = .ok (.aload_n 0, 1) := by decide +kernel
theorem dX11_read_126 : decode cX11_read 126 = .ok (.iload_n 2, 1) := by decide +kernel
theorem dX11_read_127 : decode cX11_read 127 = .ok (.invokevirtual 294, 3) := by decide +kernel
theorem dX11_read_130 : decode cX11_read 130 = .ok (.ifCond .eq 9, 3) := by decide +kernel
theorem dX11_read_133 : decode cX11_read 133 = .ok (.iinc 2 1, 3) := by decide +kernel
theorem dX11_read_136 : decode cX11_read 136 = .ok (.goto (-19), 3) := by decide +kernel
theorem dX11_read_139 : decode cX11_read 139 = .ok (.iconst 0, 1) := by decide +kernel
theorem dX11_read_140 : decode cX11_read 140 = .ok (.istore_n 3, 1) := by decide +kernel
theorem dX11_read_141 : decode cX11_read 141 = .ok (.iload_n 3, 1) := by decide +kernel
theorem dX11_read_142 : decode cX11_read 142 = .ok (.iconst 3, 1) := by decide +kernel
theorem dX11_read_143 : decode cX11_read 143 = .ok (.if_icmp .ge 21, 3) := by decide +kernel
theorem dX11_read_146 : decode cX11_read 146 = .ok (.aload_n 0, 1) := by decide +kernel
theorem dX11_read_147 : decode cX11_read 147 = .ok (.getfield 7, 3) := by decide +kernel
theorem dX11_read_150 : decode cX11_read 150 = .ok (.iload_n 3, 1) := by decide +kernel
theorem dX11_read_151 : decode cX11_read 151 = .ok (.aload_n 0, 1) := by decide +kernel
theorem dX11_read_152 : decode cX11_read 152 = .ok (.getfield 73, 3) := by decide +kernel
theorem dX11_read_155 : decode cX11_read 155 = .ok (.iload_n 3, 1) := by decide +kernel
theorem dX11_read_156 : decode cX11_read 156 = .ok (.iaload, 1) := by decide +kernel
theorem dX11_read_157 : decode cX11_read 157 = .ok (.iastore, 1) := by decide +kernel
theorem dX11_read_158 : decode cX11_read 158 = .ok (.iinc 3 1, 3) := by decide +kernel
theorem dX11_read_161 : decode cX11_read 161 = .ok (.goto (-20), 3) := by decide +kernel
theorem dX11_read_164 : decode cX11_read 164 = .ok (.iload_n 2, 1) := by decide +kernel
theorem dX11_read_165 : decode cX11_read 165 = .ok (.aload_n 0, 1) := by decide +kernel
theorem dX11_read_166 : decode cX11_read 166 = .ok (.getfield 264, 3) := by decide +kernel
theorem dX11_read_169 : decode cX11_read 169 = .ok (.if_icmp .ge 14, 3) := by decide +kernel
theorem dX11_read_172 : decode cX11_read 172 = .ok (.aload_n 0, 1) := by decide +kernel
theorem dX11_read_173 : decode cX11_read 173 = .ok (.iconst 2, 1) := by decide +kernel
theorem dX11_read_174 : decode cX11_read 174 = .ok (.invokevirtual 297, 3) := by decide +kernel
theorem dX11_read_177 : decode cX11_read 177 = .ok (.sipush (-1000), 3) := by decide +kernel
theorem dX11_read_180 : decode cX11_read 180 = .ok (.iload_n 2, 1) := by decide +kernel
theorem dX11_read_181 : decode cX11_read 181 = .ok (.isub, 1) := by decide +kernel
theorem dX11_read_182 : decode cX11_read 182 = .ok (.ireturn, 1) := by decide +kernel
theorem dX11_read_183 : decode cX11_read 183 = .ok (.aload_n 0, 1) := by decide +kernel
theorem dX11_read_184 : decode cX11_read 184 = .ok (.getfield 264, 3) := by decide +kernel
theorem dX11_read_187 : decode cX11_read 187 = .ok (.ireturn, 1) := by decide +kernel
theorem dX11_lay_0 : decode cX11_lay 0 = .ok (.iconst 0, 1) := by decide +kernel
theorem dX11_lay_1 : decode cX11_lay 1 = .ok (.istore 4, 2) := by decide +kernel
theorem dX11_lay_3 : decode cX11_lay 3 = .ok (.iload 4, 2) := by decide +kernel
theorem dX11_lay_5 : decode cX11_lay 5 = .ok (.iload_n 2, 1) := by decide +kernel
theorem dX11_lay_6 : decode cX11_lay 6 = .ok (.if_icmp .ge 22, 3) := by decide +kernel
theorem dX11_lay_9 : decode cX11_lay 9 = .ok (.aload_n 0, 1) := by decide +kernel
theorem dX11_lay_10 : decode cX11_lay 10 = .ok (.getfield 76, 3) := by decide +kernel
theorem dX11_lay_13 : decode cX11_lay 13 = .ok (.iload_n 3, 1) := by decide +kernel
theorem dX11_lay_14 : decode cX11_lay 14 = .ok (.iload 4, 2) := by decide +kernel
theorem dX11_lay_16 : decode cX11_lay 16 = .ok (.iadd, 1) := by decide +kernel
theorem dX11_lay_17 : decode cX11_lay 17 = .ok (.aload_n 1, 1) := by decide +kernel
theorem dX11_lay_18 : decode cX11_lay 18 = .ok (.iload 4, 2) := by decide +kernel
theorem dX11_lay_20 : decode cX11_lay 20 = .ok (.iaload, 1) := by decide +kernel
theorem dX11_lay_21 : decode cX11_lay 21 = .ok (.iastore, 1) := by decide +kernel
theorem dX11_lay_22 : decode cX11_lay 22 = .ok (.iinc 4 1, 3) := by decide +kernel
theorem dX11_lay_25 : decode cX11_lay 25 = .ok (.goto (-22), 3) := by decide +kernel
theorem dX11_lay_28 : decode cX11_lay 28 = .ok (.iload_n 3, 1) := by decide +kernel
theorem dX11_lay_29 : decode cX11_lay 29 = .ok (.iload_n 2, 1) := by decide +kernel
theorem dX11_lay_30 : decode cX11_lay 30 = .ok (.iadd, 1) := by decide +kernel
theorem dX11_lay_31 : decode cX11_lay 31 = .ok (.ireturn, 1) := by decide +kernel
theorem dX11_gives_0 : decode cX11_gives 0 = .ok (.iconst 0, 1) := by decide +kernel
theorem dX11_gives_1 : decode cX11_gives 1 = .ok (.istore 4, 2) := by decide +kernel
theorem dX11_gives_3 : decode cX11_gives 3 = .ok (.iload 4, 2) := by decide +kernel
theorem dX11_gives_5 : decode cX11_gives 5 = .ok (.iload_n 3, 1) := by decide +kernel
theorem dX11_gives_6 : decode cX11_gives 6 = .ok (.if_icmp .ge 22, 3) := by decide +kernel
theorem dX11_gives_9 : decode cX11_gives 9 = .ok (.aload_n 2, 1) := by decide +kernel
theorem dX11_gives_10 : decode cX11_gives 10 = .ok (.iload 4, 2) := by decide +kernel
theorem dX11_gives_12 : decode cX11_gives 12 = .ok (.aload_n 0, 1) := by decide +kernel
theorem dX11_gives_13 : decode cX11_gives 13 = .ok (.getfield 76, 3) := by decide +kernel
theorem dX11_gives_16 : decode cX11_gives 16 = .ok (.iload_n 1, 1) := by decide +kernel
theorem dX11_gives_17 : decode cX11_gives 17 = .ok (.iload 4, 2) := by decide +kernel
theorem dX11_gives_19 : decode cX11_gives 19 = .ok (.iadd, 1) := by decide +kernel
theorem dX11_gives_20 : decode cX11_gives 20 = .ok (.iaload, 1) := by decide +kernel
theorem dX11_gives_21 : decode cX11_gives 21 = .ok (.iastore, 1) := by decide +kernel
theorem dX11_gives_22 : decode cX11_gives 22 = .ok (.iinc 4 1, 3) := by decide +kernel
theorem dX11_gives_25 : decode cX11_gives 25 = .ok (.goto (-22), 3) := by decide +kernel
theorem dX11_gives_28 : decode cX11_gives 28 = .ok (.iload_n 1, 1) := by decide +kernel
theorem dX11_gives_29 : decode cX11_gives 29 = .ok (.iload_n 3, 1) := by decide +kernel
theorem dX11_gives_30 : decode cX11_gives 30 = .ok (.iadd, 1) := by decide +kernel
theorem dX11_gives_31 : decode cX11_gives 31 = .ok (.ireturn, 1) := by decide +kernel
theorem dX11_keeps_0 : decode cX11_keeps 0 = .ok (.bipush 72, 2) := by decide +kernel
theorem dX11_keeps_2 : decode cX11_keeps 2 = .ok (.iload_n 1, 1) := by decide +kernel
theorem dX11_keeps_3 : decode cX11_keeps 3 = .ok (.imul, 1) := by decide +kernel
theorem dX11_keeps_4 : decode cX11_keeps 4 = .ok (.istore_n 2, 1) := by decide +kernel
theorem dX11_keeps_5 : decode cX11_keeps 5 = .ok (.aload_n 0, 1) := by decide +kernel
theorem dX11_keeps_6 : decode cX11_keeps 6 = .ok (.getfield 76, 3) := by decide +kernel
theorem dX11_keeps_9 : decode cX11_keeps 9 = .ok (.iload_n 2, 1) := by decide +kernel
theorem dX11_keeps_10 : decode cX11_keeps 10 = .ok (.aload_n 0, 1) := by decide +kernel
theorem dX11_keeps_11 : decode cX11_keeps 11 = .ok (.getfield 93, 3) := by decide +kernel
theorem dX11_keeps_14 : decode cX11_keeps 14 = .ok (.iastore, 1) := by decide +kernel
theorem dX11_keeps_15 : decode cX11_keeps 15 = .ok (.aload_n 0, 1) := by decide +kernel
theorem dX11_keeps_16 : decode cX11_keeps 16 = .ok (.getfield 76, 3) := by decide +kernel
theorem dX11_keeps_19 : decode cX11_keeps 19 = .ok (.iload_n 2, 1) := by decide +kernel
theorem dX11_keeps_20 : decode cX11_keeps 20 = .ok (.iconst 1, 1) := by decide +kernel
theorem dX11_keeps_21 : decode cX11_keeps 21 = .ok (.iadd, 1) := by decide +kernel
theorem dX11_keeps_22 : decode cX11_keeps 22 = .ok (.aload_n 0, 1) := by decide +kernel
theorem dX11_keeps_23 : decode cX11_keeps 23 = .ok (.getfield 103, 3) := by decide +kernel
theorem dX11_keeps_26 : decode cX11_keeps 26 = .ok (.iastore, 1) := by decide +kernel
theorem dX11_keeps_27 : decode cX11_keeps 27 = .ok (.aload_n 0, 1) := by decide +kernel
theorem dX11_keeps_28 : decode cX11_keeps 28 = .ok (.getfield 76, 3) := by decide +kernel
theorem dX11_keeps_31 : decode cX11_keeps 31 = .ok (.iload_n 2, 1) := by decide +kernel
theorem dX11_keeps_32 : decode cX11_keeps 32 = .ok (.iconst 2, 1) := by decide +kernel
theorem dX11_keeps_33 : decode cX11_keeps 33 = .ok (.iadd, 1) := by decide +kernel
theorem dX11_keeps_34 : decode cX11_keeps 34 = .ok (.aload_n 0, 1) := by decide +kernel
theorem dX11_keeps_35 : decode cX11_keeps 35 = .ok (.getfield 106, 3) := by decide +kernel
theorem dX11_keeps_38 : decode cX11_keeps 38 = .ok (.iastore, 1) := by decide +kernel
theorem dX11_keeps_39 : decode cX11_keeps 39 = .ok (.aload_n 0, 1) := by decide +kernel
theorem dX11_keeps_40 : decode cX11_keeps 40 = .ok (.getfield 76, 3) := by decide +kernel
theorem dX11_keeps_43 : decode cX11_keeps 43 = .ok (.iload_n 2, 1) := by decide +kernel
theorem dX11_keeps_44 : decode cX11_keeps 44 = .ok (.iconst 3, 1) := by decide +kernel
theorem dX11_keeps_45 : decode cX11_keeps 45 = .ok (.iadd, 1) := by decide +kernel
theorem dX11_keeps_46 : decode cX11_keeps 46 = .ok (.aload_n 0, 1) := by decide +kernel
theorem dX11_keeps_47 : decode cX11_keeps 47 = .ok (.getfield 109, 3) := by decide +kernel
theorem dX11_keeps_50 : decode cX11_keeps 50 = .ok (.iastore, 1) := by decide +kernel
theorem dX11_keeps_51 : decode cX11_keeps 51 = .ok (.aload_n 0, 1) := by decide +kernel
theorem dX11_keeps_52 : decode cX11_keeps 52 = .ok (.getfield 76, 3) := by decide +kernel
theorem dX11_keeps_55 : decode cX11_keeps 55 = .ok (.iload_n 2, 1) := by decide +kernel
theorem dX11_keeps_56 : decode cX11_keeps 56 = .ok (.iconst 4, 1) := by decide +kernel
theorem dX11_keeps_57 : decode cX11_keeps 57 = .ok (.iadd, 1) := by decide +kernel
theorem dX11_keeps_58 : decode cX11_keeps 58 = .ok (.aload_n 0, 1) := by decide +kernel
theorem dX11_keeps_59 : decode cX11_keeps 59 = .ok (.getfield 112, 3) := by decide +kernel
theorem dX11_keeps_62 : decode cX11_keeps 62 = .ok (.iastore, 1) := by decide +kernel
theorem dX11_keeps_63 : decode cX11_keeps 63 = .ok (.aload_n 0, 1) := by decide +kernel
theorem dX11_keeps_64 : decode cX11_keeps 64 = .ok (.getfield 76, 3) := by decide +kernel
theorem dX11_keeps_67 : decode cX11_keeps 67 = .ok (.iload_n 2, 1) := by decide +kernel
theorem dX11_keeps_68 : decode cX11_keeps 68 = .ok (.iconst 5, 1) := by decide +kernel
theorem dX11_keeps_69 : decode cX11_keeps 69 = .ok (.iadd, 1) := by decide +kernel
theorem dX11_keeps_70 : decode cX11_keeps 70 = .ok (.aload_n 0, 1) := by decide +kernel
theorem dX11_keeps_71 : decode cX11_keeps 71 = .ok (.getfield 115, 3) := by decide +kernel
theorem dX11_keeps_74 : decode cX11_keeps 74 = .ok (.iastore, 1) := by decide +kernel
theorem dX11_keeps_75 : decode cX11_keeps 75 = .ok (.aload_n 0, 1) := by decide +kernel
theorem dX11_keeps_76 : decode cX11_keeps 76 = .ok (.aload_n 0, 1) := by decide +kernel
theorem dX11_keeps_77 : decode cX11_keeps 77 = .ok (.getfield 13, 3) := by decide +kernel
theorem dX11_keeps_80 : decode cX11_keeps 80 = .ok (.bipush 7, 2) := by decide +kernel
theorem dX11_keeps_82 : decode cX11_keeps 82 = .ok (.iload_n 2, 1) := by decide +kernel
theorem dX11_keeps_83 : decode cX11_keeps 83 = .ok (.bipush 6, 2) := by decide +kernel
theorem dX11_keeps_85 : decode cX11_keeps 85 = .ok (.iadd, 1) := by decide +kernel
theorem dX11_keeps_86 : decode cX11_keeps 86 = .ok (.invokevirtual 300, 3) := by decide +kernel
theorem dX11_keeps_89 : decode cX11_keeps 89 = .ok (.istore_n 2, 1) := by decide +kernel
theorem dX11_keeps_90 : decode cX11_keeps 90 = .ok (.aload_n 0, 1) := by decide +kernel
theorem dX11_keeps_91 : decode cX11_keeps 91 = .ok (.aload_n 0, 1) := by decide +kernel
theorem dX11_keeps_92 : decode cX11_keeps 92 = .ok (.getfield 16, 3) := by decide +kernel
theorem dX11_keeps_95 : decode cX11_keeps 95 = .ok (.bipush 7, 2) := by decide +kernel
theorem dX11_keeps_97 : decode cX11_keeps 97 = .ok (.iload_n 2, 1) := by decide +kernel
theorem dX11_keeps_98 : decode cX11_keeps 98 = .ok (.invokevirtual 300, 3) := by decide +kernel
theorem dX11_keeps_101 : decode cX11_keeps 101 = .ok (.istore_n 2, 1) := by decide +kernel
theorem dX11_keeps_102 : decode cX11_keeps 102 = .ok (.aload_n 0, 1) := by decide +kernel
theorem dX11_keeps_103 : decode cX11_keeps 103 = .ok (.aload_n 0, 1) := by decide +kernel
theorem dX11_keeps_104 : decode cX11_keeps 104 = .ok (.getfield 19, 3) := by decide +kernel
theorem dX11_keeps_107 : decode cX11_keeps 107 = .ok (.bipush 7, 2) := by decide +kernel
theorem dX11_keeps_109 : decode cX11_keeps 109 = .ok (.iload_n 2, 1) := by decide +kernel
theorem dX11_keeps_110 : decode cX11_keeps 110 = .ok (.invokevirtual 300, 3) := by decide +kernel
theorem dX11_keeps_113 : decode cX11_keeps 113 = .ok (.istore_n 2, 1) := by decide +kernel
theorem dX11_keeps_114 : decode cX11_keeps 114 = .ok (.aload_n 0, 1) := by decide +kernel
theorem dX11_keeps_115 : decode cX11_keeps 115 = .ok (.aload_n 0, 1) := by decide +kernel
theorem dX11_keeps_116 : decode cX11_keeps 116 = .ok (.getfield 22, 3) := by decide +kernel
theorem dX11_keeps_119 : decode cX11_keeps 119 = .ok (.bipush 7, 2) := by decide +kernel
theorem dX11_keeps_121 : decode cX11_keeps 121 = .ok (.iload_n 2, 1) := by decide +kernel
theorem dX11_keeps_122 : decode cX11_keeps 122 = .ok (.invokevirtual 300, 3) := by decide +kernel
theorem dX11_keeps_125 : decode cX11_keeps 125 = .ok (.istore_n 2, 1) := by decide +kernel
theorem dX11_keeps_126 : decode cX11_keeps 126 = .ok (.aload_n 0, 1) := by decide +kernel
theorem dX11_keeps_127 : decode cX11_keeps 127 = .ok (.aload_n 0, 1) := by decide +kernel
theorem dX11_keeps_128 : decode cX11_keeps 128 = .ok (.getfield 25, 3) := by decide +kernel
theorem dX11_keeps_131 : decode cX11_keeps 131 = .ok (.bipush 7, 2) := by decide +kernel
theorem dX11_keeps_133 : decode cX11_keeps 133 = .ok (.iload_n 2, 1) := by decide +kernel
theorem dX11_keeps_134 : decode cX11_keeps 134 = .ok (.invokevirtual 300, 3) := by decide +kernel
theorem dX11_keeps_137 : decode cX11_keeps 137 = .ok (.istore_n 2, 1) := by decide +kernel
theorem dX11_keeps_138 : decode cX11_keeps 138 = .ok (.aload_n 0, 1) := by decide +kernel
theorem dX11_keeps_139 : decode cX11_keeps 139 = .ok (.aload_n 0, 1) := by decide +kernel
theorem dX11_keeps_140 : decode cX11_keeps 140 = .ok (.getfield 43, 3) := by decide +kernel
theorem dX11_keeps_143 : decode cX11_keeps 143 = .ok (.bipush 7, 2) := by decide +kernel
theorem dX11_keeps_145 : decode cX11_keeps 145 = .ok (.iload_n 2, 1) := by decide +kernel
theorem dX11_keeps_146 : decode cX11_keeps 146 = .ok (.invokevirtual 300, 3) := by decide +kernel
theorem dX11_keeps_149 : decode cX11_keeps 149 = .ok (.istore_n 2, 1) := by decide +kernel
theorem dX11_keeps_150 : decode cX11_keeps 150 = .ok (.aload_n 0, 1) := by decide +kernel
theorem dX11_keeps_151 : decode cX11_keeps 151 = .ok (.aload_n 0, 1) := by decide +kernel
theorem dX11_keeps_152 : decode cX11_keeps 152 = .ok (.getfield 28, 3) := by decide +kernel
theorem dX11_keeps_155 : decode cX11_keeps 155 = .ok (.bipush 6, 2) := by decide +kernel
theorem dX11_keeps_157 : decode cX11_keeps 157 = .ok (.iload_n 2, 1) := by decide +kernel
theorem dX11_keeps_158 : decode cX11_keeps 158 = .ok (.invokevirtual 300, 3) := by decide +kernel
theorem dX11_keeps_161 : decode cX11_keeps 161 = .ok (.istore_n 2, 1) := by decide +kernel
theorem dX11_keeps_162 : decode cX11_keeps 162 = .ok (.aload_n 0, 1) := by decide +kernel
theorem dX11_keeps_163 : decode cX11_keeps 163 = .ok (.aload_n 0, 1) := by decide +kernel
theorem dX11_keeps_164 : decode cX11_keeps 164 = .ok (.getfield 31, 3) := by decide +kernel
theorem dX11_keeps_167 : decode cX11_keeps 167 = .ok (.bipush 6, 2) := by decide +kernel
theorem dX11_keeps_169 : decode cX11_keeps 169 = .ok (.iload_n 2, 1) := by decide +kernel
theorem dX11_keeps_170 : decode cX11_keeps 170 = .ok (.invokevirtual 300, 3) := by decide +kernel
theorem dX11_keeps_173 : decode cX11_keeps 173 = .ok (.istore_n 2, 1) := by decide +kernel
theorem dX11_keeps_174 : decode cX11_keeps 174 = .ok (.aload_n 0, 1) := by decide +kernel
theorem dX11_keeps_175 : decode cX11_keeps 175 = .ok (.aload_n 0, 1) := by decide +kernel
theorem dX11_keeps_176 : decode cX11_keeps 176 = .ok (.getfield 34, 3) := by decide +kernel
theorem dX11_keeps_179 : decode cX11_keeps 179 = .ok (.bipush 6, 2) := by decide +kernel
theorem dX11_keeps_181 : decode cX11_keeps 181 = .ok (.iload_n 2, 1) := by decide +kernel
theorem dX11_keeps_182 : decode cX11_keeps 182 = .ok (.invokevirtual 300, 3) := by decide +kernel
theorem dX11_keeps_185 : decode cX11_keeps 185 = .ok (.istore_n 2, 1) := by decide +kernel
theorem dX11_keeps_186 : decode cX11_keeps 186 = .ok (.aload_n 0, 1) := by decide +kernel
theorem dX11_keeps_187 : decode cX11_keeps 187 = .ok (.aload_n 0, 1) := by decide +kernel
theorem dX11_keeps_188 : decode cX11_keeps 188 = .ok (.getfield 37, 3) := by decide +kernel
theorem dX11_keeps_191 : decode cX11_keeps 191 = .ok (.bipush 6, 2) := by decide +kernel
theorem dX11_keeps_193 : decode cX11_keeps 193 = .ok (.iload_n 2, 1) := by decide +kernel
theorem dX11_keeps_194 : decode cX11_keeps 194 = .ok (.invokevirtual 300, 3) := by decide +kernel
theorem dX11_keeps_197 : decode cX11_keeps 197 = .ok (.pop, 1) := by decide +kernel
theorem dX11_keeps_198 : decode cX11_keeps 198 = .ok (.aload_n 0, 1) := by decide +kernel
theorem dX11_keeps_199 : decode cX11_keeps 199 = .ok (.iload_n 1, 1) := by decide +kernel
theorem dX11_keeps_200 : decode cX11_keeps 200 = .ok (.iconst 1, 1) := by decide +kernel
theorem dX11_keeps_201 : decode cX11_keeps 201 = .ok (.invokevirtual 304, 3) := by decide +kernel
theorem dX11_keeps_204 : decode cX11_keeps 204 = .ok (.return_, 1) := by decide +kernel
theorem dX11_toldAside_0 : decode cX11_toldAside 0 = .ok (.iconst 0, 1) := by decide +kernel
theorem dX11_toldAside_1 : decode cX11_toldAside 1 = .ok (.istore_n 3, 1) := by decide +kernel
theorem dX11_toldAside_2 : decode cX11_toldAside 2 = .ok (.iload_n 3, 1) := by decide +kernel
theorem dX11_toldAside_3 : decode cX11_toldAside 3 = .ok (.iconst 3, 1) := by decide +kernel
theorem dX11_toldAside_4 : decode cX11_toldAside 4 = .ok (.if_icmp .ge 48, 3) := by decide +kernel
theorem dX11_toldAside_7 : decode cX11_toldAside 7 = .ok (.iload_n 2, 1) := by decide +kernel
theorem dX11_toldAside_8 : decode cX11_toldAside 8 = .ok (.ifCond .eq 22, 3) := by decide +kernel
theorem dX11_toldAside_11 : decode cX11_toldAside 11 = .ok (.aload_n 0, 1) := by decide +kernel
theorem dX11_toldAside_12 : decode cX11_toldAside 12 = .ok (.getfield 79, 3) := by decide +kernel
theorem dX11_toldAside_15 : decode cX11_toldAside 15 = .ok (.iconst 3, 1) := by decide +kernel
theorem dX11_toldAside_16 : decode cX11_toldAside 16 = .ok (.iload_n 1, 1) := by decide +kernel
theorem dX11_toldAside_17 : decode cX11_toldAside 17 = .ok (.imul, 1) := by decide +kernel
theorem dX11_toldAside_18 : decode cX11_toldAside 18 = .ok (.iload_n 3, 1) := by decide +kernel
theorem dX11_toldAside_19 : decode cX11_toldAside 19 = .ok (.iadd, 1) := by decide +kernel
theorem dX11_toldAside_20 : decode cX11_toldAside 20 = .ok (.aload_n 0, 1) := by decide +kernel
theorem dX11_toldAside_21 : decode cX11_toldAside 21 = .ok (.getfield 40, 3) := by decide +kernel
theorem dX11_toldAside_24 : decode cX11_toldAside 24 = .ok (.iload_n 3, 1) := by decide +kernel
theorem dX11_toldAside_25 : decode cX11_toldAside 25 = .ok (.iaload, 1) := by decide +kernel
theorem dX11_toldAside_26 : decode cX11_toldAside 26 = .ok (.iastore, 1) := by decide +kernel
theorem dX11_toldAside_27 : decode cX11_toldAside 27 = .ok (.goto 19, 3) := by decide +kernel
theorem dX11_toldAside_30 : decode cX11_toldAside 30 = .ok (.aload_n 0, 1) := by decide +kernel
theorem dX11_toldAside_31 : decode cX11_toldAside 31 = .ok (.getfield 40, 3) := by decide +kernel
theorem dX11_toldAside_34 : decode cX11_toldAside 34 = .ok (.iload_n 3, 1) := by decide +kernel
theorem dX11_toldAside_35 : decode cX11_toldAside 35 = .ok (.aload_n 0, 1) := by decide +kernel
theorem dX11_toldAside_36 : decode cX11_toldAside 36 = .ok (.getfield 79, 3) := by decide +kernel
theorem dX11_toldAside_39 : decode cX11_toldAside 39 = .ok (.iconst 3, 1) := by decide +kernel
theorem dX11_toldAside_40 : decode cX11_toldAside 40 = .ok (.iload_n 1, 1) := by decide +kernel
theorem dX11_toldAside_41 : decode cX11_toldAside 41 = .ok (.imul, 1) := by decide +kernel
theorem dX11_toldAside_42 : decode cX11_toldAside 42 = .ok (.iload_n 3, 1) := by decide +kernel
theorem dX11_toldAside_43 : decode cX11_toldAside 43 = .ok (.iadd, 1) := by decide +kernel
theorem dX11_toldAside_44 : decode cX11_toldAside 44 = .ok (.iaload, 1) := by decide +kernel
theorem dX11_toldAside_45 : decode cX11_toldAside 45 = .ok (.iastore, 1) := by decide +kernel
theorem dX11_toldAside_46 : decode cX11_toldAside 46 = .ok (.iinc 3 1, 3) := by decide +kernel
theorem dX11_toldAside_49 : decode cX11_toldAside 49 = .ok (.goto (-47), 3) := by decide +kernel
theorem dX11_toldAside_52 : decode cX11_toldAside 52 = .ok (.return_, 1) := by decide +kernel
theorem dX11_goesOn_0 : decode cX11_goesOn 0 = .ok (.bipush 72, 2) := by decide +kernel
theorem dX11_goesOn_2 : decode cX11_goesOn 2 = .ok (.iload_n 1, 1) := by decide +kernel
theorem dX11_goesOn_3 : decode cX11_goesOn 3 = .ok (.imul, 1) := by decide +kernel
theorem dX11_goesOn_4 : decode cX11_goesOn 4 = .ok (.istore_n 2, 1) := by decide +kernel
theorem dX11_goesOn_5 : decode cX11_goesOn 5 = .ok (.aload_n 0, 1) := by decide +kernel
theorem dX11_goesOn_6 : decode cX11_goesOn 6 = .ok (.aload_n 0, 1) := by decide +kernel
theorem dX11_goesOn_7 : decode cX11_goesOn 7 = .ok (.getfield 76, 3) := by decide +kernel
theorem dX11_goesOn_10 : decode cX11_goesOn 10 = .ok (.iload_n 2, 1) := by decide +kernel
theorem dX11_goesOn_11 : decode cX11_goesOn 11 = .ok (.iaload, 1) := by decide +kernel
theorem dX11_goesOn_12 : decode cX11_goesOn 12 = .ok (.putfield 93, 3) := by decide +kernel
theorem dX11_goesOn_15 : decode cX11_goesOn 15 = .ok (.aload_n 0, 1) := by decide +kernel
theorem dX11_goesOn_16 : decode cX11_goesOn 16 = .ok (.aload_n 0, 1) := by decide +kernel
theorem dX11_goesOn_17 : decode cX11_goesOn 17 = .ok (.getfield 76, 3) := by decide +kernel
theorem dX11_goesOn_20 : decode cX11_goesOn 20 = .ok (.iload_n 2, 1) := by decide +kernel
theorem dX11_goesOn_21 : decode cX11_goesOn 21 = .ok (.iconst 1, 1) := by decide +kernel
theorem dX11_goesOn_22 : decode cX11_goesOn 22 = .ok (.iadd, 1) := by decide +kernel
theorem dX11_goesOn_23 : decode cX11_goesOn 23 = .ok (.iaload, 1) := by decide +kernel
theorem dX11_goesOn_24 : decode cX11_goesOn 24 = .ok (.putfield 103, 3) := by decide +kernel
theorem dX11_goesOn_27 : decode cX11_goesOn 27 = .ok (.aload_n 0, 1) := by decide +kernel
theorem dX11_goesOn_28 : decode cX11_goesOn 28 = .ok (.aload_n 0, 1) := by decide +kernel
theorem dX11_goesOn_29 : decode cX11_goesOn 29 = .ok (.getfield 76, 3) := by decide +kernel
theorem dX11_goesOn_32 : decode cX11_goesOn 32 = .ok (.iload_n 2, 1) := by decide +kernel
theorem dX11_goesOn_33 : decode cX11_goesOn 33 = .ok (.iconst 2, 1) := by decide +kernel
theorem dX11_goesOn_34 : decode cX11_goesOn 34 = .ok (.iadd, 1) := by decide +kernel
theorem dX11_goesOn_35 : decode cX11_goesOn 35 = .ok (.iaload, 1) := by decide +kernel
theorem dX11_goesOn_36 : decode cX11_goesOn 36 = .ok (.putfield 106, 3) := by decide +kernel
theorem dX11_goesOn_39 : decode cX11_goesOn 39 = .ok (.aload_n 0, 1) := by decide +kernel
theorem dX11_goesOn_40 : decode cX11_goesOn 40 = .ok (.aload_n 0, 1) := by decide +kernel
theorem dX11_goesOn_41 : decode cX11_goesOn 41 = .ok (.getfield 76, 3) := by decide +kernel
theorem dX11_goesOn_44 : decode cX11_goesOn 44 = .ok (.iload_n 2, 1) := by decide +kernel
theorem dX11_goesOn_45 : decode cX11_goesOn 45 = .ok (.iconst 3, 1) := by decide +kernel
theorem dX11_goesOn_46 : decode cX11_goesOn 46 = .ok (.iadd, 1) := by decide +kernel
theorem dX11_goesOn_47 : decode cX11_goesOn 47 = .ok (.iaload, 1) := by decide +kernel
theorem dX11_goesOn_48 : decode cX11_goesOn 48 = .ok (.putfield 109, 3) := by decide +kernel
theorem dX11_goesOn_51 : decode cX11_goesOn 51 = .ok (.aload_n 0, 1) := by decide +kernel
theorem dX11_goesOn_52 : decode cX11_goesOn 52 = .ok (.aload_n 0, 1) := by decide +kernel
theorem dX11_goesOn_53 : decode cX11_goesOn 53 = .ok (.getfield 76, 3) := by decide +kernel
theorem dX11_goesOn_56 : decode cX11_goesOn 56 = .ok (.iload_n 2, 1) := by decide +kernel
theorem dX11_goesOn_57 : decode cX11_goesOn 57 = .ok (.iconst 4, 1) := by decide +kernel
theorem dX11_goesOn_58 : decode cX11_goesOn 58 = .ok (.iadd, 1) := by decide +kernel
theorem dX11_goesOn_59 : decode cX11_goesOn 59 = .ok (.iaload, 1) := by decide +kernel
theorem dX11_goesOn_60 : decode cX11_goesOn 60 = .ok (.putfield 112, 3) := by decide +kernel
theorem dX11_goesOn_63 : decode cX11_goesOn 63 = .ok (.aload_n 0, 1) := by decide +kernel
theorem dX11_goesOn_64 : decode cX11_goesOn 64 = .ok (.aload_n 0, 1) := by decide +kernel
theorem dX11_goesOn_65 : decode cX11_goesOn 65 = .ok (.getfield 76, 3) := by decide +kernel
theorem dX11_goesOn_68 : decode cX11_goesOn 68 = .ok (.iload_n 2, 1) := by decide +kernel
theorem dX11_goesOn_69 : decode cX11_goesOn 69 = .ok (.iconst 5, 1) := by decide +kernel
theorem dX11_goesOn_70 : decode cX11_goesOn 70 = .ok (.iadd, 1) := by decide +kernel
theorem dX11_goesOn_71 : decode cX11_goesOn 71 = .ok (.iaload, 1) := by decide +kernel
theorem dX11_goesOn_72 : decode cX11_goesOn 72 = .ok (.putfield 115, 3) := by decide +kernel
theorem dX11_goesOn_75 : decode cX11_goesOn 75 = .ok (.aload_n 0, 1) := by decide +kernel
theorem dX11_goesOn_76 : decode cX11_goesOn 76 = .ok (.iload_n 2, 1) := by decide +kernel
theorem dX11_goesOn_77 : decode cX11_goesOn 77 = .ok (.bipush 6, 2) := by decide +kernel
theorem dX11_goesOn_79 : decode cX11_goesOn 79 = .ok (.iadd, 1) := by decide +kernel
theorem dX11_goesOn_80 : decode cX11_goesOn 80 = .ok (.aload_n 0, 1) := by decide +kernel
theorem dX11_goesOn_81 : decode cX11_goesOn 81 = .ok (.getfield 13, 3) := by decide +kernel
theorem dX11_goesOn_84 : decode cX11_goesOn 84 = .ok (.bipush 7, 2) := by decide +kernel
theorem dX11_goesOn_86 : decode cX11_goesOn 86 = .ok (.invokevirtual 308, 3) := by decide +kernel
theorem dX11_goesOn_89 : decode cX11_goesOn 89 = .ok (.istore_n 2, 1) := by decide +kernel
theorem dX11_goesOn_90 : decode cX11_goesOn 90 = .ok (.aload_n 0, 1) := by decide +kernel
theorem dX11_goesOn_91 : decode cX11_goesOn 91 = .ok (.iload_n 2, 1) := by decide +kernel
theorem dX11_goesOn_92 : decode cX11_goesOn 92 = .ok (.aload_n 0, 1) := by decide +kernel
theorem dX11_goesOn_93 : decode cX11_goesOn 93 = .ok (.getfield 16, 3) := by decide +kernel
theorem dX11_goesOn_96 : decode cX11_goesOn 96 = .ok (.bipush 7, 2) := by decide +kernel
theorem dX11_goesOn_98 : decode cX11_goesOn 98 = .ok (.invokevirtual 308, 3) := by decide +kernel
theorem dX11_goesOn_101 : decode cX11_goesOn 101 = .ok (.istore_n 2, 1) := by decide +kernel
theorem dX11_goesOn_102 : decode cX11_goesOn 102 = .ok (.aload_n 0, 1) := by decide +kernel
theorem dX11_goesOn_103 : decode cX11_goesOn 103 = .ok (.iload_n 2, 1) := by decide +kernel
theorem dX11_goesOn_104 : decode cX11_goesOn 104 = .ok (.aload_n 0, 1) := by decide +kernel
theorem dX11_goesOn_105 : decode cX11_goesOn 105 = .ok (.getfield 19, 3) := by decide +kernel
theorem dX11_goesOn_108 : decode cX11_goesOn 108 = .ok (.bipush 7, 2) := by decide +kernel
theorem dX11_goesOn_110 : decode cX11_goesOn 110 = .ok (.invokevirtual 308, 3) := by decide +kernel
theorem dX11_goesOn_113 : decode cX11_goesOn 113 = .ok (.istore_n 2, 1) := by decide +kernel
theorem dX11_goesOn_114 : decode cX11_goesOn 114 = .ok (.aload_n 0, 1) := by decide +kernel
theorem dX11_goesOn_115 : decode cX11_goesOn 115 = .ok (.iload_n 2, 1) := by decide +kernel
theorem dX11_goesOn_116 : decode cX11_goesOn 116 = .ok (.aload_n 0, 1) := by decide +kernel
theorem dX11_goesOn_117 : decode cX11_goesOn 117 = .ok (.getfield 22, 3) := by decide +kernel
theorem dX11_goesOn_120 : decode cX11_goesOn 120 = .ok (.bipush 7, 2) := by decide +kernel
theorem dX11_goesOn_122 : decode cX11_goesOn 122 = .ok (.invokevirtual 308, 3) := by decide +kernel
theorem dX11_goesOn_125 : decode cX11_goesOn 125 = .ok (.istore_n 2, 1) := by decide +kernel
theorem dX11_goesOn_126 : decode cX11_goesOn 126 = .ok (.aload_n 0, 1) := by decide +kernel
theorem dX11_goesOn_127 : decode cX11_goesOn 127 = .ok (.iload_n 2, 1) := by decide +kernel
theorem dX11_goesOn_128 : decode cX11_goesOn 128 = .ok (.aload_n 0, 1) := by decide +kernel
theorem dX11_goesOn_129 : decode cX11_goesOn 129 = .ok (.getfield 25, 3) := by decide +kernel
theorem dX11_goesOn_132 : decode cX11_goesOn 132 = .ok (.bipush 7, 2) := by decide +kernel
theorem dX11_goesOn_134 : decode cX11_goesOn 134 = .ok (.invokevirtual 308, 3) := by decide +kernel
theorem dX11_goesOn_137 : decode cX11_goesOn 137 = .ok (.istore_n 2, 1) := by decide +kernel
theorem dX11_goesOn_138 : decode cX11_goesOn 138 = .ok (.aload_n 0, 1) := by decide +kernel
theorem dX11_goesOn_139 : decode cX11_goesOn 139 = .ok (.iload_n 2, 1) := by decide +kernel
theorem dX11_goesOn_140 : decode cX11_goesOn 140 = .ok (.aload_n 0, 1) := by decide +kernel
theorem dX11_goesOn_141 : decode cX11_goesOn 141 = .ok (.getfield 43, 3) := by decide +kernel
theorem dX11_goesOn_144 : decode cX11_goesOn 144 = .ok (.bipush 7, 2) := by decide +kernel
theorem dX11_goesOn_146 : decode cX11_goesOn 146 = .ok (.invokevirtual 308, 3) := by decide +kernel
theorem dX11_goesOn_149 : decode cX11_goesOn 149 = .ok (.istore_n 2, 1) := by decide +kernel
theorem dX11_goesOn_150 : decode cX11_goesOn 150 = .ok (.aload_n 0, 1) := by decide +kernel
theorem dX11_goesOn_151 : decode cX11_goesOn 151 = .ok (.iload_n 2, 1) := by decide +kernel
theorem dX11_goesOn_152 : decode cX11_goesOn 152 = .ok (.aload_n 0, 1) := by decide +kernel
theorem dX11_goesOn_153 : decode cX11_goesOn 153 = .ok (.getfield 28, 3) := by decide +kernel
theorem dX11_goesOn_156 : decode cX11_goesOn 156 = .ok (.bipush 6, 2) := by decide +kernel
theorem dX11_goesOn_158 : decode cX11_goesOn 158 = .ok (.invokevirtual 308, 3) := by decide +kernel
theorem dX11_goesOn_161 : decode cX11_goesOn 161 = .ok (.istore_n 2, 1) := by decide +kernel
theorem dX11_goesOn_162 : decode cX11_goesOn 162 = .ok (.aload_n 0, 1) := by decide +kernel
theorem dX11_goesOn_163 : decode cX11_goesOn 163 = .ok (.iload_n 2, 1) := by decide +kernel
theorem dX11_goesOn_164 : decode cX11_goesOn 164 = .ok (.aload_n 0, 1) := by decide +kernel
theorem dX11_goesOn_165 : decode cX11_goesOn 165 = .ok (.getfield 31, 3) := by decide +kernel
theorem dX11_goesOn_168 : decode cX11_goesOn 168 = .ok (.bipush 6, 2) := by decide +kernel
theorem dX11_goesOn_170 : decode cX11_goesOn 170 = .ok (.invokevirtual 308, 3) := by decide +kernel
theorem dX11_goesOn_173 : decode cX11_goesOn 173 = .ok (.istore_n 2, 1) := by decide +kernel
theorem dX11_goesOn_174 : decode cX11_goesOn 174 = .ok (.aload_n 0, 1) := by decide +kernel
theorem dX11_goesOn_175 : decode cX11_goesOn 175 = .ok (.iload_n 2, 1) := by decide +kernel
theorem dX11_goesOn_176 : decode cX11_goesOn 176 = .ok (.aload_n 0, 1) := by decide +kernel
theorem dX11_goesOn_177 : decode cX11_goesOn 177 = .ok (.getfield 34, 3) := by decide +kernel
theorem dX11_goesOn_180 : decode cX11_goesOn 180 = .ok (.bipush 6, 2) := by decide +kernel
theorem dX11_goesOn_182 : decode cX11_goesOn 182 = .ok (.invokevirtual 308, 3) := by decide +kernel
theorem dX11_goesOn_185 : decode cX11_goesOn 185 = .ok (.istore_n 2, 1) := by decide +kernel
theorem dX11_goesOn_186 : decode cX11_goesOn 186 = .ok (.aload_n 0, 1) := by decide +kernel
theorem dX11_goesOn_187 : decode cX11_goesOn 187 = .ok (.iload_n 2, 1) := by decide +kernel
theorem dX11_goesOn_188 : decode cX11_goesOn 188 = .ok (.aload_n 0, 1) := by decide +kernel
theorem dX11_goesOn_189 : decode cX11_goesOn 189 = .ok (.getfield 37, 3) := by decide +kernel
theorem dX11_goesOn_192 : decode cX11_goesOn 192 = .ok (.bipush 6, 2) := by decide +kernel
theorem dX11_goesOn_194 : decode cX11_goesOn 194 = .ok (.invokevirtual 308, 3) := by decide +kernel
theorem dX11_goesOn_197 : decode cX11_goesOn 197 = .ok (.pop, 1) := by decide +kernel
theorem dX11_goesOn_198 : decode cX11_goesOn 198 = .ok (.aload_n 0, 1) := by decide +kernel
theorem dX11_goesOn_199 : decode cX11_goesOn 199 = .ok (.iload_n 1, 1) := by decide +kernel
theorem dX11_goesOn_200 : decode cX11_goesOn 200 = .ok (.iconst 0, 1) := by decide +kernel
theorem dX11_goesOn_201 : decode cX11_goesOn 201 = .ok (.invokevirtual 304, 3) := by decide +kernel
theorem dX11_goesOn_204 : decode cX11_goesOn 204 = .ok (.return_, 1) := by decide +kernel
theorem dX11_image_0 : decode cX11_image 0 = .ok (.iload_n 1, 1) := by decide +kernel
theorem dX11_image_1 : decode cX11_image 1 = .ok (.i2l, 1) := by decide +kernel
theorem dX11_image_2 : decode cX11_image 2 = .ok (.lconst 0, 1) := by decide +kernel
theorem dX11_image_3 : decode cX11_image 3 = .ok (.lconst 1, 1) := by decide +kernel
theorem dX11_image_4 : decode cX11_image 4 = .ok (.invokestatic 97, 3) := by decide +kernel
theorem dX11_image_7 : decode cX11_image 7 = .ok (.ifCond .ne 10, 3) := by decide +kernel
theorem dX11_image_10 : decode cX11_image 10 = .ok (.aload_n 0, 1) := by decide +kernel
theorem dX11_image_11 : decode cX11_image 11 = .ok (.bipush (-2), 2) := by decide +kernel
theorem dX11_image_13 : decode cX11_image 13 = .ok (.invokevirtual 120, 3) := by decide +kernel
theorem dX11_image_16 : decode cX11_image 16 = .ok (.ireturn, 1) := by decide +kernel
theorem dX11_image_17 : decode cX11_image 17 = .ok (.aload_n 0, 1) := by decide +kernel
theorem dX11_image_18 : decode cX11_image 18 = .ok (.iload_n 1, 1) := by decide +kernel
theorem dX11_image_19 : decode cX11_image 19 = .ok (.invokevirtual 291, 3) := by decide +kernel
theorem dX11_image_22 : decode cX11_image 22 = .ok (.iconst 1, 1) := by decide +kernel
theorem dX11_image_23 : decode cX11_image 23 = .ok (.ireturn, 1) := by decide +kernel
theorem dX11_from_0 : decode cX11_from 0 = .ok (.iload_n 1, 1) := by decide +kernel
theorem dX11_from_1 : decode cX11_from 1 = .ok (.i2l, 1) := by decide +kernel
theorem dX11_from_2 : decode cX11_from 2 = .ok (.lconst 0, 1) := by decide +kernel
theorem dX11_from_3 : decode cX11_from 3 = .ok (.lconst 1, 1) := by decide +kernel
theorem dX11_from_4 : decode cX11_from 4 = .ok (.invokestatic 97, 3) := by decide +kernel
theorem dX11_from_7 : decode cX11_from 7 = .ok (.ifCond .ne 10, 3) := by decide +kernel
theorem dX11_from_10 : decode cX11_from 10 = .ok (.aload_n 0, 1) := by decide +kernel
theorem dX11_from_11 : decode cX11_from 11 = .ok (.bipush (-2), 2) := by decide +kernel
theorem dX11_from_13 : decode cX11_from 13 = .ok (.invokevirtual 120, 3) := by decide +kernel
theorem dX11_from_16 : decode cX11_from 16 = .ok (.ireturn, 1) := by decide +kernel
theorem dX11_from_17 : decode cX11_from 17 = .ok (.aload_n 0, 1) := by decide +kernel
theorem dX11_from_18 : decode cX11_from 18 = .ok (.getfield 76, 3) := by decide +kernel
theorem dX11_from_21 : decode cX11_from 21 = .ok (.bipush 72, 2) := by decide +kernel
theorem dX11_from_23 : decode cX11_from 23 = .ok (.iload_n 1, 1) := by decide +kernel
theorem dX11_from_24 : decode cX11_from 24 = .ok (.imul, 1) := by decide +kernel
theorem dX11_from_25 : decode cX11_from 25 = .ok (.iaload, 1) := by decide +kernel
theorem dX11_from_26 : decode cX11_from 26 = .ok (.ifCond .ne 8, 3) := by decide +kernel
theorem dX11_from_29 : decode cX11_from 29 = .ok (.aload_n 0, 1) := by decide +kernel
theorem dX11_from_30 : decode cX11_from 30 = .ok (.invokevirtual 131, 3) := by decide +kernel
theorem dX11_from_33 : decode cX11_from 33 = .ok (.ireturn, 1) := by decide +kernel
theorem dX11_from_34 : decode cX11_from 34 = .ok (.aload_n 0, 1) := by decide +kernel
theorem dX11_from_35 : decode cX11_from 35 = .ok (.iload_n 1, 1) := by decide +kernel
theorem dX11_from_36 : decode cX11_from 36 = .ok (.invokevirtual 297, 3) := by decide +kernel
theorem dX11_from_39 : decode cX11_from 39 = .ok (.iconst 1, 1) := by decide +kernel
theorem dX11_from_40 : decode cX11_from 40 = .ok (.ireturn, 1) := by decide +kernel
theorem dX11_part_0 : decode cX11_part 0 = .ok (.iload_n 1, 1) := by decide +kernel
theorem dX11_part_1 : decode cX11_part 1 = .ok (.ifCond .ne 10, 3) := by decide +kernel
theorem dX11_part_4 : decode cX11_part 4 = .ok (.aload_n 0, 1) := by decide +kernel
theorem dX11_part_5 : decode cX11_part 5 = .ok (.getfield 86, 3) := by decide +kernel
theorem dX11_part_8 : decode cX11_part 8 = .ok (.goto 22, 3) := by decide +kernel
theorem dX11_part_11 : decode cX11_part 11 = .ok (.iload_n 1, 1) := by decide +kernel
theorem dX11_part_12 : decode cX11_part 12 = .ok (.iconst 1, 1) := by decide +kernel
theorem dX11_part_13 : decode cX11_part 13 = .ok (.if_icmp .ne 10, 3) := by decide +kernel
theorem dX11_part_16 : decode cX11_part 16 = .ok (.aload_n 0, 1) := by decide +kernel
theorem dX11_part_17 : decode cX11_part 17 = .ok (.getfield 90, 3) := by decide +kernel
theorem dX11_part_20 : decode cX11_part 20 = .ok (.goto 10, 3) := by decide +kernel
theorem dX11_part_23 : decode cX11_part 23 = .ok (.aload_n 0, 1) := by decide +kernel
theorem dX11_part_24 : decode cX11_part 24 = .ok (.bipush (-2), 2) := by decide +kernel
theorem dX11_part_26 : decode cX11_part 26 = .ok (.invokevirtual 120, 3) := by decide +kernel
theorem dX11_part_29 : decode cX11_part 29 = .ok (.i2l, 1) := by decide +kernel
theorem dX11_part_30 : decode cX11_part 30 = .ok (.lreturn, 1) := by decide +kernel
theorem dX11_status_0 : decode cX11_status 0 = .ok (.iload_n 1, 1) := by decide +kernel
theorem dX11_status_1 : decode cX11_status 1 = .ok (.i2l, 1) := by decide +kernel
theorem dX11_status_2 : decode cX11_status 2 = .ok (.lconst 0, 1) := by decide +kernel
theorem dX11_status_3 : decode cX11_status 3 = .ok (.ldc2_w 193, 3) := by decide +kernel
theorem dX11_status_6 : decode cX11_status 6 = .ok (.invokestatic 97, 3) := by decide +kernel
theorem dX11_status_9 : decode cX11_status 9 = .ok (.ifCond .eq 12, 3) := by decide +kernel
theorem dX11_status_12 : decode cX11_status 12 = .ok (.aload_n 0, 1) := by decide +kernel
theorem dX11_status_13 : decode cX11_status 13 = .ok (.getfield 7, 3) := by decide +kernel
theorem dX11_status_16 : decode cX11_status 16 = .ok (.iload_n 1, 1) := by decide +kernel
theorem dX11_status_17 : decode cX11_status 17 = .ok (.iaload, 1) := by decide +kernel
theorem dX11_status_18 : decode cX11_status 18 = .ok (.goto 8, 3) := by decide +kernel
theorem dX11_status_21 : decode cX11_status 21 = .ok (.aload_n 0, 1) := by decide +kernel
theorem dX11_status_22 : decode cX11_status 22 = .ok (.iconst (-1), 1) := by decide +kernel
theorem dX11_status_23 : decode cX11_status 23 = .ok (.invokevirtual 120, 3) := by decide +kernel
theorem dX11_status_26 : decode cX11_status 26 = .ok (.ireturn, 1) := by decide +kernel
theorem dX11_counts_0 : decode cX11_counts 0 = .ok (.iload_n 1, 1) := by decide +kernel
theorem dX11_counts_1 : decode cX11_counts 1 = .ok (.ifCond .ne 10, 3) := by decide +kernel
theorem dX11_counts_4 : decode cX11_counts 4 = .ok (.aload_n 0, 1) := by decide +kernel
theorem dX11_counts_5 : decode cX11_counts 5 = .ok (.getfield 93, 3) := by decide +kernel
theorem dX11_counts_8 : decode cX11_counts 8 = .ok (.goto 71, 3) := by decide +kernel
theorem dX11_counts_11 : decode cX11_counts 11 = .ok (.iload_n 1, 1) := by decide +kernel
theorem dX11_counts_12 : decode cX11_counts 12 = .ok (.iconst 1, 1) := by decide +kernel
theorem dX11_counts_13 : decode cX11_counts 13 = .ok (.if_icmp .ne 10, 3) := by decide +kernel
theorem dX11_counts_16 : decode cX11_counts 16 = .ok (.aload_n 0, 1) := by decide +kernel
theorem dX11_counts_17 : decode cX11_counts 17 = .ok (.getfield 103, 3) := by decide +kernel
theorem dX11_counts_20 : decode cX11_counts 20 = .ok (.goto 59, 3) := by decide +kernel
theorem dX11_counts_23 : decode cX11_counts 23 = .ok (.iload_n 1, 1) := by decide +kernel
theorem dX11_counts_24 : decode cX11_counts 24 = .ok (.iconst 2, 1) := by decide +kernel
theorem dX11_counts_25 : decode cX11_counts 25 = .ok (.if_icmp .ne 10, 3) := by decide +kernel
theorem dX11_counts_28 : decode cX11_counts 28 = .ok (.aload_n 0, 1) := by decide +kernel
theorem dX11_counts_29 : decode cX11_counts 29 = .ok (.getfield 106, 3) := by decide +kernel
theorem dX11_counts_32 : decode cX11_counts 32 = .ok (.goto 47, 3) := by decide +kernel
theorem dX11_counts_35 : decode cX11_counts 35 = .ok (.iload_n 1, 1) := by decide +kernel
theorem dX11_counts_36 : decode cX11_counts 36 = .ok (.iconst 3, 1) := by decide +kernel
theorem dX11_counts_37 : decode cX11_counts 37 = .ok (.if_icmp .ne 10, 3) := by decide +kernel
theorem dX11_counts_40 : decode cX11_counts 40 = .ok (.aload_n 0, 1) := by decide +kernel
theorem dX11_counts_41 : decode cX11_counts 41 = .ok (.invokevirtual 144, 3) := by decide +kernel
theorem dX11_counts_44 : decode cX11_counts 44 = .ok (.goto 35, 3) := by decide +kernel
theorem dX11_counts_47 : decode cX11_counts 47 = .ok (.iload_n 1, 1) := by decide +kernel
theorem dX11_counts_48 : decode cX11_counts 48 = .ok (.iconst 4, 1) := by decide +kernel
theorem dX11_counts_49 : decode cX11_counts 49 = .ok (.if_icmp .ne 10, 3) := by decide +kernel
theorem dX11_counts_52 : decode cX11_counts 52 = .ok (.aload_n 0, 1) := by decide +kernel
theorem dX11_counts_53 : decode cX11_counts 53 = .ok (.getfield 109, 3) := by decide +kernel
theorem dX11_counts_56 : decode cX11_counts 56 = .ok (.goto 23, 3) := by decide +kernel
theorem dX11_counts_59 : decode cX11_counts 59 = .ok (.iload_n 1, 1) := by decide +kernel
theorem dX11_counts_60 : decode cX11_counts 60 = .ok (.iconst 5, 1) := by decide +kernel
theorem dX11_counts_61 : decode cX11_counts 61 = .ok (.if_icmp .ne 10, 3) := by decide +kernel
theorem dX11_counts_64 : decode cX11_counts 64 = .ok (.aload_n 0, 1) := by decide +kernel
theorem dX11_counts_65 : decode cX11_counts 65 = .ok (.getfield 218, 3) := by decide +kernel
theorem dX11_counts_68 : decode cX11_counts 68 = .ok (.goto 11, 3) := by decide +kernel
theorem dX11_counts_71 : decode cX11_counts 71 = .ok (.aload_n 0, 1) := by decide +kernel
theorem dX11_counts_72 : decode cX11_counts 72 = .ok (.aload_n 0, 1) := by decide +kernel
theorem dX11_counts_73 : decode cX11_counts 73 = .ok (.getfield 25, 3) := by decide +kernel
theorem dX11_counts_76 : decode cX11_counts 76 = .ok (.invokevirtual 153, 3) := by decide +kernel
theorem dX11_counts_79 : decode cX11_counts 79 = .ok (.ireturn, 1) := by decide +kernel
theorem dX11_count_0 : decode cX11_count 0 = .ok (.iload_n 1, 1) := by decide +kernel
theorem dX11_count_1 : decode cX11_count 1 = .ok (.i2l, 1) := by decide +kernel
theorem dX11_count_2 : decode cX11_count 2 = .ok (.lconst 0, 1) := by decide +kernel
theorem dX11_count_3 : decode cX11_count 3 = .ok (.ldc2_w 312, 3) := by decide +kernel
theorem dX11_count_6 : decode cX11_count 6 = .ok (.invokestatic 97, 3) := by decide +kernel
theorem dX11_count_9 : decode cX11_count 9 = .ok (.ifCond .eq 11, 3) := by decide +kernel
theorem dX11_count_12 : decode cX11_count 12 = .ok (.aload_n 0, 1) := by decide +kernel
theorem dX11_count_13 : decode cX11_count 13 = .ok (.iload_n 1, 1) := by decide +kernel
theorem dX11_count_14 : decode cX11_count 14 = .ok (.invokevirtual 314, 3) := by decide +kernel
theorem dX11_count_17 : decode cX11_count 17 = .ok (.goto 9, 3) := by decide +kernel
theorem dX11_count_20 : decode cX11_count 20 = .ok (.aload_n 0, 1) := by decide +kernel
theorem dX11_count_21 : decode cX11_count 21 = .ok (.bipush (-2), 2) := by decide +kernel
theorem dX11_count_23 : decode cX11_count 23 = .ok (.invokevirtual 120, 3) := by decide +kernel
theorem dX11_count_26 : decode cX11_count 26 = .ok (.ireturn, 1) := by decide +kernel
theorem dX11_hashes_0 : decode cX11_hashes 0 = .ok (.aload_n 0, 1) := by decide +kernel
theorem dX11_hashes_1 : decode cX11_hashes 1 = .ok (.ldc2_w 317, 3) := by decide +kernel
theorem dX11_hashes_4 : decode cX11_hashes 4 = .ok (.aload_n 0, 1) := by decide +kernel
theorem dX11_hashes_5 : decode cX11_hashes 5 = .ok (.getfield 319, 3) := by decide +kernel
theorem dX11_hashes_8 : decode cX11_hashes 8 = .ok (.lmul, 1) := by decide +kernel
theorem dX11_hashes_9 : decode cX11_hashes 9 = .ok (.lload_n 1, 1) := by decide +kernel
theorem dX11_hashes_10 : decode cX11_hashes 10 = .ok (.ladd, 1) := by decide +kernel
theorem dX11_hashes_11 : decode cX11_hashes 11 = .ok (.putfield 319, 3) := by decide +kernel
theorem dX11_hashes_14 : decode cX11_hashes 14 = .ok (.return_, 1) := by decide +kernel
theorem dX11_digest_0 : decode cX11_digest 0 = .ok (.aload_n 0, 1) := by decide +kernel
theorem dX11_digest_1 : decode cX11_digest 1 = .ok (.ldc2_w 322, 3) := by decide +kernel
theorem dX11_digest_4 : decode cX11_digest 4 = .ok (.putfield 319, 3) := by decide +kernel
theorem dX11_digest_7 : decode cX11_digest 7 = .ok (.iconst 0, 1) := by decide +kernel
theorem dX11_digest_8 : decode cX11_digest 8 = .ok (.istore_n 1, 1) := by decide +kernel
theorem dX11_digest_9 : decode cX11_digest 9 = .ok (.iload_n 1, 1) := by decide +kernel
theorem dX11_digest_10 : decode cX11_digest 10 = .ok (.bipush 7, 2) := by decide +kernel
theorem dX11_digest_12 : decode cX11_digest 12 = .ok (.if_icmp .ge 19, 3) := by decide +kernel
theorem dX11_digest_15 : decode cX11_digest 15 = .ok (.aload_n 0, 1) := by decide +kernel
theorem dX11_digest_16 : decode cX11_digest 16 = .ok (.aload_n 0, 1) := by decide +kernel
theorem dX11_digest_17 : decode cX11_digest 17 = .ok (.iload_n 1, 1) := by decide +kernel
theorem dX11_digest_18 : decode cX11_digest 18 = .ok (.invokevirtual 314, 3) := by decide +kernel
theorem dX11_digest_21 : decode cX11_digest 21 = .ok (.i2l, 1) := by decide +kernel
theorem dX11_digest_22 : decode cX11_digest 22 = .ok (.invokevirtual 324, 3) := by decide +kernel
theorem dX11_digest_25 : decode cX11_digest 25 = .ok (.iinc 1 1, 3) := by decide +kernel
theorem dX11_digest_28 : decode cX11_digest 28 = .ok (.goto (-19), 3) := by decide +kernel
theorem dX11_digest_31 : decode cX11_digest 31 = .ok (.iconst 0, 1) := by decide +kernel
theorem dX11_digest_32 : decode cX11_digest 32 = .ok (.istore_n 1, 1) := by decide +kernel
theorem dX11_digest_33 : decode cX11_digest 33 = .ok (.iload_n 1, 1) := by decide +kernel
theorem dX11_digest_34 : decode cX11_digest 34 = .ok (.aload_n 0, 1) := by decide +kernel
theorem dX11_digest_35 : decode cX11_digest 35 = .ok (.getfield 93, 3) := by decide +kernel
theorem dX11_digest_38 : decode cX11_digest 38 = .ok (.if_icmp .ge 53, 3) := by decide +kernel
theorem dX11_digest_41 : decode cX11_digest 41 = .ok (.aload_n 0, 1) := by decide +kernel
theorem dX11_digest_42 : decode cX11_digest 42 = .ok (.aload_n 0, 1) := by decide +kernel
theorem dX11_digest_43 : decode cX11_digest 43 = .ok (.getfield 13, 3) := by decide +kernel
theorem dX11_digest_46 : decode cX11_digest 46 = .ok (.iload_n 1, 1) := by decide +kernel
theorem dX11_digest_47 : decode cX11_digest 47 = .ok (.iaload, 1) := by decide +kernel
theorem dX11_digest_48 : decode cX11_digest 48 = .ok (.i2l, 1) := by decide +kernel
theorem dX11_digest_49 : decode cX11_digest 49 = .ok (.invokevirtual 324, 3) := by decide +kernel
theorem dX11_digest_52 : decode cX11_digest 52 = .ok (.aload_n 0, 1) := by decide +kernel
theorem dX11_digest_53 : decode cX11_digest 53 = .ok (.aload_n 0, 1) := by decide +kernel
theorem dX11_digest_54 : decode cX11_digest 54 = .ok (.getfield 16, 3) := by decide +kernel
theorem dX11_digest_57 : decode cX11_digest 57 = .ok (.iload_n 1, 1) := by decide +kernel
theorem dX11_digest_58 : decode cX11_digest 58 = .ok (.iaload, 1) := by decide +kernel
theorem dX11_digest_59 : decode cX11_digest 59 = .ok (.i2l, 1) := by decide +kernel
theorem dX11_digest_60 : decode cX11_digest 60 = .ok (.invokevirtual 324, 3) := by decide +kernel
theorem dX11_digest_63 : decode cX11_digest 63 = .ok (.aload_n 0, 1) := by decide +kernel
theorem dX11_digest_64 : decode cX11_digest 64 = .ok (.aload_n 0, 1) := by decide +kernel
theorem dX11_digest_65 : decode cX11_digest 65 = .ok (.getfield 19, 3) := by decide +kernel
theorem dX11_digest_68 : decode cX11_digest 68 = .ok (.iload_n 1, 1) := by decide +kernel
theorem dX11_digest_69 : decode cX11_digest 69 = .ok (.iaload, 1) := by decide +kernel
theorem dX11_digest_70 : decode cX11_digest 70 = .ok (.i2l, 1) := by decide +kernel
theorem dX11_digest_71 : decode cX11_digest 71 = .ok (.invokevirtual 324, 3) := by decide +kernel
theorem dX11_digest_74 : decode cX11_digest 74 = .ok (.aload_n 0, 1) := by decide +kernel
theorem dX11_digest_75 : decode cX11_digest 75 = .ok (.aload_n 0, 1) := by decide +kernel
theorem dX11_digest_76 : decode cX11_digest 76 = .ok (.getfield 22, 3) := by decide +kernel
theorem dX11_digest_79 : decode cX11_digest 79 = .ok (.iload_n 1, 1) := by decide +kernel
theorem dX11_digest_80 : decode cX11_digest 80 = .ok (.iaload, 1) := by decide +kernel
theorem dX11_digest_81 : decode cX11_digest 81 = .ok (.i2l, 1) := by decide +kernel
theorem dX11_digest_82 : decode cX11_digest 82 = .ok (.invokevirtual 324, 3) := by decide +kernel
theorem dX11_digest_85 : decode cX11_digest 85 = .ok (.iinc 1 1, 3) := by decide +kernel
theorem dX11_digest_88 : decode cX11_digest 88 = .ok (.goto (-55), 3) := by decide +kernel
theorem dX11_digest_91 : decode cX11_digest 91 = .ok (.iconst 0, 1) := by decide +kernel
theorem dX11_digest_92 : decode cX11_digest 92 = .ok (.istore_n 1, 1) := by decide +kernel
theorem dX11_digest_93 : decode cX11_digest 93 = .ok (.iload_n 1, 1) := by decide +kernel
theorem dX11_digest_94 : decode cX11_digest 94 = .ok (.aload_n 0, 1) := by decide +kernel
theorem dX11_digest_95 : decode cX11_digest 95 = .ok (.getfield 103, 3) := by decide +kernel
theorem dX11_digest_98 : decode cX11_digest 98 = .ok (.if_icmp .ge 31, 3) := by decide +kernel
theorem dX11_digest_101 : decode cX11_digest 101 = .ok (.aload_n 0, 1) := by decide +kernel
theorem dX11_digest_102 : decode cX11_digest 102 = .ok (.aload_n 0, 1) := by decide +kernel
theorem dX11_digest_103 : decode cX11_digest 103 = .ok (.getfield 28, 3) := by decide +kernel
theorem dX11_digest_106 : decode cX11_digest 106 = .ok (.iload_n 1, 1) := by decide +kernel
theorem dX11_digest_107 : decode cX11_digest 107 = .ok (.iaload, 1) := by decide +kernel
theorem dX11_digest_108 : decode cX11_digest 108 = .ok (.i2l, 1) := by decide +kernel
theorem dX11_digest_109 : decode cX11_digest 109 = .ok (.invokevirtual 324, 3) := by decide +kernel
theorem dX11_digest_112 : decode cX11_digest 112 = .ok (.aload_n 0, 1) := by decide +kernel
theorem dX11_digest_113 : decode cX11_digest 113 = .ok (.aload_n 0, 1) := by decide +kernel
theorem dX11_digest_114 : decode cX11_digest 114 = .ok (.getfield 31, 3) := by decide +kernel
theorem dX11_digest_117 : decode cX11_digest 117 = .ok (.iload_n 1, 1) := by decide +kernel
theorem dX11_digest_118 : decode cX11_digest 118 = .ok (.iaload, 1) := by decide +kernel
theorem dX11_digest_119 : decode cX11_digest 119 = .ok (.i2l, 1) := by decide +kernel
theorem dX11_digest_120 : decode cX11_digest 120 = .ok (.invokevirtual 324, 3) := by decide +kernel
theorem dX11_digest_123 : decode cX11_digest 123 = .ok (.iinc 1 1, 3) := by decide +kernel
theorem dX11_digest_126 : decode cX11_digest 126 = .ok (.goto (-33), 3) := by decide +kernel
theorem dX11_digest_129 : decode cX11_digest 129 = .ok (.iconst 0, 1) := by decide +kernel
theorem dX11_digest_130 : decode cX11_digest 130 = .ok (.istore_n 1, 1) := by decide +kernel
theorem dX11_digest_131 : decode cX11_digest 131 = .ok (.iload_n 1, 1) := by decide +kernel
theorem dX11_digest_132 : decode cX11_digest 132 = .ok (.aload_n 0, 1) := by decide +kernel
theorem dX11_digest_133 : decode cX11_digest 133 = .ok (.getfield 106, 3) := by decide +kernel
theorem dX11_digest_136 : decode cX11_digest 136 = .ok (.if_icmp .ge 31, 3) := by decide +kernel
theorem dX11_digest_139 : decode cX11_digest 139 = .ok (.aload_n 0, 1) := by decide +kernel
theorem dX11_digest_140 : decode cX11_digest 140 = .ok (.aload_n 0, 1) := by decide +kernel
theorem dX11_digest_141 : decode cX11_digest 141 = .ok (.getfield 34, 3) := by decide +kernel
theorem dX11_digest_144 : decode cX11_digest 144 = .ok (.iload_n 1, 1) := by decide +kernel
theorem dX11_digest_145 : decode cX11_digest 145 = .ok (.iaload, 1) := by decide +kernel
theorem dX11_digest_146 : decode cX11_digest 146 = .ok (.i2l, 1) := by decide +kernel
theorem dX11_digest_147 : decode cX11_digest 147 = .ok (.invokevirtual 324, 3) := by decide +kernel
theorem dX11_digest_150 : decode cX11_digest 150 = .ok (.aload_n 0, 1) := by decide +kernel
theorem dX11_digest_151 : decode cX11_digest 151 = .ok (.aload_n 0, 1) := by decide +kernel
theorem dX11_digest_152 : decode cX11_digest 152 = .ok (.getfield 37, 3) := by decide +kernel
theorem dX11_digest_155 : decode cX11_digest 155 = .ok (.iload_n 1, 1) := by decide +kernel
theorem dX11_digest_156 : decode cX11_digest 156 = .ok (.iaload, 1) := by decide +kernel
theorem dX11_digest_157 : decode cX11_digest 157 = .ok (.i2l, 1) := by decide +kernel
theorem dX11_digest_158 : decode cX11_digest 158 = .ok (.invokevirtual 324, 3) := by decide +kernel
theorem dX11_digest_161 : decode cX11_digest 161 = .ok (.iinc 1 1, 3) := by decide +kernel
theorem dX11_digest_164 : decode cX11_digest 164 = .ok (.goto (-33), 3) := by decide +kernel
theorem dX11_digest_167 : decode cX11_digest 167 = .ok (.iconst 0, 1) := by decide +kernel
theorem dX11_digest_168 : decode cX11_digest 168 = .ok (.istore_n 1, 1) := by decide +kernel
theorem dX11_digest_169 : decode cX11_digest 169 = .ok (.iload_n 1, 1) := by decide +kernel
theorem dX11_digest_170 : decode cX11_digest 170 = .ok (.aload_n 0, 1) := by decide +kernel
theorem dX11_digest_171 : decode cX11_digest 171 = .ok (.getfield 93, 3) := by decide +kernel
theorem dX11_digest_174 : decode cX11_digest 174 = .ok (.if_icmp .ge 20, 3) := by decide +kernel
theorem dX11_digest_177 : decode cX11_digest 177 = .ok (.aload_n 0, 1) := by decide +kernel
theorem dX11_digest_178 : decode cX11_digest 178 = .ok (.aload_n 0, 1) := by decide +kernel
theorem dX11_digest_179 : decode cX11_digest 179 = .ok (.getfield 43, 3) := by decide +kernel
theorem dX11_digest_182 : decode cX11_digest 182 = .ok (.iload_n 1, 1) := by decide +kernel
theorem dX11_digest_183 : decode cX11_digest 183 = .ok (.iaload, 1) := by decide +kernel
theorem dX11_digest_184 : decode cX11_digest 184 = .ok (.i2l, 1) := by decide +kernel
theorem dX11_digest_185 : decode cX11_digest 185 = .ok (.invokevirtual 324, 3) := by decide +kernel
theorem dX11_digest_188 : decode cX11_digest 188 = .ok (.iinc 1 1, 3) := by decide +kernel
theorem dX11_digest_191 : decode cX11_digest 191 = .ok (.goto (-22), 3) := by decide +kernel
theorem dX11_digest_194 : decode cX11_digest 194 = .ok (.iconst 0, 1) := by decide +kernel
theorem dX11_digest_195 : decode cX11_digest 195 = .ok (.istore_n 1, 1) := by decide +kernel
theorem dX11_digest_196 : decode cX11_digest 196 = .ok (.iload_n 1, 1) := by decide +kernel
theorem dX11_digest_197 : decode cX11_digest 197 = .ok (.aload_n 0, 1) := by decide +kernel
theorem dX11_digest_198 : decode cX11_digest 198 = .ok (.getfield 109, 3) := by decide +kernel
theorem dX11_digest_201 : decode cX11_digest 201 = .ok (.if_icmp .ge 20, 3) := by decide +kernel
theorem dX11_digest_204 : decode cX11_digest 204 = .ok (.aload_n 0, 1) := by decide +kernel
theorem dX11_digest_205 : decode cX11_digest 205 = .ok (.aload_n 0, 1) := by decide +kernel
theorem dX11_digest_206 : decode cX11_digest 206 = .ok (.getfield 40, 3) := by decide +kernel
theorem dX11_digest_209 : decode cX11_digest 209 = .ok (.iload_n 1, 1) := by decide +kernel
theorem dX11_digest_210 : decode cX11_digest 210 = .ok (.iaload, 1) := by decide +kernel
theorem dX11_digest_211 : decode cX11_digest 211 = .ok (.i2l, 1) := by decide +kernel
theorem dX11_digest_212 : decode cX11_digest 212 = .ok (.invokevirtual 324, 3) := by decide +kernel
theorem dX11_digest_215 : decode cX11_digest 215 = .ok (.iinc 1 1, 3) := by decide +kernel
theorem dX11_digest_218 : decode cX11_digest 218 = .ok (.goto (-22), 3) := by decide +kernel
theorem dX11_digest_221 : decode cX11_digest 221 = .ok (.aload_n 0, 1) := by decide +kernel
theorem dX11_digest_222 : decode cX11_digest 222 = .ok (.aload_n 0, 1) := by decide +kernel
theorem dX11_digest_223 : decode cX11_digest 223 = .ok (.getfield 112, 3) := by decide +kernel
theorem dX11_digest_226 : decode cX11_digest 226 = .ok (.i2l, 1) := by decide +kernel
theorem dX11_digest_227 : decode cX11_digest 227 = .ok (.invokevirtual 324, 3) := by decide +kernel
theorem dX11_digest_230 : decode cX11_digest 230 = .ok (.aload_n 0, 1) := by decide +kernel
theorem dX11_digest_231 : decode cX11_digest 231 = .ok (.aload_n 0, 1) := by decide +kernel
theorem dX11_digest_232 : decode cX11_digest 232 = .ok (.getfield 115, 3) := by decide +kernel
theorem dX11_digest_235 : decode cX11_digest 235 = .ok (.i2l, 1) := by decide +kernel
theorem dX11_digest_236 : decode cX11_digest 236 = .ok (.invokevirtual 324, 3) := by decide +kernel
theorem dX11_digest_239 : decode cX11_digest 239 = .ok (.aload_n 0, 1) := by decide +kernel
theorem dX11_digest_240 : decode cX11_digest 240 = .ok (.aload_n 0, 1) := by decide +kernel
theorem dX11_digest_241 : decode cX11_digest 241 = .ok (.getfield 86, 3) := by decide +kernel
theorem dX11_digest_244 : decode cX11_digest 244 = .ok (.invokevirtual 324, 3) := by decide +kernel
theorem dX11_digest_247 : decode cX11_digest 247 = .ok (.aload_n 0, 1) := by decide +kernel
theorem dX11_digest_248 : decode cX11_digest 248 = .ok (.aload_n 0, 1) := by decide +kernel
theorem dX11_digest_249 : decode cX11_digest 249 = .ok (.getfield 90, 3) := by decide +kernel
theorem dX11_digest_252 : decode cX11_digest 252 = .ok (.invokevirtual 324, 3) := by decide +kernel
theorem dX11_digest_255 : decode cX11_digest 255 = .ok (.aload_n 0, 1) := by decide +kernel
theorem dX11_digest_256 : decode cX11_digest 256 = .ok (.getfield 319, 3) := by decide +kernel
theorem dX11_digest_259 : decode cX11_digest 259 = .ok (.lreturn, 1) := by decide +kernel
end
section
theorem dX0_init_0 : decode cX0_init 0 = .ok (.aload_n 0, 1) := by decide +kernel
theorem dX0_init_1 : decode cX0_init 1 = .ok (.invokespecial 1, 3) := by decide +kernel
theorem dX0_init_4 : decode cX0_init 4 = .ok (.return_, 1) := by decide +kernel
theorem dX0_canWrite_0 : decode cX0_canWrite 0 = .ok (.iconst 0, 1) := by decide +kernel
theorem dX0_canWrite_1 : decode cX0_canWrite 1 = .ok (.ireturn, 1) := by decide +kernel
theorem dX1_init_0 : decode cX1_init 0 = .ok (.aload_n 0, 1) := by decide +kernel
theorem dX1_init_1 : decode cX1_init 1 = .ok (.invokespecial 1, 3) := by decide +kernel
theorem dX1_init_4 : decode cX1_init 4 = .ok (.return_, 1) := by decide +kernel
theorem dX1_canRead_0 : decode cX1_canRead 0 = .ok (.iconst 0, 1) := by decide +kernel
theorem dX1_canRead_1 : decode cX1_canRead 1 = .ok (.ireturn, 1) := by decide +kernel
theorem dX2_init_0 : decode cX2_init 0 = .ok (.aload_n 0, 1) := by decide +kernel
theorem dX2_init_1 : decode cX2_init 1 = .ok (.invokespecial 3, 3) := by decide +kernel
theorem dX2_init_4 : decode cX2_init 4 = .ok (.aload_n 0, 1) := by decide +kernel
theorem dX2_init_5 : decode cX2_init 5 = .ok (.bipush 7, 2) := by decide +kernel
theorem dX2_init_7 : decode cX2_init 7 = .ok (.newarray .int, 2) := by decide +kernel
theorem dX2_init_9 : decode cX2_init 9 = .ok (.putfield 9, 3) := by decide +kernel
theorem dX2_init_12 : decode cX2_init 12 = .ok (.aload_n 0, 1) := by decide +kernel
theorem dX2_init_13 : decode cX2_init 13 = .ok (.bipush 7, 2) := by decide +kernel
theorem dX2_init_15 : decode cX2_init 15 = .ok (.newarray .int, 2) := by decide +kernel
theorem dX2_init_17 : decode cX2_init 17 = .ok (.putfield 15, 3) := by decide +kernel
theorem dX2_init_20 : decode cX2_init 20 = .ok (.aload_n 0, 1) := by decide +kernel
theorem dX2_init_21 : decode cX2_init 21 = .ok (.bipush 7, 2) := by decide +kernel
theorem dX2_init_23 : decode cX2_init 23 = .ok (.newarray .boolean, 2) := by decide +kernel
theorem dX2_init_25 : decode cX2_init 25 = .ok (.putfield 18, 3) := by decide +kernel
theorem dX2_init_28 : decode cX2_init 28 = .ok (.aload_n 0, 1) := by decide +kernel
theorem dX2_init_29 : decode cX2_init 29 = .ok (.bipush 7, 2) := by decide +kernel
theorem dX2_init_31 : decode cX2_init 31 = .ok (.newarray .boolean, 2) := by decide +kernel
theorem dX2_init_33 : decode cX2_init 33 = .ok (.putfield 22, 3) := by decide +kernel
theorem dX2_init_36 : decode cX2_init 36 = .ok (.aload_n 0, 1) := by decide +kernel
theorem dX2_init_37 : decode cX2_init 37 = .ok (.bipush 7, 2) := by decide +kernel
theorem dX2_init_39 : decode cX2_init 39 = .ok (.newarray .int, 2) := by decide +kernel
theorem dX2_init_41 : decode cX2_init 41 = .ok (.putfield 25, 3) := by decide +kernel
theorem dX2_init_44 : decode cX2_init 44 = .ok (.aload_n 0, 1) := by decide +kernel
theorem dX2_init_45 : decode cX2_init 45 = .ok (.bipush 7, 2) := by decide +kernel
theorem dX2_init_47 : decode cX2_init 47 = .ok (.newarray .int, 2) := by decide +kernel
theorem dX2_init_49 : decode cX2_init 49 = .ok (.putfield 28, 3) := by decide +kernel
theorem dX2_init_52 : decode cX2_init 52 = .ok (.aload_n 0, 1) := by decide +kernel
theorem dX2_init_53 : decode cX2_init 53 = .ok (.bipush 7, 2) := by decide +kernel
theorem dX2_init_55 : decode cX2_init 55 = .ok (.newarray .int, 2) := by decide +kernel
theorem dX2_init_57 : decode cX2_init 57 = .ok (.putfield 31, 3) := by decide +kernel
theorem dX2_init_60 : decode cX2_init 60 = .ok (.aload_n 0, 1) := by decide +kernel
theorem dX2_init_61 : decode cX2_init 61 = .ok (.bipush 7, 2) := by decide +kernel
theorem dX2_init_63 : decode cX2_init 63 = .ok (.newarray .int, 2) := by decide +kernel
theorem dX2_init_65 : decode cX2_init 65 = .ok (.putfield 34, 3) := by decide +kernel
theorem dX2_init_68 : decode cX2_init 68 = .ok (.aload_n 0, 1) := by decide +kernel
theorem dX2_init_69 : decode cX2_init 69 = .ok (.bipush 7, 2) := by decide +kernel
theorem dX2_init_71 : decode cX2_init 71 = .ok (.newarray .int, 2) := by decide +kernel
theorem dX2_init_73 : decode cX2_init 73 = .ok (.putfield 37, 3) := by decide +kernel
theorem dX2_init_76 : decode cX2_init 76 = .ok (.aload_n 0, 1) := by decide +kernel
theorem dX2_init_77 : decode cX2_init 77 = .ok (.bipush 7, 2) := by decide +kernel
theorem dX2_init_79 : decode cX2_init 79 = .ok (.newarray .int, 2) := by decide +kernel
theorem dX2_init_81 : decode cX2_init 81 = .ok (.putfield 40, 3) := by decide +kernel
theorem dX2_init_84 : decode cX2_init 84 = .ok (.return_, 1) := by decide +kernel
theorem dX2_lookAt_0 : decode cX2_lookAt 0 = .ok (.aload_n 0, 1) := by decide +kernel
theorem dX2_lookAt_1 : decode cX2_lookAt 1 = .ok (.aload_n 1, 1) := by decide +kernel
theorem dX2_lookAt_2 : decode cX2_lookAt 2 = .ok (.getfield 43, 3) := by decide +kernel
theorem dX2_lookAt_5 : decode cX2_lookAt 5 = .ok (.putfield 49, 3) := by decide +kernel
theorem dX2_lookAt_8 : decode cX2_lookAt 8 = .ok (.iconst 0, 1) := by decide +kernel
theorem dX2_lookAt_9 : decode cX2_lookAt 9 = .ok (.istore_n 3, 1) := by decide +kernel
theorem dX2_lookAt_10 : decode cX2_lookAt 10 = .ok (.iload_n 3, 1) := by decide +kernel
theorem dX2_lookAt_11 : decode cX2_lookAt 11 = .ok (.aload_n 0, 1) := by decide +kernel
theorem dX2_lookAt_12 : decode cX2_lookAt 12 = .ok (.getfield 49, 3) := by decide +kernel
theorem dX2_lookAt_15 : decode cX2_lookAt 15 = .ok (.if_icmp .ge 95, 3) := by decide +kernel
theorem dX2_lookAt_18 : decode cX2_lookAt 18 = .ok (.aload_n 1, 1) := by decide +kernel
theorem dX2_lookAt_19 : decode cX2_lookAt 19 = .ok (.aload_n 2, 1) := by decide +kernel
theorem dX2_lookAt_20 : decode cX2_lookAt 20 = .ok (.iload_n 3, 1) := by decide +kernel
theorem dX2_lookAt_21 : decode cX2_lookAt 21 = .ok (.invokestatic 50, 3) := by decide +kernel
theorem dX2_lookAt_24 : decode cX2_lookAt 24 = .ok (.astore 4, 2) := by decide +kernel
theorem dX2_lookAt_26 : decode cX2_lookAt 26 = .ok (.aload 4, 2) := by decide +kernel
theorem dX2_lookAt_28 : decode cX2_lookAt 28 = .ok (.ifnull 76, 3) := by decide +kernel
theorem dX2_lookAt_31 : decode cX2_lookAt 31 = .ok (.aload_n 0, 1) := by decide +kernel
theorem dX2_lookAt_32 : decode cX2_lookAt 32 = .ok (.getfield 18, 3) := by decide +kernel
theorem dX2_lookAt_35 : decode cX2_lookAt 35 = .ok (.iload_n 3, 1) := by decide +kernel
theorem dX2_lookAt_36 : decode cX2_lookAt 36 = .ok (.aload 4, 2) := by decide +kernel
theorem dX2_lookAt_38 : decode cX2_lookAt 38 = .ok (.invokevirtual 54, 3) := by decide +kernel
theorem dX2_lookAt_41 : decode cX2_lookAt 41 = .ok (.bastore, 1) := by decide +kernel
theorem dX2_lookAt_42 : decode cX2_lookAt 42 = .ok (.aload_n 0, 1) := by decide +kernel
theorem dX2_lookAt_43 : decode cX2_lookAt 43 = .ok (.getfield 22, 3) := by decide +kernel
theorem dX2_lookAt_46 : decode cX2_lookAt 46 = .ok (.iload_n 3, 1) := by decide +kernel
theorem dX2_lookAt_47 : decode cX2_lookAt 47 = .ok (.aload 4, 2) := by decide +kernel
theorem dX2_lookAt_49 : decode cX2_lookAt 49 = .ok (.invokevirtual 60, 3) := by decide +kernel
theorem dX2_lookAt_52 : decode cX2_lookAt 52 = .ok (.bastore, 1) := by decide +kernel
theorem dX2_lookAt_53 : decode cX2_lookAt 53 = .ok (.aload_n 0, 1) := by decide +kernel
theorem dX2_lookAt_54 : decode cX2_lookAt 54 = .ok (.getfield 25, 3) := by decide +kernel
theorem dX2_lookAt_57 : decode cX2_lookAt 57 = .ok (.iload_n 3, 1) := by decide +kernel
theorem dX2_lookAt_58 : decode cX2_lookAt 58 = .ok (.aload 4, 2) := by decide +kernel
theorem dX2_lookAt_60 : decode cX2_lookAt 60 = .ok (.aload_n 1, 1) := by decide +kernel
theorem dX2_lookAt_61 : decode cX2_lookAt 61 = .ok (.getfield 63, 3) := by decide +kernel
theorem dX2_lookAt_64 : decode cX2_lookAt 64 = .ok (.iload_n 3, 1) := by decide +kernel
theorem dX2_lookAt_65 : decode cX2_lookAt 65 = .ok (.iaload, 1) := by decide +kernel
theorem dX2_lookAt_66 : decode cX2_lookAt 66 = .ok (.aload_n 1, 1) := by decide +kernel
theorem dX2_lookAt_67 : decode cX2_lookAt 67 = .ok (.getfield 66, 3) := by decide +kernel
theorem dX2_lookAt_70 : decode cX2_lookAt 70 = .ok (.iload_n 3, 1) := by decide +kernel
theorem dX2_lookAt_71 : decode cX2_lookAt 71 = .ok (.iaload, 1) := by decide +kernel
theorem dX2_lookAt_72 : decode cX2_lookAt 72 = .ok (.invokevirtual 69, 3) := by decide +kernel
theorem dX2_lookAt_75 : decode cX2_lookAt 75 = .ok (.iastore, 1) := by decide +kernel
theorem dX2_lookAt_76 : decode cX2_lookAt 76 = .ok (.aload_n 0, 1) := by decide +kernel
theorem dX2_lookAt_77 : decode cX2_lookAt 77 = .ok (.getfield 28, 3) := by decide +kernel
theorem dX2_lookAt_80 : decode cX2_lookAt 80 = .ok (.iload_n 3, 1) := by decide +kernel
theorem dX2_lookAt_81 : decode cX2_lookAt 81 = .ok (.aload 4, 2) := by decide +kernel
theorem dX2_lookAt_83 : decode cX2_lookAt 83 = .ok (.aload_n 1, 1) := by decide +kernel
theorem dX2_lookAt_84 : decode cX2_lookAt 84 = .ok (.getfield 63, 3) := by decide +kernel
theorem dX2_lookAt_87 : decode cX2_lookAt 87 = .ok (.iload_n 3, 1) := by decide +kernel
theorem dX2_lookAt_88 : decode cX2_lookAt 88 = .ok (.iaload, 1) := by decide +kernel
theorem dX2_lookAt_89 : decode cX2_lookAt 89 = .ok (.invokevirtual 73, 3) := by decide +kernel
theorem dX2_lookAt_92 : decode cX2_lookAt 92 = .ok (.iastore, 1) := by decide +kernel
theorem dX2_lookAt_93 : decode cX2_lookAt 93 = .ok (.aload_n 0, 1) := by decide +kernel
theorem dX2_lookAt_94 : decode cX2_lookAt 94 = .ok (.getfield 31, 3) := by decide +kernel
theorem dX2_lookAt_97 : decode cX2_lookAt 97 = .ok (.iload_n 3, 1) := by decide +kernel
theorem dX2_lookAt_98 : decode cX2_lookAt 98 = .ok (.aload_n 1, 1) := by decide +kernel
theorem dX2_lookAt_99 : decode cX2_lookAt 99 = .ok (.iload_n 3, 1) := by decide +kernel
theorem dX2_lookAt_100 : decode cX2_lookAt 100 = .ok (.invokevirtual 77, 3) := by decide +kernel
theorem dX2_lookAt_103 : decode cX2_lookAt 103 = .ok (.iastore, 1) := by decide +kernel
theorem dX2_lookAt_104 : decode cX2_lookAt 104 = .ok (.iinc 3 1, 3) := by decide +kernel
theorem dX2_lookAt_107 : decode cX2_lookAt 107 = .ok (.goto (-97), 3) := by decide +kernel
theorem dX2_lookAt_110 : decode cX2_lookAt 110 = .ok (.return_, 1) := by decide +kernel
theorem dX2_teachToo_0 : decode cX2_teachToo 0 = .ok (.aload_n 1, 1) := by decide +kernel
theorem dX2_teachToo_1 : decode cX2_teachToo 1 = .ok (.aload_n 2, 1) := by decide +kernel
theorem dX2_teachToo_2 : decode cX2_teachToo 2 = .ok (.iload_n 3, 1) := by decide +kernel
theorem dX2_teachToo_3 : decode cX2_teachToo 3 = .ok (.invokestatic 50, 3) := by decide +kernel
theorem dX2_teachToo_6 : decode cX2_teachToo 6 = .ok (.astore 5, 2) := by decide +kernel
theorem dX2_teachToo_8 : decode cX2_teachToo 8 = .ok (.aload 5, 2) := by decide +kernel
theorem dX2_teachToo_10 : decode cX2_teachToo 10 = .ok (.ifnull 29, 3) := by decide +kernel
theorem dX2_teachToo_13 : decode cX2_teachToo 13 = .ok (.aload_n 0, 1) := by decide +kernel
theorem dX2_teachToo_14 : decode cX2_teachToo 14 = .ok (.getfield 25, 3) := by decide +kernel
theorem dX2_teachToo_17 : decode cX2_teachToo 17 = .ok (.iload_n 3, 1) := by decide +kernel
theorem dX2_teachToo_18 : decode cX2_teachToo 18 = .ok (.aload 5, 2) := by decide +kernel
theorem dX2_teachToo_20 : decode cX2_teachToo 20 = .ok (.aload_n 1, 1) := by decide +kernel
theorem dX2_teachToo_21 : decode cX2_teachToo 21 = .ok (.getfield 63, 3) := by decide +kernel
theorem dX2_teachToo_24 : decode cX2_teachToo 24 = .ok (.iload_n 3, 1) := by decide +kernel
theorem dX2_teachToo_25 : decode cX2_teachToo 25 = .ok (.iaload, 1) := by decide +kernel
theorem dX2_teachToo_26 : decode cX2_teachToo 26 = .ok (.aload_n 1, 1) := by decide +kernel
theorem dX2_teachToo_27 : decode cX2_teachToo 27 = .ok (.getfield 66, 3) := by decide +kernel
theorem dX2_teachToo_30 : decode cX2_teachToo 30 = .ok (.iload_n 3, 1) := by decide +kernel
theorem dX2_teachToo_31 : decode cX2_teachToo 31 = .ok (.iaload, 1) := by decide +kernel
theorem dX2_teachToo_32 : decode cX2_teachToo 32 = .ok (.iload 4, 2) := by decide +kernel
theorem dX2_teachToo_34 : decode cX2_teachToo 34 = .ok (.ior, 1) := by decide +kernel
theorem dX2_teachToo_35 : decode cX2_teachToo 35 = .ok (.invokevirtual 69, 3) := by decide +kernel
theorem dX2_teachToo_38 : decode cX2_teachToo 38 = .ok (.iastore, 1) := by decide +kernel
theorem dX2_teachToo_39 : decode cX2_teachToo 39 = .ok (.return_, 1) := by decide +kernel
theorem dX2_kindOf_0 : decode cX2_kindOf 0 = .ok (.aload_n 0, 1) := by decide +kernel
theorem dX2_kindOf_1 : decode cX2_kindOf 1 = .ok (.getfield 80, 3) := by decide +kernel
theorem dX2_kindOf_4 : decode cX2_kindOf 4 = .ok (.iload_n 2, 1) := by decide +kernel
theorem dX2_kindOf_5 : decode cX2_kindOf 5 = .ok (.iaload, 1) := by decide +kernel
theorem dX2_kindOf_6 : decode cX2_kindOf 6 = .ok (.istore_n 3, 1) := by decide +kernel
theorem dX2_kindOf_7 : decode cX2_kindOf 7 = .ok (.iload_n 3, 1) := by decide +kernel
theorem dX2_kindOf_8 : decode cX2_kindOf 8 = .ok (.ifCond .lt 15, 3) := by decide +kernel
theorem dX2_kindOf_11 : decode cX2_kindOf 11 = .ok (.iload_n 3, 1) := by decide +kernel
theorem dX2_kindOf_12 : decode cX2_kindOf 12 = .ok (.aload_n 1, 1) := by decide +kernel
theorem dX2_kindOf_13 : decode cX2_kindOf 13 = .ok (.arraylength, 1) := by decide +kernel
theorem dX2_kindOf_14 : decode cX2_kindOf 14 = .ok (.if_icmp .ge 9, 3) := by decide +kernel
theorem dX2_kindOf_17 : decode cX2_kindOf 17 = .ok (.aload_n 1, 1) := by decide +kernel
theorem dX2_kindOf_18 : decode cX2_kindOf 18 = .ok (.iload_n 3, 1) := by decide +kernel
theorem dX2_kindOf_19 : decode cX2_kindOf 19 = .ok (.aaload, 1) := by decide +kernel
theorem dX2_kindOf_20 : decode cX2_kindOf 20 = .ok (.goto 4, 3) := by decide +kernel
theorem dX2_kindOf_23 : decode cX2_kindOf 23 = .ok (.aconst_null, 1) := by decide +kernel
theorem dX2_kindOf_24 : decode cX2_kindOf 24 = .ok (.areturn, 1) := by decide +kernel
theorem dX2_goTo_0 : decode cX2_goTo 0 = .ok (.iload_n 1, 1) := by decide +kernel
theorem dX2_goTo_1 : decode cX2_goTo 1 = .ok (.istore_n 2, 1) := by decide +kernel
theorem dX2_goTo_2 : decode cX2_goTo 2 = .ok (.iconst 0, 1) := by decide +kernel
theorem dX2_goTo_3 : decode cX2_goTo 3 = .ok (.istore_n 3, 1) := by decide +kernel
theorem dX2_goTo_4 : decode cX2_goTo 4 = .ok (.iconst 0, 1) := by decide +kernel
theorem dX2_goTo_5 : decode cX2_goTo 5 = .ok (.istore 4, 2) := by decide +kernel
theorem dX2_goTo_7 : decode cX2_goTo 7 = .ok (.iload 4, 2) := by decide +kernel
theorem dX2_goTo_9 : decode cX2_goTo 9 = .ok (.aload_n 0, 1) := by decide +kernel
theorem dX2_goTo_10 : decode cX2_goTo 10 = .ok (.getfield 49, 3) := by decide +kernel
theorem dX2_goTo_13 : decode cX2_goTo 13 = .ok (.if_icmp .ge 84, 3) := by decide +kernel
theorem dX2_goTo_16 : decode cX2_goTo 16 = .ok (.getstatic 83, 3) := by decide +kernel
theorem dX2_goTo_19 : decode cX2_goTo 19 = .ok (.aload_n 0, 1) := by decide +kernel
theorem dX2_goTo_20 : decode cX2_goTo 20 = .ok (.getfield 49, 3) := by decide +kernel
theorem dX2_goTo_23 : decode cX2_goTo 23 = .ok (.iconst 1, 1) := by decide +kernel
theorem dX2_goTo_24 : decode cX2_goTo 24 = .ok (.isub, 1) := by decide +kernel
theorem dX2_goTo_25 : decode cX2_goTo 25 = .ok (.iload 4, 2) := by decide +kernel
theorem dX2_goTo_27 : decode cX2_goTo 27 = .ok (.isub, 1) := by decide +kernel
theorem dX2_goTo_28 : decode cX2_goTo 28 = .ok (.iaload, 1) := by decide +kernel
theorem dX2_goTo_29 : decode cX2_goTo 29 = .ok (.istore 5, 2) := by decide +kernel
theorem dX2_goTo_31 : decode cX2_goTo 31 = .ok (.iconst 0, 1) := by decide +kernel
theorem dX2_goTo_32 : decode cX2_goTo 32 = .ok (.istore 6, 2) := by decide +kernel
theorem dX2_goTo_34 : decode cX2_goTo 34 = .ok (.iload 6, 2) := by decide +kernel
theorem dX2_goTo_36 : decode cX2_goTo 36 = .ok (.aload_n 0, 1) := by decide +kernel
theorem dX2_goTo_37 : decode cX2_goTo 37 = .ok (.getfield 49, 3) := by decide +kernel
theorem dX2_goTo_40 : decode cX2_goTo 40 = .ok (.if_icmp .ge 51, 3) := by decide +kernel
theorem dX2_goTo_43 : decode cX2_goTo 43 = .ok (.iload_n 3, 1) := by decide +kernel
theorem dX2_goTo_44 : decode cX2_goTo 44 = .ok (.iload 6, 2) := by decide +kernel
theorem dX2_goTo_46 : decode cX2_goTo 46 = .ok (.ishr, 1) := by decide +kernel
theorem dX2_goTo_47 : decode cX2_goTo 47 = .ok (.iconst 1, 1) := by decide +kernel
theorem dX2_goTo_48 : decode cX2_goTo 48 = .ok (.iand, 1) := by decide +kernel
theorem dX2_goTo_49 : decode cX2_goTo 49 = .ok (.ifCond .eq 6, 3) := by decide +kernel
theorem dX2_goTo_52 : decode cX2_goTo 52 = .ok (.goto 33, 3) := by decide +kernel
theorem dX2_goTo_55 : decode cX2_goTo 55 = .ok (.iload_n 2, 1) := by decide +kernel
theorem dX2_goTo_56 : decode cX2_goTo 56 = .ok (.iload 5, 2) := by decide +kernel
theorem dX2_goTo_58 : decode cX2_goTo 58 = .ok (.if_icmp .ge 22, 3) := by decide +kernel
theorem dX2_goTo_61 : decode cX2_goTo 61 = .ok (.aload_n 0, 1) := by decide +kernel
theorem dX2_goTo_62 : decode cX2_goTo 62 = .ok (.getfield 9, 3) := by decide +kernel
theorem dX2_goTo_65 : decode cX2_goTo 65 = .ok (.iload 4, 2) := by decide +kernel
theorem dX2_goTo_67 : decode cX2_goTo 67 = .ok (.iload 6, 2) := by decide +kernel
theorem dX2_goTo_69 : decode cX2_goTo 69 = .ok (.iastore, 1) := by decide +kernel
theorem dX2_goTo_70 : decode cX2_goTo 70 = .ok (.iload_n 3, 1) := by decide +kernel
theorem dX2_goTo_71 : decode cX2_goTo 71 = .ok (.iconst 1, 1) := by decide +kernel
theorem dX2_goTo_72 : decode cX2_goTo 72 = .ok (.iload 6, 2) := by decide +kernel
theorem dX2_goTo_74 : decode cX2_goTo 74 = .ok (.ishl, 1) := by decide +kernel
theorem dX2_goTo_75 : decode cX2_goTo 75 = .ok (.ior, 1) := by decide +kernel
theorem dX2_goTo_76 : decode cX2_goTo 76 = .ok (.istore_n 3, 1) := by decide +kernel
theorem dX2_goTo_77 : decode cX2_goTo 77 = .ok (.goto 14, 3) := by decide +kernel
theorem dX2_goTo_80 : decode cX2_goTo 80 = .ok (.iload_n 2, 1) := by decide +kernel
theorem dX2_goTo_81 : decode cX2_goTo 81 = .ok (.iload 5, 2) := by decide +kernel
theorem dX2_goTo_83 : decode cX2_goTo 83 = .ok (.isub, 1) := by decide +kernel
theorem dX2_goTo_84 : decode cX2_goTo 84 = .ok (.istore_n 2, 1) := by decide +kernel
theorem dX2_goTo_85 : decode cX2_goTo 85 = .ok (.iinc 6 1, 3) := by decide +kernel
theorem dX2_goTo_88 : decode cX2_goTo 88 = .ok (.goto (-54), 3) := by decide +kernel
theorem dX2_goTo_91 : decode cX2_goTo 91 = .ok (.iinc 4 1, 3) := by decide +kernel
theorem dX2_goTo_94 : decode cX2_goTo 94 = .ok (.goto (-87), 3) := by decide +kernel
theorem dX2_goTo_97 : decode cX2_goTo 97 = .ok (.aload_n 0, 1) := by decide +kernel
theorem dX2_goTo_98 : decode cX2_goTo 98 = .ok (.invokevirtual 86, 3) := by decide +kernel
theorem dX2_goTo_101 : decode cX2_goTo 101 = .ok (.return_, 1) := by decide +kernel
theorem dX2_goOn_0 : decode cX2_goOn 0 = .ok (.aload_n 0, 1) := by decide +kernel
theorem dX2_goOn_1 : decode cX2_goOn 1 = .ok (.getfield 49, 3) := by decide +kernel
theorem dX2_goOn_4 : decode cX2_goOn 4 = .ok (.iconst 2, 1) := by decide +kernel
theorem dX2_goOn_5 : decode cX2_goOn 5 = .ok (.isub, 1) := by decide +kernel
theorem dX2_goOn_6 : decode cX2_goOn 6 = .ok (.istore_n 1, 1) := by decide +kernel
theorem dX2_goOn_7 : decode cX2_goOn 7 = .ok (.iload_n 1, 1) := by decide +kernel
theorem dX2_goOn_8 : decode cX2_goOn 8 = .ok (.ifCond .lt 26, 3) := by decide +kernel
theorem dX2_goOn_11 : decode cX2_goOn 11 = .ok (.aload_n 0, 1) := by decide +kernel
theorem dX2_goOn_12 : decode cX2_goOn 12 = .ok (.getfield 9, 3) := by decide +kernel
theorem dX2_goOn_15 : decode cX2_goOn 15 = .ok (.iload_n 1, 1) := by decide +kernel
theorem dX2_goOn_16 : decode cX2_goOn 16 = .ok (.iaload, 1) := by decide +kernel
theorem dX2_goOn_17 : decode cX2_goOn 17 = .ok (.aload_n 0, 1) := by decide +kernel
theorem dX2_goOn_18 : decode cX2_goOn 18 = .ok (.getfield 9, 3) := by decide +kernel
theorem dX2_goOn_21 : decode cX2_goOn 21 = .ok (.iload_n 1, 1) := by decide +kernel
theorem dX2_goOn_22 : decode cX2_goOn 22 = .ok (.iconst 1, 1) := by decide +kernel
theorem dX2_goOn_23 : decode cX2_goOn 23 = .ok (.iadd, 1) := by decide +kernel
theorem dX2_goOn_24 : decode cX2_goOn 24 = .ok (.iaload, 1) := by decide +kernel
theorem dX2_goOn_25 : decode cX2_goOn 25 = .ok (.if_icmp .le 9, 3) := by decide +kernel
theorem dX2_goOn_28 : decode cX2_goOn 28 = .ok (.iinc 1 (-1), 3) := by decide +kernel
theorem dX2_goOn_31 : decode cX2_goOn 31 = .ok (.goto (-24), 3) := by decide +kernel
theorem dX2_goOn_34 : decode cX2_goOn 34 = .ok (.iload_n 1, 1) := by decide +kernel
theorem dX2_goOn_35 : decode cX2_goOn 35 = .ok (.ifCond .ge 4, 3) := by decide +kernel
theorem dX2_goOn_38 : decode cX2_goOn 38 = .ok (.return_, 1) := by decide +kernel
theorem dX2_goOn_39 : decode cX2_goOn 39 = .ok (.aload_n 0, 1) := by decide +kernel
theorem dX2_goOn_40 : decode cX2_goOn 40 = .ok (.getfield 49, 3) := by decide +kernel
theorem dX2_goOn_43 : decode cX2_goOn 43 = .ok (.iconst 1, 1) := by decide +kernel
theorem dX2_goOn_44 : decode cX2_goOn 44 = .ok (.isub, 1) := by decide +kernel
theorem dX2_goOn_45 : decode cX2_goOn 45 = .ok (.istore_n 2, 1) := by decide +kernel
theorem dX2_goOn_46 : decode cX2_goOn 46 = .ok (.iload_n 2, 1) := by decide +kernel
theorem dX2_goOn_47 : decode cX2_goOn 47 = .ok (.iload_n 1, 1) := by decide +kernel
theorem dX2_goOn_48 : decode cX2_goOn 48 = .ok (.if_icmp .le 24, 3) := by decide +kernel
theorem dX2_goOn_51 : decode cX2_goOn 51 = .ok (.aload_n 0, 1) := by decide +kernel
theorem dX2_goOn_52 : decode cX2_goOn 52 = .ok (.getfield 9, 3) := by decide +kernel
theorem dX2_goOn_55 : decode cX2_goOn 55 = .ok (.iload_n 2, 1) := by decide +kernel
theorem dX2_goOn_56 : decode cX2_goOn 56 = .ok (.iaload, 1) := by decide +kernel
theorem dX2_goOn_57 : decode cX2_goOn 57 = .ok (.aload_n 0, 1) := by decide +kernel
theorem dX2_goOn_58 : decode cX2_goOn 58 = .ok (.getfield 9, 3) := by decide +kernel
theorem dX2_goOn_61 : decode cX2_goOn 61 = .ok (.iload_n 1, 1) := by decide +kernel
theorem dX2_goOn_62 : decode cX2_goOn 62 = .ok (.iaload, 1) := by decide +kernel
theorem dX2_goOn_63 : decode cX2_goOn 63 = .ok (.if_icmp .ge 9, 3) := by decide +kernel
theorem dX2_goOn_66 : decode cX2_goOn 66 = .ok (.iinc 2 (-1), 3) := by decide +kernel
theorem dX2_goOn_69 : decode cX2_goOn 69 = .ok (.goto (-23), 3) := by decide +kernel
theorem dX2_goOn_72 : decode cX2_goOn 72 = .ok (.aload_n 0, 1) := by decide +kernel
theorem dX2_goOn_73 : decode cX2_goOn 73 = .ok (.iload_n 1, 1) := by decide +kernel
theorem dX2_goOn_74 : decode cX2_goOn 74 = .ok (.iload_n 2, 1) := by decide +kernel
theorem dX2_goOn_75 : decode cX2_goOn 75 = .ok (.invokevirtual 89, 3) := by decide +kernel
theorem dX2_goOn_78 : decode cX2_goOn 78 = .ok (.iload_n 1, 1) := by decide +kernel
theorem dX2_goOn_79 : decode cX2_goOn 79 = .ok (.iconst 1, 1) := by decide +kernel
theorem dX2_goOn_80 : decode cX2_goOn 80 = .ok (.iadd, 1) := by decide +kernel
theorem dX2_goOn_81 : decode cX2_goOn 81 = .ok (.istore_n 3, 1) := by decide +kernel
theorem dX2_goOn_82 : decode cX2_goOn 82 = .ok (.aload_n 0, 1) := by decide +kernel
theorem dX2_goOn_83 : decode cX2_goOn 83 = .ok (.getfield 49, 3) := by decide +kernel
theorem dX2_goOn_86 : decode cX2_goOn 86 = .ok (.iconst 1, 1) := by decide +kernel
theorem dX2_goOn_87 : decode cX2_goOn 87 = .ok (.isub, 1) := by decide +kernel
theorem dX2_goOn_88 : decode cX2_goOn 88 = .ok (.istore 4, 2) := by decide +kernel
theorem dX2_goOn_90 : decode cX2_goOn 90 = .ok (.iload_n 3, 1) := by decide +kernel
theorem dX2_goOn_91 : decode cX2_goOn 91 = .ok (.iload 4, 2) := by decide +kernel
theorem dX2_goOn_93 : decode cX2_goOn 93 = .ok (.if_icmp .ge 19, 3) := by decide +kernel
theorem dX2_goOn_96 : decode cX2_goOn 96 = .ok (.aload_n 0, 1) := by decide +kernel
theorem dX2_goOn_97 : decode cX2_goOn 97 = .ok (.iload_n 3, 1) := by decide +kernel
theorem dX2_goOn_98 : decode cX2_goOn 98 = .ok (.iload 4, 2) := by decide +kernel
theorem dX2_goOn_100 : decode cX2_goOn 100 = .ok (.invokevirtual 89, 3) := by decide +kernel
theorem dX2_goOn_103 : decode cX2_goOn 103 = .ok (.iinc 3 1, 3) := by decide +kernel
theorem dX2_goOn_106 : decode cX2_goOn 106 = .ok (.iinc 4 (-1), 3) := by decide +kernel
theorem dX2_goOn_109 : decode cX2_goOn 109 = .ok (.goto (-19), 3) := by decide +kernel
theorem dX2_goOn_112 : decode cX2_goOn 112 = .ok (.aload_n 0, 1) := by decide +kernel
theorem dX2_goOn_113 : decode cX2_goOn 113 = .ok (.invokevirtual 86, 3) := by decide +kernel
theorem dX2_goOn_116 : decode cX2_goOn 116 = .ok (.return_, 1) := by decide +kernel
theorem dX2_swap_0 : decode cX2_swap 0 = .ok (.aload_n 0, 1) := by decide +kernel
theorem dX2_swap_1 : decode cX2_swap 1 = .ok (.getfield 9, 3) := by decide +kernel
theorem dX2_swap_4 : decode cX2_swap 4 = .ok (.iload_n 1, 1) := by decide +kernel
theorem dX2_swap_5 : decode cX2_swap 5 = .ok (.iaload, 1) := by decide +kernel
theorem dX2_swap_6 : decode cX2_swap 6 = .ok (.istore_n 3, 1) := by decide +kernel
theorem dX2_swap_7 : decode cX2_swap 7 = .ok (.aload_n 0, 1) := by decide +kernel
theorem dX2_swap_8 : decode cX2_swap 8 = .ok (.getfield 9, 3) := by decide +kernel
theorem dX2_swap_11 : decode cX2_swap 11 = .ok (.iload_n 1, 1) := by decide +kernel
theorem dX2_swap_12 : decode cX2_swap 12 = .ok (.aload_n 0, 1) := by decide +kernel
theorem dX2_swap_13 : decode cX2_swap 13 = .ok (.getfield 9, 3) := by decide +kernel
theorem dX2_swap_16 : decode cX2_swap 16 = .ok (.iload_n 2, 1) := by decide +kernel
theorem dX2_swap_17 : decode cX2_swap 17 = .ok (.iaload, 1) := by decide +kernel
theorem dX2_swap_18 : decode cX2_swap 18 = .ok (.iastore, 1) := by decide +kernel
theorem dX2_swap_19 : decode cX2_swap 19 = .ok (.aload_n 0, 1) := by decide +kernel
theorem dX2_swap_20 : decode cX2_swap 20 = .ok (.getfield 9, 3) := by decide +kernel
theorem dX2_swap_23 : decode cX2_swap 23 = .ok (.iload_n 2, 1) := by decide +kernel
theorem dX2_swap_24 : decode cX2_swap 24 = .ok (.iload_n 3, 1) := by decide +kernel
theorem dX2_swap_25 : decode cX2_swap 25 = .ok (.iastore, 1) := by decide +kernel
theorem dX2_swap_26 : decode cX2_swap 26 = .ok (.return_, 1) := by decide +kernel
theorem dX2_placeDays_0 : decode cX2_placeDays 0 = .ok (.iconst 0, 1) := by decide +kernel
theorem dX2_placeDays_1 : decode cX2_placeDays 1 = .ok (.istore_n 1, 1) := by decide +kernel
theorem dX2_placeDays_2 : decode cX2_placeDays 2 = .ok (.iload_n 1, 1) := by decide +kernel
theorem dX2_placeDays_3 : decode cX2_placeDays 3 = .ok (.aload_n 0, 1) := by decide +kernel
theorem dX2_placeDays_4 : decode cX2_placeDays 4 = .ok (.getfield 49, 3) := by decide +kernel
theorem dX2_placeDays_7 : decode cX2_placeDays 7 = .ok (.if_icmp .ge 21, 3) := by decide +kernel
theorem dX2_placeDays_10 : decode cX2_placeDays 10 = .ok (.aload_n 0, 1) := by decide +kernel
theorem dX2_placeDays_11 : decode cX2_placeDays 11 = .ok (.getfield 15, 3) := by decide +kernel
theorem dX2_placeDays_14 : decode cX2_placeDays 14 = .ok (.aload_n 0, 1) := by decide +kernel
theorem dX2_placeDays_15 : decode cX2_placeDays 15 = .ok (.getfield 9, 3) := by decide +kernel
theorem dX2_placeDays_18 : decode cX2_placeDays 18 = .ok (.iload_n 1, 1) := by decide +kernel
theorem dX2_placeDays_19 : decode cX2_placeDays 19 = .ok (.iaload, 1) := by decide +kernel
theorem dX2_placeDays_20 : decode cX2_placeDays 20 = .ok (.iload_n 1, 1) := by decide +kernel
theorem dX2_placeDays_21 : decode cX2_placeDays 21 = .ok (.iastore, 1) := by decide +kernel
theorem dX2_placeDays_22 : decode cX2_placeDays 22 = .ok (.iinc 1 1, 3) := by decide +kernel
theorem dX2_placeDays_25 : decode cX2_placeDays 25 = .ok (.goto (-23), 3) := by decide +kernel
theorem dX2_placeDays_28 : decode cX2_placeDays 28 = .ok (.return_, 1) := by decide +kernel
theorem dX2_liveThrough_0 : decode cX2_liveThrough 0 = .ok (.iconst 0, 1) := by decide +kernel
theorem dX2_liveThrough_1 : decode cX2_liveThrough 1 = .ok (.istore_n 1, 1) := by decide +kernel
theorem dX2_liveThrough_2 : decode cX2_liveThrough 2 = .ok (.iconst 0, 1) := by decide +kernel
theorem dX2_liveThrough_3 : decode cX2_liveThrough 3 = .ok (.istore_n 2, 1) := by decide +kernel
theorem dX2_liveThrough_4 : decode cX2_liveThrough 4 = .ok (.iload_n 2, 1) := by decide +kernel
theorem dX2_liveThrough_5 : decode cX2_liveThrough 5 = .ok (.aload_n 0, 1) := by decide +kernel
theorem dX2_liveThrough_6 : decode cX2_liveThrough 6 = .ok (.getfield 49, 3) := by decide +kernel
theorem dX2_liveThrough_9 : decode cX2_liveThrough 9 = .ok (.if_icmp .ge 32, 3) := by decide +kernel
theorem dX2_liveThrough_12 : decode cX2_liveThrough 12 = .ok (.aload_n 0, 1) := by decide +kernel
theorem dX2_liveThrough_13 : decode cX2_liveThrough 13 = .ok (.getfield 9, 3) := by decide +kernel
theorem dX2_liveThrough_16 : decode cX2_liveThrough 16 = .ok (.iload_n 2, 1) := by decide +kernel
theorem dX2_liveThrough_17 : decode cX2_liveThrough 17 = .ok (.iaload, 1) := by decide +kernel
theorem dX2_liveThrough_18 : decode cX2_liveThrough 18 = .ok (.istore_n 3, 1) := by decide +kernel
theorem dX2_liveThrough_19 : decode cX2_liveThrough 19 = .ok (.aload_n 0, 1) := by decide +kernel
theorem dX2_liveThrough_20 : decode cX2_liveThrough 20 = .ok (.getfield 34, 3) := by decide +kernel
theorem dX2_liveThrough_23 : decode cX2_liveThrough 23 = .ok (.iload_n 3, 1) := by decide +kernel
theorem dX2_liveThrough_24 : decode cX2_liveThrough 24 = .ok (.iload_n 1, 1) := by decide +kernel
theorem dX2_liveThrough_25 : decode cX2_liveThrough 25 = .ok (.iastore, 1) := by decide +kernel
theorem dX2_liveThrough_26 : decode cX2_liveThrough 26 = .ok (.iload_n 1, 1) := by decide +kernel
theorem dX2_liveThrough_27 : decode cX2_liveThrough 27 = .ok (.aload_n 0, 1) := by decide +kernel
theorem dX2_liveThrough_28 : decode cX2_liveThrough 28 = .ok (.getfield 25, 3) := by decide +kernel
theorem dX2_liveThrough_31 : decode cX2_liveThrough 31 = .ok (.iload_n 3, 1) := by decide +kernel
theorem dX2_liveThrough_32 : decode cX2_liveThrough 32 = .ok (.iaload, 1) := by decide +kernel
theorem dX2_liveThrough_33 : decode cX2_liveThrough 33 = .ok (.ior, 1) := by decide +kernel
theorem dX2_liveThrough_34 : decode cX2_liveThrough 34 = .ok (.istore_n 1, 1) := by decide +kernel
theorem dX2_liveThrough_35 : decode cX2_liveThrough 35 = .ok (.iinc 2 1, 3) := by decide +kernel
theorem dX2_liveThrough_38 : decode cX2_liveThrough 38 = .ok (.goto (-34), 3) := by decide +kernel
theorem dX2_liveThrough_41 : decode cX2_liveThrough 41 = .ok (.aload_n 0, 1) := by decide +kernel
theorem dX2_liveThrough_42 : decode cX2_liveThrough 42 = .ok (.aload_n 0, 1) := by decide +kernel
theorem dX2_liveThrough_43 : decode cX2_liveThrough 43 = .ok (.getfield 34, 3) := by decide +kernel
theorem dX2_liveThrough_46 : decode cX2_liveThrough 46 = .ok (.invokevirtual 93, 3) := by decide +kernel
theorem dX2_liveThrough_49 : decode cX2_liveThrough 49 = .ok (.return_, 1) := by decide +kernel
theorem dX2_readByDate_0 : decode cX2_readByDate 0 = .ok (.iconst 0, 1) := by decide +kernel
theorem dX2_readByDate_1 : decode cX2_readByDate 1 = .ok (.istore_n 2, 1) := by decide +kernel
theorem dX2_readByDate_2 : decode cX2_readByDate 2 = .ok (.iconst 0, 1) := by decide +kernel
theorem dX2_readByDate_3 : decode cX2_readByDate 3 = .ok (.istore_n 3, 1) := by decide +kernel
theorem dX2_readByDate_4 : decode cX2_readByDate 4 = .ok (.iload_n 3, 1) := by decide +kernel
theorem dX2_readByDate_5 : decode cX2_readByDate 5 = .ok (.aload_n 0, 1) := by decide +kernel
theorem dX2_readByDate_6 : decode cX2_readByDate 6 = .ok (.getfield 49, 3) := by decide +kernel
theorem dX2_readByDate_9 : decode cX2_readByDate 9 = .ok (.if_icmp .ge 70, 3) := by decide +kernel
theorem dX2_readByDate_12 : decode cX2_readByDate 12 = .ok (.aload_n 0, 1) := by decide +kernel
theorem dX2_readByDate_13 : decode cX2_readByDate 13 = .ok (.getfield 37, 3) := by decide +kernel
theorem dX2_readByDate_16 : decode cX2_readByDate 16 = .ok (.iload_n 3, 1) := by decide +kernel
theorem dX2_readByDate_17 : decode cX2_readByDate 17 = .ok (.aload_n 0, 1) := by decide +kernel
theorem dX2_readByDate_18 : decode cX2_readByDate 18 = .ok (.getfield 18, 3) := by decide +kernel
theorem dX2_readByDate_21 : decode cX2_readByDate 21 = .ok (.iload_n 3, 1) := by decide +kernel
theorem dX2_readByDate_22 : decode cX2_readByDate 22 = .ok (.baload, 1) := by decide +kernel
theorem dX2_readByDate_23 : decode cX2_readByDate 23 = .ok (.ifCond .eq 7, 3) := by decide +kernel
theorem dX2_readByDate_26 : decode cX2_readByDate 26 = .ok (.iload_n 2, 1) := by decide +kernel
theorem dX2_readByDate_27 : decode cX2_readByDate 27 = .ok (.goto 4, 3) := by decide +kernel
theorem dX2_readByDate_30 : decode cX2_readByDate 30 = .ok (.iconst 0, 1) := by decide +kernel
theorem dX2_readByDate_31 : decode cX2_readByDate 31 = .ok (.iastore, 1) := by decide +kernel
theorem dX2_readByDate_32 : decode cX2_readByDate 32 = .ok (.aload_n 0, 1) := by decide +kernel
theorem dX2_readByDate_33 : decode cX2_readByDate 33 = .ok (.getfield 40, 3) := by decide +kernel
theorem dX2_readByDate_36 : decode cX2_readByDate 36 = .ok (.iload_n 3, 1) := by decide +kernel
theorem dX2_readByDate_37 : decode cX2_readByDate 37 = .ok (.aload_n 1, 1) := by decide +kernel
theorem dX2_readByDate_38 : decode cX2_readByDate 38 = .ok (.iload_n 3, 1) := by decide +kernel
theorem dX2_readByDate_39 : decode cX2_readByDate 39 = .ok (.iaload, 1) := by decide +kernel
theorem dX2_readByDate_40 : decode cX2_readByDate 40 = .ok (.aload_n 0, 1) := by decide +kernel
theorem dX2_readByDate_41 : decode cX2_readByDate 41 = .ok (.getfield 37, 3) := by decide +kernel
theorem dX2_readByDate_44 : decode cX2_readByDate 44 = .ok (.iload_n 3, 1) := by decide +kernel
theorem dX2_readByDate_45 : decode cX2_readByDate 45 = .ok (.iaload, 1) := by decide +kernel
theorem dX2_readByDate_46 : decode cX2_readByDate 46 = .ok (.ior, 1) := by decide +kernel
theorem dX2_readByDate_47 : decode cX2_readByDate 47 = .ok (.iastore, 1) := by decide +kernel
theorem dX2_readByDate_48 : decode cX2_readByDate 48 = .ok (.aload_n 0, 1) := by decide +kernel
theorem dX2_readByDate_49 : decode cX2_readByDate 49 = .ok (.getfield 22, 3) := by decide +kernel
theorem dX2_readByDate_52 : decode cX2_readByDate 52 = .ok (.iload_n 3, 1) := by decide +kernel
theorem dX2_readByDate_53 : decode cX2_readByDate 53 = .ok (.baload, 1) := by decide +kernel
theorem dX2_readByDate_54 : decode cX2_readByDate 54 = .ok (.ifCond .eq 19, 3) := by decide +kernel
theorem dX2_readByDate_57 : decode cX2_readByDate 57 = .ok (.iload_n 2, 1) := by decide +kernel
theorem dX2_readByDate_58 : decode cX2_readByDate 58 = .ok (.aload_n 0, 1) := by decide +kernel
theorem dX2_readByDate_59 : decode cX2_readByDate 59 = .ok (.getfield 31, 3) := by decide +kernel
theorem dX2_readByDate_62 : decode cX2_readByDate 62 = .ok (.iload_n 3, 1) := by decide +kernel
theorem dX2_readByDate_63 : decode cX2_readByDate 63 = .ok (.iaload, 1) := by decide +kernel
theorem dX2_readByDate_64 : decode cX2_readByDate 64 = .ok (.aload_n 0, 1) := by decide +kernel
theorem dX2_readByDate_65 : decode cX2_readByDate 65 = .ok (.getfield 40, 3) := by decide +kernel
theorem dX2_readByDate_68 : decode cX2_readByDate 68 = .ok (.iload_n 3, 1) := by decide +kernel
theorem dX2_readByDate_69 : decode cX2_readByDate 69 = .ok (.iaload, 1) := by decide +kernel
theorem dX2_readByDate_70 : decode cX2_readByDate 70 = .ok (.iand, 1) := by decide +kernel
theorem dX2_readByDate_71 : decode cX2_readByDate 71 = .ok (.ior, 1) := by decide +kernel
theorem dX2_readByDate_72 : decode cX2_readByDate 72 = .ok (.istore_n 2, 1) := by decide +kernel
theorem dX2_readByDate_73 : decode cX2_readByDate 73 = .ok (.iinc 3 1, 3) := by decide +kernel
theorem dX2_readByDate_76 : decode cX2_readByDate 76 = .ok (.goto (-72), 3) := by decide +kernel
theorem dX2_readByDate_79 : decode cX2_readByDate 79 = .ok (.return_, 1) := by decide +kernel
theorem dX2_lacking_0 : decode cX2_lacking 0 = .ok (.aload_n 0, 1) := by decide +kernel
theorem dX2_lacking_1 : decode cX2_lacking 1 = .ok (.getfield 28, 3) := by decide +kernel
theorem dX2_lacking_4 : decode cX2_lacking 4 = .ok (.iload_n 1, 1) := by decide +kernel
theorem dX2_lacking_5 : decode cX2_lacking 5 = .ok (.iaload, 1) := by decide +kernel
theorem dX2_lacking_6 : decode cX2_lacking 6 = .ok (.aload_n 0, 1) := by decide +kernel
theorem dX2_lacking_7 : decode cX2_lacking 7 = .ok (.getfield 40, 3) := by decide +kernel
theorem dX2_lacking_10 : decode cX2_lacking 10 = .ok (.iload_n 1, 1) := by decide +kernel
theorem dX2_lacking_11 : decode cX2_lacking 11 = .ok (.iaload, 1) := by decide +kernel
theorem dX2_lacking_12 : decode cX2_lacking 12 = .ok (.iconst (-1), 1) := by decide +kernel
theorem dX2_lacking_13 : decode cX2_lacking 13 = .ok (.ixor, 1) := by decide +kernel
theorem dX2_lacking_14 : decode cX2_lacking 14 = .ok (.iand, 1) := by decide +kernel
theorem dX2_lacking_15 : decode cX2_lacking 15 = .ok (.ireturn, 1) := by decide +kernel
theorem dX2_firstFailing_0 : decode cX2_firstFailing 0 = .ok (.iconst 0, 1) := by decide +kernel
theorem dX2_firstFailing_1 : decode cX2_firstFailing 1 = .ok (.istore_n 1, 1) := by decide +kernel
theorem dX2_firstFailing_2 : decode cX2_firstFailing 2 = .ok (.iload_n 1, 1) := by decide +kernel
theorem dX2_firstFailing_3 : decode cX2_firstFailing 3 = .ok (.aload_n 0, 1) := by decide +kernel
theorem dX2_firstFailing_4 : decode cX2_firstFailing 4 = .ok (.getfield 49, 3) := by decide +kernel
theorem dX2_firstFailing_7 : decode cX2_firstFailing 7 = .ok (.if_icmp .ge 29, 3) := by decide +kernel
theorem dX2_firstFailing_10 : decode cX2_firstFailing 10 = .ok (.aload_n 0, 1) := by decide +kernel
theorem dX2_firstFailing_11 : decode cX2_firstFailing 11 = .ok (.aload_n 0, 1) := by decide +kernel
theorem dX2_firstFailing_12 : decode cX2_firstFailing 12 = .ok (.getfield 9, 3) := by decide +kernel
theorem dX2_firstFailing_15 : decode cX2_firstFailing 15 = .ok (.iload_n 1, 1) := by decide +kernel
theorem dX2_firstFailing_16 : decode cX2_firstFailing 16 = .ok (.iaload, 1) := by decide +kernel
theorem dX2_firstFailing_17 : decode cX2_firstFailing 17 = .ok (.invokevirtual 97, 3) := by decide +kernel
theorem dX2_firstFailing_20 : decode cX2_firstFailing 20 = .ok (.ifCond .eq 10, 3) := by decide +kernel
theorem dX2_firstFailing_23 : decode cX2_firstFailing 23 = .ok (.aload_n 0, 1) := by decide +kernel
theorem dX2_firstFailing_24 : decode cX2_firstFailing 24 = .ok (.getfield 9, 3) := by decide +kernel
theorem dX2_firstFailing_27 : decode cX2_firstFailing 27 = .ok (.iload_n 1, 1) := by decide +kernel
theorem dX2_firstFailing_28 : decode cX2_firstFailing 28 = .ok (.iaload, 1) := by decide +kernel
theorem dX2_firstFailing_29 : decode cX2_firstFailing 29 = .ok (.ireturn, 1) := by decide +kernel
theorem dX2_firstFailing_30 : decode cX2_firstFailing 30 = .ok (.iinc 1 1, 3) := by decide +kernel
theorem dX2_firstFailing_33 : decode cX2_firstFailing 33 = .ok (.goto (-31), 3) := by decide +kernel
theorem dX2_firstFailing_36 : decode cX2_firstFailing 36 = .ok (.iconst (-1), 1) := by decide +kernel
theorem dX2_firstFailing_37 : decode cX2_firstFailing 37 = .ok (.ireturn, 1) := by decide +kernel
theorem dX2_wellAmong_0 : decode cX2_wellAmong 0 = .ok (.iconst 0, 1) := by decide +kernel
theorem dX2_wellAmong_1 : decode cX2_wellAmong 1 = .ok (.istore_n 2, 1) := by decide +kernel
theorem dX2_wellAmong_2 : decode cX2_wellAmong 2 = .ok (.iconst 0, 1) := by decide +kernel
theorem dX2_wellAmong_3 : decode cX2_wellAmong 3 = .ok (.istore_n 3, 1) := by decide +kernel
theorem dX2_wellAmong_4 : decode cX2_wellAmong 4 = .ok (.iload_n 3, 1) := by decide +kernel
theorem dX2_wellAmong_5 : decode cX2_wellAmong 5 = .ok (.iload_n 1, 1) := by decide +kernel
theorem dX2_wellAmong_6 : decode cX2_wellAmong 6 = .ok (.if_icmp .ge 25, 3) := by decide +kernel
theorem dX2_wellAmong_9 : decode cX2_wellAmong 9 = .ok (.aload_n 0, 1) := by decide +kernel
theorem dX2_wellAmong_10 : decode cX2_wellAmong 10 = .ok (.aload_n 0, 1) := by decide +kernel
theorem dX2_wellAmong_11 : decode cX2_wellAmong 11 = .ok (.getfield 9, 3) := by decide +kernel
theorem dX2_wellAmong_14 : decode cX2_wellAmong 14 = .ok (.iload_n 3, 1) := by decide +kernel
theorem dX2_wellAmong_15 : decode cX2_wellAmong 15 = .ok (.iaload, 1) := by decide +kernel
theorem dX2_wellAmong_16 : decode cX2_wellAmong 16 = .ok (.invokevirtual 97, 3) := by decide +kernel
theorem dX2_wellAmong_19 : decode cX2_wellAmong 19 = .ok (.ifCond .ne 6, 3) := by decide +kernel
theorem dX2_wellAmong_22 : decode cX2_wellAmong 22 = .ok (.iinc 2 1, 3) := by decide +kernel
theorem dX2_wellAmong_25 : decode cX2_wellAmong 25 = .ok (.iinc 3 1, 3) := by decide +kernel
theorem dX2_wellAmong_28 : decode cX2_wellAmong 28 = .ok (.goto (-24), 3) := by decide +kernel
theorem dX2_wellAmong_31 : decode cX2_wellAmong 31 = .ok (.iload_n 2, 1) := by decide +kernel
theorem dX2_wellAmong_32 : decode cX2_wellAmong 32 = .ok (.ireturn, 1) := by decide +kernel
theorem dX2_learntAmong_0 : decode cX2_learntAmong 0 = .ok (.iconst 0, 1) := by decide +kernel
theorem dX2_learntAmong_1 : decode cX2_learntAmong 1 = .ok (.istore_n 2, 1) := by decide +kernel
theorem dX2_learntAmong_2 : decode cX2_learntAmong 2 = .ok (.iconst 0, 1) := by decide +kernel
theorem dX2_learntAmong_3 : decode cX2_learntAmong 3 = .ok (.istore_n 3, 1) := by decide +kernel
theorem dX2_learntAmong_4 : decode cX2_learntAmong 4 = .ok (.iload_n 3, 1) := by decide +kernel
theorem dX2_learntAmong_5 : decode cX2_learntAmong 5 = .ok (.iload_n 1, 1) := by decide +kernel
theorem dX2_learntAmong_6 : decode cX2_learntAmong 6 = .ok (.if_icmp .ge 23, 3) := by decide +kernel
theorem dX2_learntAmong_9 : decode cX2_learntAmong 9 = .ok (.iload_n 2, 1) := by decide +kernel
theorem dX2_learntAmong_10 : decode cX2_learntAmong 10 = .ok (.aload_n 0, 1) := by decide +kernel
theorem dX2_learntAmong_11 : decode cX2_learntAmong 11 = .ok (.getfield 25, 3) := by decide +kernel
theorem dX2_learntAmong_14 : decode cX2_learntAmong 14 = .ok (.aload_n 0, 1) := by decide +kernel
theorem dX2_learntAmong_15 : decode cX2_learntAmong 15 = .ok (.getfield 9, 3) := by decide +kernel
theorem dX2_learntAmong_18 : decode cX2_learntAmong 18 = .ok (.iload_n 3, 1) := by decide +kernel
theorem dX2_learntAmong_19 : decode cX2_learntAmong 19 = .ok (.iaload, 1) := by decide +kernel
theorem dX2_learntAmong_20 : decode cX2_learntAmong 20 = .ok (.iaload, 1) := by decide +kernel
theorem dX2_learntAmong_21 : decode cX2_learntAmong 21 = .ok (.ior, 1) := by decide +kernel
theorem dX2_learntAmong_22 : decode cX2_learntAmong 22 = .ok (.istore_n 2, 1) := by decide +kernel
theorem dX2_learntAmong_23 : decode cX2_learntAmong 23 = .ok (.iinc 3 1, 3) := by decide +kernel
theorem dX2_learntAmong_26 : decode cX2_learntAmong 26 = .ok (.goto (-22), 3) := by decide +kernel
theorem dX2_learntAmong_29 : decode cX2_learntAmong 29 = .ok (.iload_n 2, 1) := by decide +kernel
theorem dX2_learntAmong_30 : decode cX2_learntAmong 30 = .ok (.ireturn, 1) := by decide +kernel
theorem dX2_daysAheadOf_0 : decode cX2_daysAheadOf 0 = .ok (.iconst 0, 1) := by decide +kernel
theorem dX2_daysAheadOf_1 : decode cX2_daysAheadOf 1 = .ok (.istore_n 2, 1) := by decide +kernel
theorem dX2_daysAheadOf_2 : decode cX2_daysAheadOf 2 = .ok (.iconst 0, 1) := by decide +kernel
theorem dX2_daysAheadOf_3 : decode cX2_daysAheadOf 3 = .ok (.istore_n 3, 1) := by decide +kernel
theorem dX2_daysAheadOf_4 : decode cX2_daysAheadOf 4 = .ok (.iload_n 3, 1) := by decide +kernel
theorem dX2_daysAheadOf_5 : decode cX2_daysAheadOf 5 = .ok (.aload_n 0, 1) := by decide +kernel
theorem dX2_daysAheadOf_6 : decode cX2_daysAheadOf 6 = .ok (.getfield 15, 3) := by decide +kernel
theorem dX2_daysAheadOf_9 : decode cX2_daysAheadOf 9 = .ok (.iload_n 1, 1) := by decide +kernel
theorem dX2_daysAheadOf_10 : decode cX2_daysAheadOf 10 = .ok (.iaload, 1) := by decide +kernel
theorem dX2_daysAheadOf_11 : decode cX2_daysAheadOf 11 = .ok (.if_icmp .ge 20, 3) := by decide +kernel
theorem dX2_daysAheadOf_14 : decode cX2_daysAheadOf 14 = .ok (.iload_n 2, 1) := by decide +kernel
theorem dX2_daysAheadOf_15 : decode cX2_daysAheadOf 15 = .ok (.iconst 1, 1) := by decide +kernel
theorem dX2_daysAheadOf_16 : decode cX2_daysAheadOf 16 = .ok (.aload_n 0, 1) := by decide +kernel
theorem dX2_daysAheadOf_17 : decode cX2_daysAheadOf 17 = .ok (.getfield 9, 3) := by decide +kernel
theorem dX2_daysAheadOf_20 : decode cX2_daysAheadOf 20 = .ok (.iload_n 3, 1) := by decide +kernel
theorem dX2_daysAheadOf_21 : decode cX2_daysAheadOf 21 = .ok (.iaload, 1) := by decide +kernel
theorem dX2_daysAheadOf_22 : decode cX2_daysAheadOf 22 = .ok (.ishl, 1) := by decide +kernel
theorem dX2_daysAheadOf_23 : decode cX2_daysAheadOf 23 = .ok (.ior, 1) := by decide +kernel
theorem dX2_daysAheadOf_24 : decode cX2_daysAheadOf 24 = .ok (.istore_n 2, 1) := by decide +kernel
theorem dX2_daysAheadOf_25 : decode cX2_daysAheadOf 25 = .ok (.iinc 3 1, 3) := by decide +kernel
theorem dX2_daysAheadOf_28 : decode cX2_daysAheadOf 28 = .ok (.goto (-24), 3) := by decide +kernel
theorem dX2_daysAheadOf_31 : decode cX2_daysAheadOf 31 = .ok (.iload_n 2, 1) := by decide +kernel
theorem dX2_daysAheadOf_32 : decode cX2_daysAheadOf 32 = .ok (.ireturn, 1) := by decide +kernel
theorem dX2_keepsTold_0 : decode cX2_keepsTold 0 = .ok (.iconst 0, 1) := by decide +kernel
theorem dX2_keepsTold_1 : decode cX2_keepsTold 1 = .ok (.istore_n 2, 1) := by decide +kernel
theorem dX2_keepsTold_2 : decode cX2_keepsTold 2 = .ok (.iload_n 2, 1) := by decide +kernel
theorem dX2_keepsTold_3 : decode cX2_keepsTold 3 = .ok (.aload_n 1, 1) := by decide +kernel
theorem dX2_keepsTold_4 : decode cX2_keepsTold 4 = .ok (.getfield 100, 3) := by decide +kernel
theorem dX2_keepsTold_7 : decode cX2_keepsTold 7 = .ok (.if_icmp .ge 36, 3) := by decide +kernel
theorem dX2_keepsTold_10 : decode cX2_keepsTold 10 = .ok (.aload_n 0, 1) := by decide +kernel
theorem dX2_keepsTold_11 : decode cX2_keepsTold 11 = .ok (.getfield 15, 3) := by decide +kernel
theorem dX2_keepsTold_14 : decode cX2_keepsTold 14 = .ok (.aload_n 1, 1) := by decide +kernel
theorem dX2_keepsTold_15 : decode cX2_keepsTold 15 = .ok (.getfield 103, 3) := by decide +kernel
theorem dX2_keepsTold_18 : decode cX2_keepsTold 18 = .ok (.iload_n 2, 1) := by decide +kernel
theorem dX2_keepsTold_19 : decode cX2_keepsTold 19 = .ok (.iaload, 1) := by decide +kernel
theorem dX2_keepsTold_20 : decode cX2_keepsTold 20 = .ok (.iaload, 1) := by decide +kernel
theorem dX2_keepsTold_21 : decode cX2_keepsTold 21 = .ok (.aload_n 0, 1) := by decide +kernel
theorem dX2_keepsTold_22 : decode cX2_keepsTold 22 = .ok (.getfield 15, 3) := by decide +kernel
theorem dX2_keepsTold_25 : decode cX2_keepsTold 25 = .ok (.aload_n 1, 1) := by decide +kernel
theorem dX2_keepsTold_26 : decode cX2_keepsTold 26 = .ok (.getfield 106, 3) := by decide +kernel
theorem dX2_keepsTold_29 : decode cX2_keepsTold 29 = .ok (.iload_n 2, 1) := by decide +kernel
theorem dX2_keepsTold_30 : decode cX2_keepsTold 30 = .ok (.iaload, 1) := by decide +kernel
theorem dX2_keepsTold_31 : decode cX2_keepsTold 31 = .ok (.iaload, 1) := by decide +kernel
theorem dX2_keepsTold_32 : decode cX2_keepsTold 32 = .ok (.if_icmp .le 5, 3) := by decide +kernel
theorem dX2_keepsTold_35 : decode cX2_keepsTold 35 = .ok (.iconst 0, 1) := by decide +kernel
theorem dX2_keepsTold_36 : decode cX2_keepsTold 36 = .ok (.ireturn, 1) := by decide +kernel
theorem dX2_keepsTold_37 : decode cX2_keepsTold 37 = .ok (.iinc 2 1, 3) := by decide +kernel
theorem dX2_keepsTold_40 : decode cX2_keepsTold 40 = .ok (.goto (-38), 3) := by decide +kernel
theorem dX2_keepsTold_43 : decode cX2_keepsTold 43 = .ok (.iconst 0, 1) := by decide +kernel
theorem dX2_keepsTold_44 : decode cX2_keepsTold 44 = .ok (.istore_n 2, 1) := by decide +kernel
theorem dX2_keepsTold_45 : decode cX2_keepsTold 45 = .ok (.iload_n 2, 1) := by decide +kernel
theorem dX2_keepsTold_46 : decode cX2_keepsTold 46 = .ok (.aload_n 0, 1) := by decide +kernel
theorem dX2_keepsTold_47 : decode cX2_keepsTold 47 = .ok (.getfield 49, 3) := by decide +kernel
theorem dX2_keepsTold_50 : decode cX2_keepsTold 50 = .ok (.if_icmp .ge 36, 3) := by decide +kernel
theorem dX2_keepsTold_53 : decode cX2_keepsTold 53 = .ok (.aload_n 1, 1) := by decide +kernel
theorem dX2_keepsTold_54 : decode cX2_keepsTold 54 = .ok (.getfield 109, 3) := by decide +kernel
theorem dX2_keepsTold_57 : decode cX2_keepsTold 57 = .ok (.iload_n 2, 1) := by decide +kernel
theorem dX2_keepsTold_58 : decode cX2_keepsTold 58 = .ok (.iaload, 1) := by decide +kernel
theorem dX2_keepsTold_59 : decode cX2_keepsTold 59 = .ok (.iconst (-1), 1) := by decide +kernel
theorem dX2_keepsTold_60 : decode cX2_keepsTold 60 = .ok (.if_icmp .eq 20, 3) := by decide +kernel
theorem dX2_keepsTold_63 : decode cX2_keepsTold 63 = .ok (.aload_n 1, 1) := by decide +kernel
theorem dX2_keepsTold_64 : decode cX2_keepsTold 64 = .ok (.getfield 109, 3) := by decide +kernel
theorem dX2_keepsTold_67 : decode cX2_keepsTold 67 = .ok (.iload_n 2, 1) := by decide +kernel
theorem dX2_keepsTold_68 : decode cX2_keepsTold 68 = .ok (.iaload, 1) := by decide +kernel
theorem dX2_keepsTold_69 : decode cX2_keepsTold 69 = .ok (.aload_n 0, 1) := by decide +kernel
theorem dX2_keepsTold_70 : decode cX2_keepsTold 70 = .ok (.getfield 15, 3) := by decide +kernel
theorem dX2_keepsTold_73 : decode cX2_keepsTold 73 = .ok (.iload_n 2, 1) := by decide +kernel
theorem dX2_keepsTold_74 : decode cX2_keepsTold 74 = .ok (.iaload, 1) := by decide +kernel
theorem dX2_keepsTold_75 : decode cX2_keepsTold 75 = .ok (.if_icmp .eq 5, 3) := by decide +kernel
theorem dX2_keepsTold_78 : decode cX2_keepsTold 78 = .ok (.iconst 0, 1) := by decide +kernel
theorem dX2_keepsTold_79 : decode cX2_keepsTold 79 = .ok (.ireturn, 1) := by decide +kernel
theorem dX2_keepsTold_80 : decode cX2_keepsTold 80 = .ok (.iinc 2 1, 3) := by decide +kernel
theorem dX2_keepsTold_83 : decode cX2_keepsTold 83 = .ok (.goto (-38), 3) := by decide +kernel
theorem dX2_keepsTold_86 : decode cX2_keepsTold 86 = .ok (.iconst 1, 1) := by decide +kernel
theorem dX2_keepsTold_87 : decode cX2_keepsTold 87 = .ok (.ireturn, 1) := by decide +kernel
theorem dX2_fitsDiary_0 : decode cX2_fitsDiary 0 = .ok (.iconst 0, 1) := by decide +kernel
theorem dX2_fitsDiary_1 : decode cX2_fitsDiary 1 = .ok (.istore_n 2, 1) := by decide +kernel
theorem dX2_fitsDiary_2 : decode cX2_fitsDiary 2 = .ok (.iload_n 2, 1) := by decide +kernel
theorem dX2_fitsDiary_3 : decode cX2_fitsDiary 3 = .ok (.aload_n 0, 1) := by decide +kernel
theorem dX2_fitsDiary_4 : decode cX2_fitsDiary 4 = .ok (.getfield 49, 3) := by decide +kernel
theorem dX2_fitsDiary_7 : decode cX2_fitsDiary 7 = .ok (.if_icmp .ge 35, 3) := by decide +kernel
theorem dX2_fitsDiary_10 : decode cX2_fitsDiary 10 = .ok (.aload_n 1, 1) := by decide +kernel
theorem dX2_fitsDiary_11 : decode cX2_fitsDiary 11 = .ok (.iload_n 2, 1) := by decide +kernel
theorem dX2_fitsDiary_12 : decode cX2_fitsDiary 12 = .ok (.iaload, 1) := by decide +kernel
theorem dX2_fitsDiary_13 : decode cX2_fitsDiary 13 = .ok (.iconst (-1), 1) := by decide +kernel
theorem dX2_fitsDiary_14 : decode cX2_fitsDiary 14 = .ok (.if_icmp .eq 22, 3) := by decide +kernel
theorem dX2_fitsDiary_17 : decode cX2_fitsDiary 17 = .ok (.aload_n 1, 1) := by decide +kernel
theorem dX2_fitsDiary_18 : decode cX2_fitsDiary 18 = .ok (.iload_n 2, 1) := by decide +kernel
theorem dX2_fitsDiary_19 : decode cX2_fitsDiary 19 = .ok (.iaload, 1) := by decide +kernel
theorem dX2_fitsDiary_20 : decode cX2_fitsDiary 20 = .ok (.aload_n 0, 1) := by decide +kernel
theorem dX2_fitsDiary_21 : decode cX2_fitsDiary 21 = .ok (.getfield 40, 3) := by decide +kernel
theorem dX2_fitsDiary_24 : decode cX2_fitsDiary 24 = .ok (.aload_n 0, 1) := by decide +kernel
theorem dX2_fitsDiary_25 : decode cX2_fitsDiary 25 = .ok (.getfield 9, 3) := by decide +kernel
theorem dX2_fitsDiary_28 : decode cX2_fitsDiary 28 = .ok (.iload_n 2, 1) := by decide +kernel
theorem dX2_fitsDiary_29 : decode cX2_fitsDiary 29 = .ok (.iaload, 1) := by decide +kernel
theorem dX2_fitsDiary_30 : decode cX2_fitsDiary 30 = .ok (.iaload, 1) := by decide +kernel
theorem dX2_fitsDiary_31 : decode cX2_fitsDiary 31 = .ok (.if_icmp .eq 5, 3) := by decide +kernel
theorem dX2_fitsDiary_34 : decode cX2_fitsDiary 34 = .ok (.iconst 0, 1) := by decide +kernel
theorem dX2_fitsDiary_35 : decode cX2_fitsDiary 35 = .ok (.ireturn, 1) := by decide +kernel
theorem dX2_fitsDiary_36 : decode cX2_fitsDiary 36 = .ok (.iinc 2 1, 3) := by decide +kernel
theorem dX2_fitsDiary_39 : decode cX2_fitsDiary 39 = .ok (.goto (-37), 3) := by decide +kernel
theorem dX2_fitsDiary_42 : decode cX2_fitsDiary 42 = .ok (.iconst 1, 1) := by decide +kernel
theorem dX2_fitsDiary_43 : decode cX2_fitsDiary 43 = .ok (.ireturn, 1) := by decide +kernel
theorem dX3_init_0 : decode cX3_init 0 = .ok (.aload_n 0, 1) := by decide +kernel
theorem dX3_init_1 : decode cX3_init 1 = .ok (.invokespecial 1, 3) := by decide +kernel
theorem dX3_init_4 : decode cX3_init 4 = .ok (.return_, 1) := by decide +kernel
theorem dX3_canWrite_0 : decode cX3_canWrite 0 = .ok (.iconst 0, 1) := by decide +kernel
theorem dX3_canWrite_1 : decode cX3_canWrite 1 = .ok (.ireturn, 1) := by decide +kernel
theorem dX3_neededOf_0 : decode cX3_neededOf 0 = .ok (.iconst 0, 1) := by decide +kernel
theorem dX3_neededOf_1 : decode cX3_neededOf 1 = .ok (.ireturn, 1) := by decide +kernel
theorem dX4_init_0 : decode cX4_init 0 = .ok (.aload_n 0, 1) := by decide +kernel
theorem dX4_init_1 : decode cX4_init 1 = .ok (.invokespecial 1, 3) := by decide +kernel
theorem dX4_init_4 : decode cX4_init 4 = .ok (.return_, 1) := by decide +kernel
theorem dX4_learntOf_0 : decode cX4_learntOf 0 = .ok (.iconst 0, 1) := by decide +kernel
theorem dX4_learntOf_1 : decode cX4_learntOf 1 = .ok (.ireturn, 1) := by decide +kernel
theorem dX5_init_0 : decode cX5_init 0 = .ok (.aload_n 0, 1) := by decide +kernel
theorem dX5_init_1 : decode cX5_init 1 = .ok (.invokespecial 3, 3) := by decide +kernel
theorem dX5_init_4 : decode cX5_init 4 = .ok (.aload_n 0, 1) := by decide +kernel
theorem dX5_init_5 : decode cX5_init 5 = .ok (.bipush 7, 2) := by decide +kernel
theorem dX5_init_7 : decode cX5_init 7 = .ok (.newarray .int, 2) := by decide +kernel
theorem dX5_init_9 : decode cX5_init 9 = .ok (.putfield 9, 3) := by decide +kernel
theorem dX5_init_12 : decode cX5_init 12 = .ok (.aload_n 0, 1) := by decide +kernel
theorem dX5_init_13 : decode cX5_init 13 = .ok (.bipush 7, 2) := by decide +kernel
theorem dX5_init_15 : decode cX5_init 15 = .ok (.newarray .int, 2) := by decide +kernel
theorem dX5_init_17 : decode cX5_init 17 = .ok (.putfield 15, 3) := by decide +kernel
theorem dX5_init_20 : decode cX5_init 20 = .ok (.aload_n 0, 1) := by decide +kernel
theorem dX5_init_21 : decode cX5_init 21 = .ok (.bipush 7, 2) := by decide +kernel
theorem dX5_init_23 : decode cX5_init 23 = .ok (.newarray .int, 2) := by decide +kernel
theorem dX5_init_25 : decode cX5_init 25 = .ok (.putfield 18, 3) := by decide +kernel
theorem dX5_init_28 : decode cX5_init 28 = .ok (.aload_n 0, 1) := by decide +kernel
theorem dX5_init_29 : decode cX5_init 29 = .ok (.bipush 7, 2) := by decide +kernel
theorem dX5_init_31 : decode cX5_init 31 = .ok (.newarray .int, 2) := by decide +kernel
theorem dX5_init_33 : decode cX5_init 33 = .ok (.putfield 21, 3) := by decide +kernel
theorem dX5_init_36 : decode cX5_init 36 = .ok (.aload_n 0, 1) := by decide +kernel
theorem dX5_init_37 : decode cX5_init 37 = .ok (.bipush 7, 2) := by decide +kernel
theorem dX5_init_39 : decode cX5_init 39 = .ok (.newarray .int, 2) := by decide +kernel
theorem dX5_init_41 : decode cX5_init 41 = .ok (.putfield 24, 3) := by decide +kernel
theorem dX5_init_44 : decode cX5_init 44 = .ok (.aload_n 0, 1) := by decide +kernel
theorem dX5_init_45 : decode cX5_init 45 = .ok (.bipush 6, 2) := by decide +kernel
theorem dX5_init_47 : decode cX5_init 47 = .ok (.newarray .int, 2) := by decide +kernel
theorem dX5_init_49 : decode cX5_init 49 = .ok (.putfield 27, 3) := by decide +kernel
theorem dX5_init_52 : decode cX5_init 52 = .ok (.aload_n 0, 1) := by decide +kernel
theorem dX5_init_53 : decode cX5_init 53 = .ok (.bipush 6, 2) := by decide +kernel
theorem dX5_init_55 : decode cX5_init 55 = .ok (.newarray .int, 2) := by decide +kernel
theorem dX5_init_57 : decode cX5_init 57 = .ok (.putfield 30, 3) := by decide +kernel
theorem dX5_init_60 : decode cX5_init 60 = .ok (.aload_n 0, 1) := by decide +kernel
theorem dX5_init_61 : decode cX5_init 61 = .ok (.bipush 6, 2) := by decide +kernel
theorem dX5_init_63 : decode cX5_init 63 = .ok (.newarray .int, 2) := by decide +kernel
theorem dX5_init_65 : decode cX5_init 65 = .ok (.putfield 33, 3) := by decide +kernel
theorem dX5_init_68 : decode cX5_init 68 = .ok (.aload_n 0, 1) := by decide +kernel
theorem dX5_init_69 : decode cX5_init 69 = .ok (.bipush 6, 2) := by decide +kernel
theorem dX5_init_71 : decode cX5_init 71 = .ok (.newarray .int, 2) := by decide +kernel
theorem dX5_init_73 : decode cX5_init 73 = .ok (.putfield 36, 3) := by decide +kernel
theorem dX5_init_76 : decode cX5_init 76 = .ok (.aload_n 0, 1) := by decide +kernel
theorem dX5_init_77 : decode cX5_init 77 = .ok (.iconst 3, 1) := by decide +kernel
theorem dX5_init_78 : decode cX5_init 78 = .ok (.newarray .int, 2) := by decide +kernel
theorem dX5_init_80 : decode cX5_init 80 = .ok (.putfield 39, 3) := by decide +kernel
theorem dX5_init_83 : decode cX5_init 83 = .ok (.aload_n 0, 1) := by decide +kernel
theorem dX5_init_84 : decode cX5_init 84 = .ok (.iconst 4, 1) := by decide +kernel
theorem dX5_init_85 : decode cX5_init 85 = .ok (.invokevirtual 42, 3) := by decide +kernel
theorem dX5_init_88 : decode cX5_init 88 = .ok (.return_, 1) := by decide +kernel
theorem dX5_startAnew_0 : decode cX5_startAnew 0 = .ok (.aload_n 0, 1) := by decide +kernel
theorem dX5_startAnew_1 : decode cX5_startAnew 1 = .ok (.iload_n 1, 1) := by decide +kernel
theorem dX5_startAnew_2 : decode cX5_startAnew 2 = .ok (.putfield 46, 3) := by decide +kernel
theorem dX5_startAnew_5 : decode cX5_startAnew 5 = .ok (.aload_n 0, 1) := by decide +kernel
theorem dX5_startAnew_6 : decode cX5_startAnew 6 = .ok (.iconst 0, 1) := by decide +kernel
theorem dX5_startAnew_7 : decode cX5_startAnew 7 = .ok (.putfield 50, 3) := by decide +kernel
theorem dX5_startAnew_10 : decode cX5_startAnew 10 = .ok (.aload_n 0, 1) := by decide +kernel
theorem dX5_startAnew_11 : decode cX5_startAnew 11 = .ok (.iconst 0, 1) := by decide +kernel
theorem dX5_startAnew_12 : decode cX5_startAnew 12 = .ok (.putfield 53, 3) := by decide +kernel
theorem dX5_startAnew_15 : decode cX5_startAnew 15 = .ok (.aload_n 0, 1) := by decide +kernel
theorem dX5_startAnew_16 : decode cX5_startAnew 16 = .ok (.iconst 0, 1) := by decide +kernel
theorem dX5_startAnew_17 : decode cX5_startAnew 17 = .ok (.putfield 56, 3) := by decide +kernel
theorem dX5_startAnew_20 : decode cX5_startAnew 20 = .ok (.aload_n 0, 1) := by decide +kernel
theorem dX5_startAnew_21 : decode cX5_startAnew 21 = .ok (.iconst 0, 1) := by decide +kernel
theorem dX5_startAnew_22 : decode cX5_startAnew 22 = .ok (.putfield 59, 3) := by decide +kernel
theorem dX5_startAnew_25 : decode cX5_startAnew 25 = .ok (.aload_n 0, 1) := by decide +kernel
theorem dX5_startAnew_26 : decode cX5_startAnew 26 = .ok (.iconst 0, 1) := by decide +kernel
theorem dX5_startAnew_27 : decode cX5_startAnew 27 = .ok (.putfield 62, 3) := by decide +kernel
theorem dX5_startAnew_30 : decode cX5_startAnew 30 = .ok (.aload_n 0, 1) := by decide +kernel
theorem dX5_startAnew_31 : decode cX5_startAnew 31 = .ok (.iconst 0, 1) := by decide +kernel
theorem dX5_startAnew_32 : decode cX5_startAnew 32 = .ok (.putfield 65, 3) := by decide +kernel
theorem dX5_startAnew_35 : decode cX5_startAnew 35 = .ok (.iconst 0, 1) := by decide +kernel
theorem dX5_startAnew_36 : decode cX5_startAnew 36 = .ok (.istore_n 2, 1) := by decide +kernel
theorem dX5_startAnew_37 : decode cX5_startAnew 37 = .ok (.iload_n 2, 1) := by decide +kernel
theorem dX5_startAnew_38 : decode cX5_startAnew 38 = .ok (.bipush 7, 2) := by decide +kernel
theorem dX5_startAnew_40 : decode cX5_startAnew 40 = .ok (.if_icmp .ge 44, 3) := by decide +kernel
theorem dX5_startAnew_43 : decode cX5_startAnew 43 = .ok (.aload_n 0, 1) := by decide +kernel
theorem dX5_startAnew_44 : decode cX5_startAnew 44 = .ok (.getfield 9, 3) := by decide +kernel
theorem dX5_startAnew_47 : decode cX5_startAnew 47 = .ok (.iload_n 2, 1) := by decide +kernel
theorem dX5_startAnew_48 : decode cX5_startAnew 48 = .ok (.iconst 0, 1) := by decide +kernel
theorem dX5_startAnew_49 : decode cX5_startAnew 49 = .ok (.iastore, 1) := by decide +kernel
theorem dX5_startAnew_50 : decode cX5_startAnew 50 = .ok (.aload_n 0, 1) := by decide +kernel
theorem dX5_startAnew_51 : decode cX5_startAnew 51 = .ok (.getfield 15, 3) := by decide +kernel
theorem dX5_startAnew_54 : decode cX5_startAnew 54 = .ok (.iload_n 2, 1) := by decide +kernel
theorem dX5_startAnew_55 : decode cX5_startAnew 55 = .ok (.iconst 0, 1) := by decide +kernel
theorem dX5_startAnew_56 : decode cX5_startAnew 56 = .ok (.iastore, 1) := by decide +kernel
theorem dX5_startAnew_57 : decode cX5_startAnew 57 = .ok (.aload_n 0, 1) := by decide +kernel
theorem dX5_startAnew_58 : decode cX5_startAnew 58 = .ok (.getfield 18, 3) := by decide +kernel
theorem dX5_startAnew_61 : decode cX5_startAnew 61 = .ok (.iload_n 2, 1) := by decide +kernel
theorem dX5_startAnew_62 : decode cX5_startAnew 62 = .ok (.iconst 0, 1) := by decide +kernel
theorem dX5_startAnew_63 : decode cX5_startAnew 63 = .ok (.iastore, 1) := by decide +kernel
theorem dX5_startAnew_64 : decode cX5_startAnew 64 = .ok (.aload_n 0, 1) := by decide +kernel
theorem dX5_startAnew_65 : decode cX5_startAnew 65 = .ok (.getfield 21, 3) := by decide +kernel
theorem dX5_startAnew_68 : decode cX5_startAnew 68 = .ok (.iload_n 2, 1) := by decide +kernel
theorem dX5_startAnew_69 : decode cX5_startAnew 69 = .ok (.iconst (-1), 1) := by decide +kernel
theorem dX5_startAnew_70 : decode cX5_startAnew 70 = .ok (.iastore, 1) := by decide +kernel
theorem dX5_startAnew_71 : decode cX5_startAnew 71 = .ok (.aload_n 0, 1) := by decide +kernel
theorem dX5_startAnew_72 : decode cX5_startAnew 72 = .ok (.getfield 24, 3) := by decide +kernel
theorem dX5_startAnew_75 : decode cX5_startAnew 75 = .ok (.iload_n 2, 1) := by decide +kernel
theorem dX5_startAnew_76 : decode cX5_startAnew 76 = .ok (.iconst (-1), 1) := by decide +kernel
theorem dX5_startAnew_77 : decode cX5_startAnew 77 = .ok (.iastore, 1) := by decide +kernel
theorem dX5_startAnew_78 : decode cX5_startAnew 78 = .ok (.iinc 2 1, 3) := by decide +kernel
theorem dX5_startAnew_81 : decode cX5_startAnew 81 = .ok (.goto (-44), 3) := by decide +kernel
theorem dX5_startAnew_84 : decode cX5_startAnew 84 = .ok (.return_, 1) := by decide +kernel
theorem dX5_copyFrom_0 : decode cX5_copyFrom 0 = .ok (.aload_n 0, 1) := by decide +kernel
theorem dX5_copyFrom_1 : decode cX5_copyFrom 1 = .ok (.aload_n 1, 1) := by decide +kernel
theorem dX5_copyFrom_2 : decode cX5_copyFrom 2 = .ok (.getfield 46, 3) := by decide +kernel
theorem dX5_copyFrom_5 : decode cX5_copyFrom 5 = .ok (.putfield 46, 3) := by decide +kernel
theorem dX5_copyFrom_8 : decode cX5_copyFrom 8 = .ok (.aload_n 0, 1) := by decide +kernel
theorem dX5_copyFrom_9 : decode cX5_copyFrom 9 = .ok (.aload_n 1, 1) := by decide +kernel
theorem dX5_copyFrom_10 : decode cX5_copyFrom 10 = .ok (.getfield 50, 3) := by decide +kernel
theorem dX5_copyFrom_13 : decode cX5_copyFrom 13 = .ok (.putfield 50, 3) := by decide +kernel
theorem dX5_copyFrom_16 : decode cX5_copyFrom 16 = .ok (.aload_n 0, 1) := by decide +kernel
theorem dX5_copyFrom_17 : decode cX5_copyFrom 17 = .ok (.aload_n 1, 1) := by decide +kernel
theorem dX5_copyFrom_18 : decode cX5_copyFrom 18 = .ok (.getfield 53, 3) := by decide +kernel
theorem dX5_copyFrom_21 : decode cX5_copyFrom 21 = .ok (.putfield 53, 3) := by decide +kernel
theorem dX5_copyFrom_24 : decode cX5_copyFrom 24 = .ok (.aload_n 0, 1) := by decide +kernel
theorem dX5_copyFrom_25 : decode cX5_copyFrom 25 = .ok (.aload_n 1, 1) := by decide +kernel
theorem dX5_copyFrom_26 : decode cX5_copyFrom 26 = .ok (.getfield 56, 3) := by decide +kernel
theorem dX5_copyFrom_29 : decode cX5_copyFrom 29 = .ok (.putfield 56, 3) := by decide +kernel
theorem dX5_copyFrom_32 : decode cX5_copyFrom 32 = .ok (.aload_n 0, 1) := by decide +kernel
theorem dX5_copyFrom_33 : decode cX5_copyFrom 33 = .ok (.aload_n 1, 1) := by decide +kernel
theorem dX5_copyFrom_34 : decode cX5_copyFrom 34 = .ok (.getfield 59, 3) := by decide +kernel
theorem dX5_copyFrom_37 : decode cX5_copyFrom 37 = .ok (.putfield 59, 3) := by decide +kernel
theorem dX5_copyFrom_40 : decode cX5_copyFrom 40 = .ok (.aload_n 0, 1) := by decide +kernel
theorem dX5_copyFrom_41 : decode cX5_copyFrom 41 = .ok (.aload_n 1, 1) := by decide +kernel
theorem dX5_copyFrom_42 : decode cX5_copyFrom 42 = .ok (.getfield 62, 3) := by decide +kernel
theorem dX5_copyFrom_45 : decode cX5_copyFrom 45 = .ok (.putfield 62, 3) := by decide +kernel
theorem dX5_copyFrom_48 : decode cX5_copyFrom 48 = .ok (.aload_n 0, 1) := by decide +kernel
theorem dX5_copyFrom_49 : decode cX5_copyFrom 49 = .ok (.aload_n 1, 1) := by decide +kernel
theorem dX5_copyFrom_50 : decode cX5_copyFrom 50 = .ok (.getfield 65, 3) := by decide +kernel
theorem dX5_copyFrom_53 : decode cX5_copyFrom 53 = .ok (.putfield 65, 3) := by decide +kernel
theorem dX5_copyFrom_56 : decode cX5_copyFrom 56 = .ok (.aload_n 1, 1) := by decide +kernel
theorem dX5_copyFrom_57 : decode cX5_copyFrom 57 = .ok (.getfield 9, 3) := by decide +kernel
theorem dX5_copyFrom_60 : decode cX5_copyFrom 60 = .ok (.iconst 0, 1) := by decide +kernel
theorem dX5_copyFrom_61 : decode cX5_copyFrom 61 = .ok (.aload_n 0, 1) := by decide +kernel
theorem dX5_copyFrom_62 : decode cX5_copyFrom 62 = .ok (.getfield 9, 3) := by decide +kernel
theorem dX5_copyFrom_65 : decode cX5_copyFrom 65 = .ok (.iconst 0, 1) := by decide +kernel
theorem dX5_copyFrom_66 : decode cX5_copyFrom 66 = .ok (.bipush 7, 2) := by decide +kernel
theorem dX5_copyFrom_68 : decode cX5_copyFrom 68 = .ok (.invokestatic 68, 3) := by decide +kernel
theorem dX5_copyFrom_71 : decode cX5_copyFrom 71 = .ok (.aload_n 1, 1) := by decide +kernel
theorem dX5_copyFrom_72 : decode cX5_copyFrom 72 = .ok (.getfield 15, 3) := by decide +kernel
theorem dX5_copyFrom_75 : decode cX5_copyFrom 75 = .ok (.iconst 0, 1) := by decide +kernel
theorem dX5_copyFrom_76 : decode cX5_copyFrom 76 = .ok (.aload_n 0, 1) := by decide +kernel
theorem dX5_copyFrom_77 : decode cX5_copyFrom 77 = .ok (.getfield 15, 3) := by decide +kernel
theorem dX5_copyFrom_80 : decode cX5_copyFrom 80 = .ok (.iconst 0, 1) := by decide +kernel
theorem dX5_copyFrom_81 : decode cX5_copyFrom 81 = .ok (.bipush 7, 2) := by decide +kernel
theorem dX5_copyFrom_83 : decode cX5_copyFrom 83 = .ok (.invokestatic 68, 3) := by decide +kernel
theorem dX5_copyFrom_86 : decode cX5_copyFrom 86 = .ok (.aload_n 1, 1) := by decide +kernel
theorem dX5_copyFrom_87 : decode cX5_copyFrom 87 = .ok (.getfield 18, 3) := by decide +kernel
theorem dX5_copyFrom_90 : decode cX5_copyFrom 90 = .ok (.iconst 0, 1) := by decide +kernel
theorem dX5_copyFrom_91 : decode cX5_copyFrom 91 = .ok (.aload_n 0, 1) := by decide +kernel
theorem dX5_copyFrom_92 : decode cX5_copyFrom 92 = .ok (.getfield 18, 3) := by decide +kernel
theorem dX5_copyFrom_95 : decode cX5_copyFrom 95 = .ok (.iconst 0, 1) := by decide +kernel
theorem dX5_copyFrom_96 : decode cX5_copyFrom 96 = .ok (.bipush 7, 2) := by decide +kernel
theorem dX5_copyFrom_98 : decode cX5_copyFrom 98 = .ok (.invokestatic 68, 3) := by decide +kernel
theorem dX5_copyFrom_101 : decode cX5_copyFrom 101 = .ok (.aload_n 1, 1) := by decide +kernel
theorem dX5_copyFrom_102 : decode cX5_copyFrom 102 = .ok (.getfield 21, 3) := by decide +kernel
theorem dX5_copyFrom_105 : decode cX5_copyFrom 105 = .ok (.iconst 0, 1) := by decide +kernel
theorem dX5_copyFrom_106 : decode cX5_copyFrom 106 = .ok (.aload_n 0, 1) := by decide +kernel
theorem dX5_copyFrom_107 : decode cX5_copyFrom 107 = .ok (.getfield 21, 3) := by decide +kernel
theorem dX5_copyFrom_110 : decode cX5_copyFrom 110 = .ok (.iconst 0, 1) := by decide +kernel
theorem dX5_copyFrom_111 : decode cX5_copyFrom 111 = .ok (.bipush 7, 2) := by decide +kernel
theorem dX5_copyFrom_113 : decode cX5_copyFrom 113 = .ok (.invokestatic 68, 3) := by decide +kernel
theorem dX5_copyFrom_116 : decode cX5_copyFrom 116 = .ok (.aload_n 1, 1) := by decide +kernel
theorem dX5_copyFrom_117 : decode cX5_copyFrom 117 = .ok (.getfield 24, 3) := by decide +kernel
theorem dX5_copyFrom_120 : decode cX5_copyFrom 120 = .ok (.iconst 0, 1) := by decide +kernel
theorem dX5_copyFrom_121 : decode cX5_copyFrom 121 = .ok (.aload_n 0, 1) := by decide +kernel
theorem dX5_copyFrom_122 : decode cX5_copyFrom 122 = .ok (.getfield 24, 3) := by decide +kernel
theorem dX5_copyFrom_125 : decode cX5_copyFrom 125 = .ok (.iconst 0, 1) := by decide +kernel
theorem dX5_copyFrom_126 : decode cX5_copyFrom 126 = .ok (.bipush 7, 2) := by decide +kernel
theorem dX5_copyFrom_128 : decode cX5_copyFrom 128 = .ok (.invokestatic 68, 3) := by decide +kernel
theorem dX5_copyFrom_131 : decode cX5_copyFrom 131 = .ok (.aload_n 1, 1) := by decide +kernel
theorem dX5_copyFrom_132 : decode cX5_copyFrom 132 = .ok (.getfield 27, 3) := by decide +kernel
theorem dX5_copyFrom_135 : decode cX5_copyFrom 135 = .ok (.iconst 0, 1) := by decide +kernel
theorem dX5_copyFrom_136 : decode cX5_copyFrom 136 = .ok (.aload_n 0, 1) := by decide +kernel
theorem dX5_copyFrom_137 : decode cX5_copyFrom 137 = .ok (.getfield 27, 3) := by decide +kernel
theorem dX5_copyFrom_140 : decode cX5_copyFrom 140 = .ok (.iconst 0, 1) := by decide +kernel
theorem dX5_copyFrom_141 : decode cX5_copyFrom 141 = .ok (.bipush 6, 2) := by decide +kernel
theorem dX5_copyFrom_143 : decode cX5_copyFrom 143 = .ok (.invokestatic 68, 3) := by decide +kernel
theorem dX5_copyFrom_146 : decode cX5_copyFrom 146 = .ok (.aload_n 1, 1) := by decide +kernel
theorem dX5_copyFrom_147 : decode cX5_copyFrom 147 = .ok (.getfield 30, 3) := by decide +kernel
theorem dX5_copyFrom_150 : decode cX5_copyFrom 150 = .ok (.iconst 0, 1) := by decide +kernel
theorem dX5_copyFrom_151 : decode cX5_copyFrom 151 = .ok (.aload_n 0, 1) := by decide +kernel
theorem dX5_copyFrom_152 : decode cX5_copyFrom 152 = .ok (.getfield 30, 3) := by decide +kernel
theorem dX5_copyFrom_155 : decode cX5_copyFrom 155 = .ok (.iconst 0, 1) := by decide +kernel
theorem dX5_copyFrom_156 : decode cX5_copyFrom 156 = .ok (.bipush 6, 2) := by decide +kernel
theorem dX5_copyFrom_158 : decode cX5_copyFrom 158 = .ok (.invokestatic 68, 3) := by decide +kernel
theorem dX5_copyFrom_161 : decode cX5_copyFrom 161 = .ok (.aload_n 1, 1) := by decide +kernel
theorem dX5_copyFrom_162 : decode cX5_copyFrom 162 = .ok (.getfield 33, 3) := by decide +kernel
theorem dX5_copyFrom_165 : decode cX5_copyFrom 165 = .ok (.iconst 0, 1) := by decide +kernel
theorem dX5_copyFrom_166 : decode cX5_copyFrom 166 = .ok (.aload_n 0, 1) := by decide +kernel
theorem dX5_copyFrom_167 : decode cX5_copyFrom 167 = .ok (.getfield 33, 3) := by decide +kernel
theorem dX5_copyFrom_170 : decode cX5_copyFrom 170 = .ok (.iconst 0, 1) := by decide +kernel
theorem dX5_copyFrom_171 : decode cX5_copyFrom 171 = .ok (.bipush 6, 2) := by decide +kernel
theorem dX5_copyFrom_173 : decode cX5_copyFrom 173 = .ok (.invokestatic 68, 3) := by decide +kernel
theorem dX5_copyFrom_176 : decode cX5_copyFrom 176 = .ok (.aload_n 1, 1) := by decide +kernel
theorem dX5_copyFrom_177 : decode cX5_copyFrom 177 = .ok (.getfield 36, 3) := by decide +kernel
theorem dX5_copyFrom_180 : decode cX5_copyFrom 180 = .ok (.iconst 0, 1) := by decide +kernel
theorem dX5_copyFrom_181 : decode cX5_copyFrom 181 = .ok (.aload_n 0, 1) := by decide +kernel
theorem dX5_copyFrom_182 : decode cX5_copyFrom 182 = .ok (.getfield 36, 3) := by decide +kernel
theorem dX5_copyFrom_185 : decode cX5_copyFrom 185 = .ok (.iconst 0, 1) := by decide +kernel
theorem dX5_copyFrom_186 : decode cX5_copyFrom 186 = .ok (.bipush 6, 2) := by decide +kernel
theorem dX5_copyFrom_188 : decode cX5_copyFrom 188 = .ok (.invokestatic 68, 3) := by decide +kernel
theorem dX5_copyFrom_191 : decode cX5_copyFrom 191 = .ok (.aload_n 1, 1) := by decide +kernel
theorem dX5_copyFrom_192 : decode cX5_copyFrom 192 = .ok (.getfield 39, 3) := by decide +kernel
theorem dX5_copyFrom_195 : decode cX5_copyFrom 195 = .ok (.iconst 0, 1) := by decide +kernel
theorem dX5_copyFrom_196 : decode cX5_copyFrom 196 = .ok (.aload_n 0, 1) := by decide +kernel
theorem dX5_copyFrom_197 : decode cX5_copyFrom 197 = .ok (.getfield 39, 3) := by decide +kernel
theorem dX5_copyFrom_200 : decode cX5_copyFrom 200 = .ok (.iconst 0, 1) := by decide +kernel
theorem dX5_copyFrom_201 : decode cX5_copyFrom 201 = .ok (.iconst 3, 1) := by decide +kernel
theorem dX5_copyFrom_202 : decode cX5_copyFrom 202 = .ok (.invokestatic 68, 3) := by decide +kernel
theorem dX5_copyFrom_205 : decode cX5_copyFrom 205 = .ok (.return_, 1) := by decide +kernel
theorem dX5_hasDay_0 : decode cX5_hasDay 0 = .ok (.iload_n 1, 1) := by decide +kernel
theorem dX5_hasDay_1 : decode cX5_hasDay 1 = .ok (.ifCond .lt 15, 3) := by decide +kernel
theorem dX5_hasDay_4 : decode cX5_hasDay 4 = .ok (.iload_n 1, 1) := by decide +kernel
theorem dX5_hasDay_5 : decode cX5_hasDay 5 = .ok (.aload_n 0, 1) := by decide +kernel
theorem dX5_hasDay_6 : decode cX5_hasDay 6 = .ok (.getfield 46, 3) := by decide +kernel
theorem dX5_hasDay_9 : decode cX5_hasDay 9 = .ok (.if_icmp .ge 7, 3) := by decide +kernel
theorem dX5_hasDay_12 : decode cX5_hasDay 12 = .ok (.iconst 1, 1) := by decide +kernel
theorem dX5_hasDay_13 : decode cX5_hasDay 13 = .ok (.goto 4, 3) := by decide +kernel
theorem dX5_hasDay_16 : decode cX5_hasDay 16 = .ok (.iconst 0, 1) := by decide +kernel
theorem dX5_hasDay_17 : decode cX5_hasDay 17 = .ok (.ireturn, 1) := by decide +kernel
theorem dX5_orders_0 : decode cX5_orders 0 = .ok (.getstatic 74, 3) := by decide +kernel
theorem dX5_orders_3 : decode cX5_orders 3 = .ok (.aload_n 0, 1) := by decide +kernel
theorem dX5_orders_4 : decode cX5_orders 4 = .ok (.getfield 46, 3) := by decide +kernel
theorem dX5_orders_7 : decode cX5_orders 7 = .ok (.iaload, 1) := by decide +kernel
theorem dX5_orders_8 : decode cX5_orders 8 = .ok (.ireturn, 1) := by decide +kernel
theorem dX5_hasRank_0 : decode cX5_hasRank 0 = .ok (.iload_n 1, 1) := by decide +kernel
theorem dX5_hasRank_1 : decode cX5_hasRank 1 = .ok (.ifCond .lt 15, 3) := by decide +kernel
theorem dX5_hasRank_4 : decode cX5_hasRank 4 = .ok (.iload_n 1, 1) := by decide +kernel
theorem dX5_hasRank_5 : decode cX5_hasRank 5 = .ok (.aload_n 0, 1) := by decide +kernel
theorem dX5_hasRank_6 : decode cX5_hasRank 6 = .ok (.invokevirtual 77, 3) := by decide +kernel
theorem dX5_hasRank_9 : decode cX5_hasRank 9 = .ok (.if_icmp .ge 7, 3) := by decide +kernel
theorem dX5_hasRank_12 : decode cX5_hasRank 12 = .ok (.iconst 1, 1) := by decide +kernel
theorem dX5_hasRank_13 : decode cX5_hasRank 13 = .ok (.goto 4, 3) := by decide +kernel
theorem dX5_hasRank_16 : decode cX5_hasRank 16 = .ok (.iconst 0, 1) := by decide +kernel
theorem dX5_hasRank_17 : decode cX5_hasRank 17 = .ok (.ireturn, 1) := by decide +kernel
theorem dX5_tellDays_0 : decode cX5_tellDays 0 = .ok (.iload_n 1, 1) := by decide +kernel
theorem dX5_tellDays_1 : decode cX5_tellDays 1 = .ok (.iconst 1, 1) := by decide +kernel
theorem dX5_tellDays_2 : decode cX5_tellDays 2 = .ok (.if_icmp .lt 9, 3) := by decide +kernel
theorem dX5_tellDays_5 : decode cX5_tellDays 5 = .ok (.iload_n 1, 1) := by decide +kernel
theorem dX5_tellDays_6 : decode cX5_tellDays 6 = .ok (.bipush 7, 2) := by decide +kernel
theorem dX5_tellDays_8 : decode cX5_tellDays 8 = .ok (.if_icmp .le 6, 3) := by decide +kernel
theorem dX5_tellDays_11 : decode cX5_tellDays 11 = .ok (.bipush (-2), 2) := by decide +kernel
theorem dX5_tellDays_13 : decode cX5_tellDays 13 = .ok (.ireturn, 1) := by decide +kernel
theorem dX5_tellDays_14 : decode cX5_tellDays 14 = .ok (.aload_n 0, 1) := by decide +kernel
theorem dX5_tellDays_15 : decode cX5_tellDays 15 = .ok (.getfield 46, 3) := by decide +kernel
theorem dX5_tellDays_18 : decode cX5_tellDays 18 = .ok (.istore_n 2, 1) := by decide +kernel
theorem dX5_tellDays_19 : decode cX5_tellDays 19 = .ok (.aload_n 0, 1) := by decide +kernel
theorem dX5_tellDays_20 : decode cX5_tellDays 20 = .ok (.iload_n 1, 1) := by decide +kernel
theorem dX5_tellDays_21 : decode cX5_tellDays 21 = .ok (.invokevirtual 42, 3) := by decide +kernel
theorem dX5_tellDays_24 : decode cX5_tellDays 24 = .ok (.iload_n 2, 1) := by decide +kernel
theorem dX5_tellDays_25 : decode cX5_tellDays 25 = .ok (.ireturn, 1) := by decide +kernel
theorem dX5_tellKind_0 : decode cX5_tellKind 0 = .ok (.aload_n 0, 1) := by decide +kernel
theorem dX5_tellKind_1 : decode cX5_tellKind 1 = .ok (.iload_n 1, 1) := by decide +kernel
theorem dX5_tellKind_2 : decode cX5_tellKind 2 = .ok (.invokevirtual 81, 3) := by decide +kernel
theorem dX5_tellKind_5 : decode cX5_tellKind 5 = .ok (.ifCond .eq 13, 3) := by decide +kernel
theorem dX5_tellKind_8 : decode cX5_tellKind 8 = .ok (.iload_n 2, 1) := by decide +kernel
theorem dX5_tellKind_9 : decode cX5_tellKind 9 = .ok (.ifCond .lt 9, 3) := by decide +kernel
theorem dX5_tellKind_12 : decode cX5_tellKind 12 = .ok (.iload_n 2, 1) := by decide +kernel
theorem dX5_tellKind_13 : decode cX5_tellKind 13 = .ok (.bipush 6, 2) := by decide +kernel
theorem dX5_tellKind_15 : decode cX5_tellKind 15 = .ok (.if_icmp .lt 6, 3) := by decide +kernel
theorem dX5_tellKind_18 : decode cX5_tellKind 18 = .ok (.bipush (-2), 2) := by decide +kernel
theorem dX5_tellKind_20 : decode cX5_tellKind 20 = .ok (.ireturn, 1) := by decide +kernel
theorem dX5_tellKind_21 : decode cX5_tellKind 21 = .ok (.aload_n 0, 1) := by decide +kernel
theorem dX5_tellKind_22 : decode cX5_tellKind 22 = .ok (.getfield 9, 3) := by decide +kernel
theorem dX5_tellKind_25 : decode cX5_tellKind 25 = .ok (.iload_n 1, 1) := by decide +kernel
theorem dX5_tellKind_26 : decode cX5_tellKind 26 = .ok (.iaload, 1) := by decide +kernel
theorem dX5_tellKind_27 : decode cX5_tellKind 27 = .ok (.istore_n 3, 1) := by decide +kernel
theorem dX5_tellKind_28 : decode cX5_tellKind 28 = .ok (.aload_n 0, 1) := by decide +kernel
theorem dX5_tellKind_29 : decode cX5_tellKind 29 = .ok (.getfield 9, 3) := by decide +kernel
theorem dX5_tellKind_32 : decode cX5_tellKind 32 = .ok (.iload_n 1, 1) := by decide +kernel
theorem dX5_tellKind_33 : decode cX5_tellKind 33 = .ok (.iload_n 2, 1) := by decide +kernel
theorem dX5_tellKind_34 : decode cX5_tellKind 34 = .ok (.iastore, 1) := by decide +kernel
theorem dX5_tellKind_35 : decode cX5_tellKind 35 = .ok (.aload_n 0, 1) := by decide +kernel
theorem dX5_tellKind_36 : decode cX5_tellKind 36 = .ok (.iconst 0, 1) := by decide +kernel
theorem dX5_tellKind_37 : decode cX5_tellKind 37 = .ok (.putfield 65, 3) := by decide +kernel
theorem dX5_tellKind_40 : decode cX5_tellKind 40 = .ok (.iload_n 3, 1) := by decide +kernel
theorem dX5_tellKind_41 : decode cX5_tellKind 41 = .ok (.ireturn, 1) := by decide +kernel
theorem dX5_tellFact_0 : decode cX5_tellFact 0 = .ok (.aload_n 0, 1) := by decide +kernel
theorem dX5_tellFact_1 : decode cX5_tellFact 1 = .ok (.iload_n 1, 1) := by decide +kernel
theorem dX5_tellFact_2 : decode cX5_tellFact 2 = .ok (.invokevirtual 81, 3) := by decide +kernel
theorem dX5_tellFact_5 : decode cX5_tellFact 5 = .ok (.ifCond .eq 19, 3) := by decide +kernel
theorem dX5_tellFact_8 : decode cX5_tellFact 8 = .ok (.iload_n 2, 1) := by decide +kernel
theorem dX5_tellFact_9 : decode cX5_tellFact 9 = .ok (.ifCond .lt 15, 3) := by decide +kernel
theorem dX5_tellFact_12 : decode cX5_tellFact 12 = .ok (.iload_n 2, 1) := by decide +kernel
theorem dX5_tellFact_13 : decode cX5_tellFact 13 = .ok (.iconst 1, 1) := by decide +kernel
theorem dX5_tellFact_14 : decode cX5_tellFact 14 = .ok (.if_icmp .gt 10, 3) := by decide +kernel
theorem dX5_tellFact_17 : decode cX5_tellFact 17 = .ok (.iload_n 3, 1) := by decide +kernel
theorem dX5_tellFact_18 : decode cX5_tellFact 18 = .ok (.invokestatic 85, 3) := by decide +kernel
theorem dX5_tellFact_21 : decode cX5_tellFact 21 = .ok (.ifCond .ne 6, 3) := by decide +kernel
theorem dX5_tellFact_24 : decode cX5_tellFact 24 = .ok (.bipush (-2), 2) := by decide +kernel
theorem dX5_tellFact_26 : decode cX5_tellFact 26 = .ok (.ireturn, 1) := by decide +kernel
theorem dX5_tellFact_27 : decode cX5_tellFact 27 = .ok (.iload_n 2, 1) := by decide +kernel
theorem dX5_tellFact_28 : decode cX5_tellFact 28 = .ok (.ifCond .ne 10, 3) := by decide +kernel
theorem dX5_tellFact_31 : decode cX5_tellFact 31 = .ok (.aload_n 0, 1) := by decide +kernel
theorem dX5_tellFact_32 : decode cX5_tellFact 32 = .ok (.getfield 15, 3) := by decide +kernel
theorem dX5_tellFact_35 : decode cX5_tellFact 35 = .ok (.goto 7, 3) := by decide +kernel
theorem dX5_tellFact_38 : decode cX5_tellFact 38 = .ok (.aload_n 0, 1) := by decide +kernel
theorem dX5_tellFact_39 : decode cX5_tellFact 39 = .ok (.getfield 18, 3) := by decide +kernel
theorem dX5_tellFact_42 : decode cX5_tellFact 42 = .ok (.astore 5, 2) := by decide +kernel
theorem dX5_tellFact_44 : decode cX5_tellFact 44 = .ok (.aload 5, 2) := by decide +kernel
theorem dX5_tellFact_46 : decode cX5_tellFact 46 = .ok (.iload_n 1, 1) := by decide +kernel
theorem dX5_tellFact_47 : decode cX5_tellFact 47 = .ok (.iaload, 1) := by decide +kernel
theorem dX5_tellFact_48 : decode cX5_tellFact 48 = .ok (.iload_n 3, 1) := by decide +kernel
theorem dX5_tellFact_49 : decode cX5_tellFact 49 = .ok (.ishr, 1) := by decide +kernel
theorem dX5_tellFact_50 : decode cX5_tellFact 50 = .ok (.iconst 1, 1) := by decide +kernel
theorem dX5_tellFact_51 : decode cX5_tellFact 51 = .ok (.iand, 1) := by decide +kernel
theorem dX5_tellFact_52 : decode cX5_tellFact 52 = .ok (.ifCond .eq 7, 3) := by decide +kernel
theorem dX5_tellFact_55 : decode cX5_tellFact 55 = .ok (.iconst 1, 1) := by decide +kernel
theorem dX5_tellFact_56 : decode cX5_tellFact 56 = .ok (.goto 4, 3) := by decide +kernel
theorem dX5_tellFact_59 : decode cX5_tellFact 59 = .ok (.iconst 0, 1) := by decide +kernel
theorem dX5_tellFact_60 : decode cX5_tellFact 60 = .ok (.istore 6, 2) := by decide +kernel
theorem dX5_tellFact_62 : decode cX5_tellFact 62 = .ok (.iload 6, 2) := by decide +kernel
theorem dX5_tellFact_64 : decode cX5_tellFact 64 = .ok (.iload 4, 2) := by decide +kernel
theorem dX5_tellFact_66 : decode cX5_tellFact 66 = .ok (.if_icmp .ne 6, 3) := by decide +kernel
theorem dX5_tellFact_69 : decode cX5_tellFact 69 = .ok (.bipush (-3), 2) := by decide +kernel
theorem dX5_tellFact_71 : decode cX5_tellFact 71 = .ok (.ireturn, 1) := by decide +kernel
theorem dX5_tellFact_72 : decode cX5_tellFact 72 = .ok (.aload 5, 2) := by decide +kernel
theorem dX5_tellFact_74 : decode cX5_tellFact 74 = .ok (.iload_n 1, 1) := by decide +kernel
theorem dX5_tellFact_75 : decode cX5_tellFact 75 = .ok (.dup2, 1) := by decide +kernel
theorem dX5_tellFact_76 : decode cX5_tellFact 76 = .ok (.iaload, 1) := by decide +kernel
theorem dX5_tellFact_77 : decode cX5_tellFact 77 = .ok (.iconst 1, 1) := by decide +kernel
theorem dX5_tellFact_78 : decode cX5_tellFact 78 = .ok (.iload_n 3, 1) := by decide +kernel
theorem dX5_tellFact_79 : decode cX5_tellFact 79 = .ok (.ishl, 1) := by decide +kernel
theorem dX5_tellFact_80 : decode cX5_tellFact 80 = .ok (.ixor, 1) := by decide +kernel
theorem dX5_tellFact_81 : decode cX5_tellFact 81 = .ok (.iastore, 1) := by decide +kernel
theorem dX5_tellFact_82 : decode cX5_tellFact 82 = .ok (.aload_n 0, 1) := by decide +kernel
theorem dX5_tellFact_83 : decode cX5_tellFact 83 = .ok (.iconst 0, 1) := by decide +kernel
theorem dX5_tellFact_84 : decode cX5_tellFact 84 = .ok (.putfield 65, 3) := by decide +kernel
theorem dX5_tellFact_87 : decode cX5_tellFact 87 = .ok (.iconst 1, 1) := by decide +kernel
theorem dX5_tellFact_88 : decode cX5_tellFact 88 = .ok (.ireturn, 1) := by decide +kernel
theorem dX5_tellNote_0 : decode cX5_tellNote 0 = .ok (.aload_n 0, 1) := by decide +kernel
theorem dX5_tellNote_1 : decode cX5_tellNote 1 = .ok (.iload_n 1, 1) := by decide +kernel
theorem dX5_tellNote_2 : decode cX5_tellNote 2 = .ok (.invokevirtual 81, 3) := by decide +kernel
theorem dX5_tellNote_5 : decode cX5_tellNote 5 = .ok (.ifCond .eq 10, 3) := by decide +kernel
theorem dX5_tellNote_8 : decode cX5_tellNote 8 = .ok (.iload_n 2, 1) := by decide +kernel
theorem dX5_tellNote_9 : decode cX5_tellNote 9 = .ok (.invokestatic 85, 3) := by decide +kernel
theorem dX5_tellNote_12 : decode cX5_tellNote 12 = .ok (.ifCond .ne 6, 3) := by decide +kernel
theorem dX5_tellNote_15 : decode cX5_tellNote 15 = .ok (.bipush (-2), 2) := by decide +kernel
theorem dX5_tellNote_17 : decode cX5_tellNote 17 = .ok (.ireturn, 1) := by decide +kernel
theorem dX5_tellNote_18 : decode cX5_tellNote 18 = .ok (.aload_n 0, 1) := by decide +kernel
theorem dX5_tellNote_19 : decode cX5_tellNote 19 = .ok (.iload_n 1, 1) := by decide +kernel
theorem dX5_tellNote_20 : decode cX5_tellNote 20 = .ok (.invokevirtual 88, 3) := by decide +kernel
theorem dX5_tellNote_23 : decode cX5_tellNote 23 = .ok (.iload_n 2, 1) := by decide +kernel
theorem dX5_tellNote_24 : decode cX5_tellNote 24 = .ok (.ishr, 1) := by decide +kernel
theorem dX5_tellNote_25 : decode cX5_tellNote 25 = .ok (.iconst 1, 1) := by decide +kernel
theorem dX5_tellNote_26 : decode cX5_tellNote 26 = .ok (.iand, 1) := by decide +kernel
theorem dX5_tellNote_27 : decode cX5_tellNote 27 = .ok (.ifCond .eq 6, 3) := by decide +kernel
theorem dX5_tellNote_30 : decode cX5_tellNote 30 = .ok (.bipush (-3), 2) := by decide +kernel
theorem dX5_tellNote_32 : decode cX5_tellNote 32 = .ok (.ireturn, 1) := by decide +kernel
theorem dX5_tellNote_33 : decode cX5_tellNote 33 = .ok (.aload_n 0, 1) := by decide +kernel
theorem dX5_tellNote_34 : decode cX5_tellNote 34 = .ok (.getfield 50, 3) := by decide +kernel
theorem dX5_tellNote_37 : decode cX5_tellNote 37 = .ok (.bipush 6, 2) := by decide +kernel
theorem dX5_tellNote_39 : decode cX5_tellNote 39 = .ok (.if_icmp .lt 6, 3) := by decide +kernel
theorem dX5_tellNote_42 : decode cX5_tellNote 42 = .ok (.bipush (-4), 2) := by decide +kernel
theorem dX5_tellNote_44 : decode cX5_tellNote 44 = .ok (.ireturn, 1) := by decide +kernel
theorem dX5_tellNote_45 : decode cX5_tellNote 45 = .ok (.aload_n 0, 1) := by decide +kernel
theorem dX5_tellNote_46 : decode cX5_tellNote 46 = .ok (.getfield 27, 3) := by decide +kernel
theorem dX5_tellNote_49 : decode cX5_tellNote 49 = .ok (.aload_n 0, 1) := by decide +kernel
theorem dX5_tellNote_50 : decode cX5_tellNote 50 = .ok (.getfield 50, 3) := by decide +kernel
theorem dX5_tellNote_53 : decode cX5_tellNote 53 = .ok (.iload_n 1, 1) := by decide +kernel
theorem dX5_tellNote_54 : decode cX5_tellNote 54 = .ok (.iastore, 1) := by decide +kernel
theorem dX5_tellNote_55 : decode cX5_tellNote 55 = .ok (.aload_n 0, 1) := by decide +kernel
theorem dX5_tellNote_56 : decode cX5_tellNote 56 = .ok (.getfield 30, 3) := by decide +kernel
theorem dX5_tellNote_59 : decode cX5_tellNote 59 = .ok (.aload_n 0, 1) := by decide +kernel
theorem dX5_tellNote_60 : decode cX5_tellNote 60 = .ok (.getfield 50, 3) := by decide +kernel
theorem dX5_tellNote_63 : decode cX5_tellNote 63 = .ok (.iload_n 2, 1) := by decide +kernel
theorem dX5_tellNote_64 : decode cX5_tellNote 64 = .ok (.iastore, 1) := by decide +kernel
theorem dX5_tellNote_65 : decode cX5_tellNote 65 = .ok (.aload_n 0, 1) := by decide +kernel
theorem dX5_tellNote_66 : decode cX5_tellNote 66 = .ok (.iconst 0, 1) := by decide +kernel
theorem dX5_tellNote_67 : decode cX5_tellNote 67 = .ok (.putfield 65, 3) := by decide +kernel
theorem dX5_tellNote_70 : decode cX5_tellNote 70 = .ok (.aload_n 0, 1) := by decide +kernel
theorem dX5_tellNote_71 : decode cX5_tellNote 71 = .ok (.dup, 1) := by decide +kernel
theorem dX5_tellNote_72 : decode cX5_tellNote 72 = .ok (.getfield 50, 3) := by decide +kernel
theorem dX5_tellNote_75 : decode cX5_tellNote 75 = .ok (.dup_x1, 1) := by decide +kernel
theorem dX5_tellNote_76 : decode cX5_tellNote 76 = .ok (.iconst 1, 1) := by decide +kernel
theorem dX5_tellNote_77 : decode cX5_tellNote 77 = .ok (.iadd, 1) := by decide +kernel
theorem dX5_tellNote_78 : decode cX5_tellNote 78 = .ok (.putfield 50, 3) := by decide +kernel
theorem dX5_tellNote_81 : decode cX5_tellNote 81 = .ok (.ireturn, 1) := by decide +kernel
theorem dX5_tellPair_0 : decode cX5_tellPair 0 = .ok (.aload_n 0, 1) := by decide +kernel
theorem dX5_tellPair_1 : decode cX5_tellPair 1 = .ok (.iload_n 1, 1) := by decide +kernel
theorem dX5_tellPair_2 : decode cX5_tellPair 2 = .ok (.invokevirtual 81, 3) := by decide +kernel
theorem dX5_tellPair_5 : decode cX5_tellPair 5 = .ok (.ifCond .eq 16, 3) := by decide +kernel
theorem dX5_tellPair_8 : decode cX5_tellPair 8 = .ok (.aload_n 0, 1) := by decide +kernel
theorem dX5_tellPair_9 : decode cX5_tellPair 9 = .ok (.iload_n 2, 1) := by decide +kernel
theorem dX5_tellPair_10 : decode cX5_tellPair 10 = .ok (.invokevirtual 81, 3) := by decide +kernel
theorem dX5_tellPair_13 : decode cX5_tellPair 13 = .ok (.ifCond .eq 8, 3) := by decide +kernel
theorem dX5_tellPair_16 : decode cX5_tellPair 16 = .ok (.iload_n 1, 1) := by decide +kernel
theorem dX5_tellPair_17 : decode cX5_tellPair 17 = .ok (.iload_n 2, 1) := by decide +kernel
theorem dX5_tellPair_18 : decode cX5_tellPair 18 = .ok (.if_icmp .ne 6, 3) := by decide +kernel
theorem dX5_tellPair_21 : decode cX5_tellPair 21 = .ok (.bipush (-2), 2) := by decide +kernel
theorem dX5_tellPair_23 : decode cX5_tellPair 23 = .ok (.ireturn, 1) := by decide +kernel
theorem dX5_tellPair_24 : decode cX5_tellPair 24 = .ok (.aload_n 0, 1) := by decide +kernel
theorem dX5_tellPair_25 : decode cX5_tellPair 25 = .ok (.getfield 53, 3) := by decide +kernel
theorem dX5_tellPair_28 : decode cX5_tellPair 28 = .ok (.bipush 6, 2) := by decide +kernel
theorem dX5_tellPair_30 : decode cX5_tellPair 30 = .ok (.if_icmp .lt 6, 3) := by decide +kernel
theorem dX5_tellPair_33 : decode cX5_tellPair 33 = .ok (.bipush (-4), 2) := by decide +kernel
theorem dX5_tellPair_35 : decode cX5_tellPair 35 = .ok (.ireturn, 1) := by decide +kernel
theorem dX5_tellPair_36 : decode cX5_tellPair 36 = .ok (.aload_n 0, 1) := by decide +kernel
theorem dX5_tellPair_37 : decode cX5_tellPair 37 = .ok (.getfield 33, 3) := by decide +kernel
theorem dX5_tellPair_40 : decode cX5_tellPair 40 = .ok (.aload_n 0, 1) := by decide +kernel
theorem dX5_tellPair_41 : decode cX5_tellPair 41 = .ok (.getfield 53, 3) := by decide +kernel
theorem dX5_tellPair_44 : decode cX5_tellPair 44 = .ok (.iload_n 1, 1) := by decide +kernel
theorem dX5_tellPair_45 : decode cX5_tellPair 45 = .ok (.iastore, 1) := by decide +kernel
theorem dX5_tellPair_46 : decode cX5_tellPair 46 = .ok (.aload_n 0, 1) := by decide +kernel
theorem dX5_tellPair_47 : decode cX5_tellPair 47 = .ok (.getfield 36, 3) := by decide +kernel
theorem dX5_tellPair_50 : decode cX5_tellPair 50 = .ok (.aload_n 0, 1) := by decide +kernel
theorem dX5_tellPair_51 : decode cX5_tellPair 51 = .ok (.getfield 53, 3) := by decide +kernel
theorem dX5_tellPair_54 : decode cX5_tellPair 54 = .ok (.iload_n 2, 1) := by decide +kernel
theorem dX5_tellPair_55 : decode cX5_tellPair 55 = .ok (.iastore, 1) := by decide +kernel
theorem dX5_tellPair_56 : decode cX5_tellPair 56 = .ok (.aload_n 0, 1) := by decide +kernel
theorem dX5_tellPair_57 : decode cX5_tellPair 57 = .ok (.dup, 1) := by decide +kernel
theorem dX5_tellPair_58 : decode cX5_tellPair 58 = .ok (.getfield 53, 3) := by decide +kernel
theorem dX5_tellPair_61 : decode cX5_tellPair 61 = .ok (.dup_x1, 1) := by decide +kernel
theorem dX5_tellPair_62 : decode cX5_tellPair 62 = .ok (.iconst 1, 1) := by decide +kernel
theorem dX5_tellPair_63 : decode cX5_tellPair 63 = .ok (.iadd, 1) := by decide +kernel
theorem dX5_tellPair_64 : decode cX5_tellPair 64 = .ok (.putfield 53, 3) := by decide +kernel
theorem dX5_tellPair_67 : decode cX5_tellPair 67 = .ok (.ireturn, 1) := by decide +kernel
theorem dX5_tellPlace_0 : decode cX5_tellPlace 0 = .ok (.aload_n 0, 1) := by decide +kernel
theorem dX5_tellPlace_1 : decode cX5_tellPlace 1 = .ok (.iload_n 1, 1) := by decide +kernel
theorem dX5_tellPlace_2 : decode cX5_tellPlace 2 = .ok (.invokevirtual 81, 3) := by decide +kernel
theorem dX5_tellPlace_5 : decode cX5_tellPlace 5 = .ok (.ifCond .eq 16, 3) := by decide +kernel
theorem dX5_tellPlace_8 : decode cX5_tellPlace 8 = .ok (.iload_n 2, 1) := by decide +kernel
theorem dX5_tellPlace_9 : decode cX5_tellPlace 9 = .ok (.iconst (-1), 1) := by decide +kernel
theorem dX5_tellPlace_10 : decode cX5_tellPlace 10 = .ok (.if_icmp .eq 14, 3) := by decide +kernel
theorem dX5_tellPlace_13 : decode cX5_tellPlace 13 = .ok (.aload_n 0, 1) := by decide +kernel
theorem dX5_tellPlace_14 : decode cX5_tellPlace 14 = .ok (.iload_n 2, 1) := by decide +kernel
theorem dX5_tellPlace_15 : decode cX5_tellPlace 15 = .ok (.invokevirtual 81, 3) := by decide +kernel
theorem dX5_tellPlace_18 : decode cX5_tellPlace 18 = .ok (.ifCond .ne 6, 3) := by decide +kernel
theorem dX5_tellPlace_21 : decode cX5_tellPlace 21 = .ok (.bipush (-2), 2) := by decide +kernel
theorem dX5_tellPlace_23 : decode cX5_tellPlace 23 = .ok (.ireturn, 1) := by decide +kernel
theorem dX5_tellPlace_24 : decode cX5_tellPlace 24 = .ok (.aload_n 0, 1) := by decide +kernel
theorem dX5_tellPlace_25 : decode cX5_tellPlace 25 = .ok (.getfield 21, 3) := by decide +kernel
theorem dX5_tellPlace_28 : decode cX5_tellPlace 28 = .ok (.iload_n 1, 1) := by decide +kernel
theorem dX5_tellPlace_29 : decode cX5_tellPlace 29 = .ok (.iaload, 1) := by decide +kernel
theorem dX5_tellPlace_30 : decode cX5_tellPlace 30 = .ok (.istore_n 3, 1) := by decide +kernel
theorem dX5_tellPlace_31 : decode cX5_tellPlace 31 = .ok (.aload_n 0, 1) := by decide +kernel
theorem dX5_tellPlace_32 : decode cX5_tellPlace 32 = .ok (.getfield 21, 3) := by decide +kernel
theorem dX5_tellPlace_35 : decode cX5_tellPlace 35 = .ok (.iload_n 1, 1) := by decide +kernel
theorem dX5_tellPlace_36 : decode cX5_tellPlace 36 = .ok (.iload_n 2, 1) := by decide +kernel
theorem dX5_tellPlace_37 : decode cX5_tellPlace 37 = .ok (.iastore, 1) := by decide +kernel
theorem dX5_tellPlace_38 : decode cX5_tellPlace 38 = .ok (.iload_n 3, 1) := by decide +kernel
theorem dX5_tellPlace_39 : decode cX5_tellPlace 39 = .ok (.ireturn, 1) := by decide +kernel
theorem dX5_tellDiary_0 : decode cX5_tellDiary 0 = .ok (.aload_n 0, 1) := by decide +kernel
theorem dX5_tellDiary_1 : decode cX5_tellDiary 1 = .ok (.iload_n 1, 1) := by decide +kernel
theorem dX5_tellDiary_2 : decode cX5_tellDiary 2 = .ok (.invokevirtual 81, 3) := by decide +kernel
theorem dX5_tellDiary_5 : decode cX5_tellDiary 5 = .ok (.ifCond .eq 14, 3) := by decide +kernel
theorem dX5_tellDiary_8 : decode cX5_tellDiary 8 = .ok (.iload_n 2, 1) := by decide +kernel
theorem dX5_tellDiary_9 : decode cX5_tellDiary 9 = .ok (.iconst (-1), 1) := by decide +kernel
theorem dX5_tellDiary_10 : decode cX5_tellDiary 10 = .ok (.if_icmp .lt 9, 3) := by decide +kernel
theorem dX5_tellDiary_13 : decode cX5_tellDiary 13 = .ok (.iload_n 2, 1) := by decide +kernel
theorem dX5_tellDiary_14 : decode cX5_tellDiary 14 = .ok (.bipush 63, 2) := by decide +kernel
theorem dX5_tellDiary_16 : decode cX5_tellDiary 16 = .ok (.if_icmp .le 6, 3) := by decide +kernel
theorem dX5_tellDiary_19 : decode cX5_tellDiary 19 = .ok (.bipush (-2), 2) := by decide +kernel
theorem dX5_tellDiary_21 : decode cX5_tellDiary 21 = .ok (.ireturn, 1) := by decide +kernel
theorem dX5_tellDiary_22 : decode cX5_tellDiary 22 = .ok (.aload_n 0, 1) := by decide +kernel
theorem dX5_tellDiary_23 : decode cX5_tellDiary 23 = .ok (.getfield 24, 3) := by decide +kernel
theorem dX5_tellDiary_26 : decode cX5_tellDiary 26 = .ok (.iload_n 1, 1) := by decide +kernel
theorem dX5_tellDiary_27 : decode cX5_tellDiary 27 = .ok (.iaload, 1) := by decide +kernel
theorem dX5_tellDiary_28 : decode cX5_tellDiary 28 = .ok (.istore_n 3, 1) := by decide +kernel
theorem dX5_tellDiary_29 : decode cX5_tellDiary 29 = .ok (.aload_n 0, 1) := by decide +kernel
theorem dX5_tellDiary_30 : decode cX5_tellDiary 30 = .ok (.getfield 24, 3) := by decide +kernel
theorem dX5_tellDiary_33 : decode cX5_tellDiary 33 = .ok (.iload_n 1, 1) := by decide +kernel
theorem dX5_tellDiary_34 : decode cX5_tellDiary 34 = .ok (.iload_n 2, 1) := by decide +kernel
theorem dX5_tellDiary_35 : decode cX5_tellDiary 35 = .ok (.iastore, 1) := by decide +kernel
theorem dX5_tellDiary_36 : decode cX5_tellDiary 36 = .ok (.iload_n 3, 1) := by decide +kernel
theorem dX5_tellDiary_37 : decode cX5_tellDiary 37 = .ok (.ireturn, 1) := by decide +kernel
theorem dX5_tellOrder_0 : decode cX5_tellOrder 0 = .ok (.aload_n 0, 1) := by decide +kernel
theorem dX5_tellOrder_1 : decode cX5_tellOrder 1 = .ok (.iload_n 1, 1) := by decide +kernel
theorem dX5_tellOrder_2 : decode cX5_tellOrder 2 = .ok (.invokevirtual 92, 3) := by decide +kernel
theorem dX5_tellOrder_5 : decode cX5_tellOrder 5 = .ok (.ifCond .ne 6, 3) := by decide +kernel
theorem dX5_tellOrder_8 : decode cX5_tellOrder 8 = .ok (.bipush (-2), 2) := by decide +kernel
theorem dX5_tellOrder_10 : decode cX5_tellOrder 10 = .ok (.ireturn, 1) := by decide +kernel
theorem dX5_tellOrder_11 : decode cX5_tellOrder 11 = .ok (.aload_n 0, 1) := by decide +kernel
theorem dX5_tellOrder_12 : decode cX5_tellOrder 12 = .ok (.getfield 59, 3) := by decide +kernel
theorem dX5_tellOrder_15 : decode cX5_tellOrder 15 = .ok (.istore_n 2, 1) := by decide +kernel
theorem dX5_tellOrder_16 : decode cX5_tellOrder 16 = .ok (.aload_n 0, 1) := by decide +kernel
theorem dX5_tellOrder_17 : decode cX5_tellOrder 17 = .ok (.iload_n 1, 1) := by decide +kernel
theorem dX5_tellOrder_18 : decode cX5_tellOrder 18 = .ok (.putfield 59, 3) := by decide +kernel
theorem dX5_tellOrder_21 : decode cX5_tellOrder 21 = .ok (.aload_n 0, 1) := by decide +kernel
theorem dX5_tellOrder_22 : decode cX5_tellOrder 22 = .ok (.iconst 0, 1) := by decide +kernel
theorem dX5_tellOrder_23 : decode cX5_tellOrder 23 = .ok (.putfield 65, 3) := by decide +kernel
theorem dX5_tellOrder_26 : decode cX5_tellOrder 26 = .ok (.iload_n 2, 1) := by decide +kernel
theorem dX5_tellOrder_27 : decode cX5_tellOrder 27 = .ok (.ireturn, 1) := by decide +kernel
theorem dX5_tellOther_0 : decode cX5_tellOther 0 = .ok (.aload_n 0, 1) := by decide +kernel
theorem dX5_tellOther_1 : decode cX5_tellOther 1 = .ok (.iload_n 1, 1) := by decide +kernel
theorem dX5_tellOther_2 : decode cX5_tellOther 2 = .ok (.invokevirtual 92, 3) := by decide +kernel
theorem dX5_tellOther_5 : decode cX5_tellOther 5 = .ok (.ifCond .ne 6, 3) := by decide +kernel
theorem dX5_tellOther_8 : decode cX5_tellOther 8 = .ok (.bipush (-2), 2) := by decide +kernel
theorem dX5_tellOther_10 : decode cX5_tellOther 10 = .ok (.ireturn, 1) := by decide +kernel
theorem dX5_tellOther_11 : decode cX5_tellOther 11 = .ok (.aload_n 0, 1) := by decide +kernel
theorem dX5_tellOther_12 : decode cX5_tellOther 12 = .ok (.getfield 62, 3) := by decide +kernel
theorem dX5_tellOther_15 : decode cX5_tellOther 15 = .ok (.istore_n 2, 1) := by decide +kernel
theorem dX5_tellOther_16 : decode cX5_tellOther 16 = .ok (.aload_n 0, 1) := by decide +kernel
theorem dX5_tellOther_17 : decode cX5_tellOther 17 = .ok (.iload_n 1, 1) := by decide +kernel
theorem dX5_tellOther_18 : decode cX5_tellOther 18 = .ok (.putfield 62, 3) := by decide +kernel
theorem dX5_tellOther_21 : decode cX5_tellOther 21 = .ok (.iload_n 2, 1) := by decide +kernel
theorem dX5_tellOther_22 : decode cX5_tellOther 22 = .ok (.ireturn, 1) := by decide +kernel
theorem dX5_tellForNotes_0 : decode cX5_tellForNotes 0 = .ok (.aload_n 0, 1) := by decide +kernel
theorem dX5_tellForNotes_1 : decode cX5_tellForNotes 1 = .ok (.iload_n 1, 1) := by decide +kernel
theorem dX5_tellForNotes_2 : decode cX5_tellForNotes 2 = .ok (.invokevirtual 92, 3) := by decide +kernel
theorem dX5_tellForNotes_5 : decode cX5_tellForNotes 5 = .ok (.ifCond .ne 6, 3) := by decide +kernel
theorem dX5_tellForNotes_8 : decode cX5_tellForNotes 8 = .ok (.bipush (-2), 2) := by decide +kernel
theorem dX5_tellForNotes_10 : decode cX5_tellForNotes 10 = .ok (.ireturn, 1) := by decide +kernel
theorem dX5_tellForNotes_11 : decode cX5_tellForNotes 11 = .ok (.aload_n 0, 1) := by decide +kernel
theorem dX5_tellForNotes_12 : decode cX5_tellForNotes 12 = .ok (.getfield 56, 3) := by decide +kernel
theorem dX5_tellForNotes_15 : decode cX5_tellForNotes 15 = .ok (.iconst 3, 1) := by decide +kernel
theorem dX5_tellForNotes_16 : decode cX5_tellForNotes 16 = .ok (.if_icmp .lt 6, 3) := by decide +kernel
theorem dX5_tellForNotes_19 : decode cX5_tellForNotes 19 = .ok (.bipush (-4), 2) := by decide +kernel
theorem dX5_tellForNotes_21 : decode cX5_tellForNotes 21 = .ok (.ireturn, 1) := by decide +kernel
theorem dX5_tellForNotes_22 : decode cX5_tellForNotes 22 = .ok (.aload_n 0, 1) := by decide +kernel
theorem dX5_tellForNotes_23 : decode cX5_tellForNotes 23 = .ok (.getfield 39, 3) := by decide +kernel
theorem dX5_tellForNotes_26 : decode cX5_tellForNotes 26 = .ok (.aload_n 0, 1) := by decide +kernel
theorem dX5_tellForNotes_27 : decode cX5_tellForNotes 27 = .ok (.getfield 56, 3) := by decide +kernel
theorem dX5_tellForNotes_30 : decode cX5_tellForNotes 30 = .ok (.iload_n 1, 1) := by decide +kernel
theorem dX5_tellForNotes_31 : decode cX5_tellForNotes 31 = .ok (.iastore, 1) := by decide +kernel
theorem dX5_tellForNotes_32 : decode cX5_tellForNotes 32 = .ok (.aload_n 0, 1) := by decide +kernel
theorem dX5_tellForNotes_33 : decode cX5_tellForNotes 33 = .ok (.dup, 1) := by decide +kernel
theorem dX5_tellForNotes_34 : decode cX5_tellForNotes 34 = .ok (.getfield 56, 3) := by decide +kernel
theorem dX5_tellForNotes_37 : decode cX5_tellForNotes 37 = .ok (.dup_x1, 1) := by decide +kernel
theorem dX5_tellForNotes_38 : decode cX5_tellForNotes 38 = .ok (.iconst 1, 1) := by decide +kernel
theorem dX5_tellForNotes_39 : decode cX5_tellForNotes 39 = .ok (.iadd, 1) := by decide +kernel
theorem dX5_tellForNotes_40 : decode cX5_tellForNotes 40 = .ok (.putfield 56, 3) := by decide +kernel
theorem dX5_tellForNotes_43 : decode cX5_tellForNotes 43 = .ok (.ireturn, 1) := by decide +kernel
theorem dX5_tearOut_0 : decode cX5_tearOut 0 = .ok (.iload_n 1, 1) := by decide +kernel
theorem dX5_tearOut_1 : decode cX5_tearOut 1 = .ok (.ifCond .lt 8, 3) := by decide +kernel
theorem dX5_tearOut_4 : decode cX5_tearOut 4 = .ok (.iload_n 1, 1) := by decide +kernel
theorem dX5_tearOut_5 : decode cX5_tearOut 5 = .ok (.iconst 3, 1) := by decide +kernel
theorem dX5_tearOut_6 : decode cX5_tearOut 6 = .ok (.if_icmp .le 6, 3) := by decide +kernel
theorem dX5_tearOut_9 : decode cX5_tearOut 9 = .ok (.bipush (-2), 2) := by decide +kernel
theorem dX5_tearOut_11 : decode cX5_tearOut 11 = .ok (.ireturn, 1) := by decide +kernel
theorem dX5_tearOut_12 : decode cX5_tearOut 12 = .ok (.aload_n 0, 1) := by decide +kernel
theorem dX5_tearOut_13 : decode cX5_tearOut 13 = .ok (.iload_n 1, 1) := by decide +kernel
theorem dX5_tearOut_14 : decode cX5_tearOut 14 = .ok (.iconst 1, 1) := by decide +kernel
theorem dX5_tearOut_15 : decode cX5_tearOut 15 = .ok (.iadd, 1) := by decide +kernel
theorem dX5_tearOut_16 : decode cX5_tearOut 16 = .ok (.invokevirtual 95, 3) := by decide +kernel
theorem dX5_tearOut_19 : decode cX5_tearOut 19 = .ok (.istore_n 2, 1) := by decide +kernel
theorem dX5_tearOut_20 : decode cX5_tearOut 20 = .ok (.iload_n 1, 1) := by decide +kernel
theorem dX5_tearOut_21 : decode cX5_tearOut 21 = .ok (.tableswitch 72 0 2 #[27, 40, 48], 27) := by decide +kernel
theorem dX5_tearOut_48 : decode cX5_tearOut 48 = .ok (.aload_n 0, 1) := by decide +kernel
theorem dX5_tearOut_49 : decode cX5_tearOut 49 = .ok (.iconst 0, 1) := by decide +kernel
theorem dX5_tearOut_50 : decode cX5_tearOut 50 = .ok (.putfield 50, 3) := by decide +kernel
theorem dX5_tearOut_53 : decode cX5_tearOut 53 = .ok (.aload_n 0, 1) := by decide +kernel
theorem dX5_tearOut_54 : decode cX5_tearOut 54 = .ok (.iconst 0, 1) := by decide +kernel
theorem dX5_tearOut_55 : decode cX5_tearOut 55 = .ok (.putfield 65, 3) := by decide +kernel
theorem dX5_tearOut_58 : decode cX5_tearOut 58 = .ok (.goto 40, 3) := by decide +kernel
theorem dX5_tearOut_61 : decode cX5_tearOut 61 = .ok (.aload_n 0, 1) := by decide +kernel
theorem dX5_tearOut_62 : decode cX5_tearOut 62 = .ok (.iconst 0, 1) := by decide +kernel
theorem dX5_tearOut_63 : decode cX5_tearOut 63 = .ok (.putfield 53, 3) := by decide +kernel
theorem dX5_tearOut_66 : decode cX5_tearOut 66 = .ok (.goto 32, 3) := by decide +kernel
theorem dX5_tearOut_69 : decode cX5_tearOut 69 = .ok (.iconst 0, 1) := by decide +kernel
theorem dX5_tearOut_70 : decode cX5_tearOut 70 = .ok (.istore_n 3, 1) := by decide +kernel
theorem dX5_tearOut_71 : decode cX5_tearOut 71 = .ok (.iload_n 3, 1) := by decide +kernel
theorem dX5_tearOut_72 : decode cX5_tearOut 72 = .ok (.bipush 7, 2) := by decide +kernel
theorem dX5_tearOut_74 : decode cX5_tearOut 74 = .ok (.if_icmp .ge 16, 3) := by decide +kernel
theorem dX5_tearOut_77 : decode cX5_tearOut 77 = .ok (.aload_n 0, 1) := by decide +kernel
theorem dX5_tearOut_78 : decode cX5_tearOut 78 = .ok (.getfield 24, 3) := by decide +kernel
theorem dX5_tearOut_81 : decode cX5_tearOut 81 = .ok (.iload_n 3, 1) := by decide +kernel
theorem dX5_tearOut_82 : decode cX5_tearOut 82 = .ok (.iconst (-1), 1) := by decide +kernel
theorem dX5_tearOut_83 : decode cX5_tearOut 83 = .ok (.iastore, 1) := by decide +kernel
theorem dX5_tearOut_84 : decode cX5_tearOut 84 = .ok (.iinc 3 1, 3) := by decide +kernel
theorem dX5_tearOut_87 : decode cX5_tearOut 87 = .ok (.goto (-16), 3) := by decide +kernel
theorem dX5_tearOut_90 : decode cX5_tearOut 90 = .ok (.goto 8, 3) := by decide +kernel
theorem dX5_tearOut_93 : decode cX5_tearOut 93 = .ok (.aload_n 0, 1) := by decide +kernel
theorem dX5_tearOut_94 : decode cX5_tearOut 94 = .ok (.iconst 0, 1) := by decide +kernel
theorem dX5_tearOut_95 : decode cX5_tearOut 95 = .ok (.putfield 56, 3) := by decide +kernel
theorem dX5_tearOut_98 : decode cX5_tearOut 98 = .ok (.iload_n 2, 1) := by decide +kernel
theorem dX5_tearOut_99 : decode cX5_tearOut 99 = .ok (.ireturn, 1) := by decide +kernel
theorem dX5_tellItem_0 : decode cX5_tellItem 0 = .ok (.iload_n 1, 1) := by decide +kernel
theorem dX5_tellItem_1 : decode cX5_tellItem 1 = .ok (.bipush 10, 2) := by decide +kernel
theorem dX5_tellItem_3 : decode cX5_tellItem 3 = .ok (.idiv, 1) := by decide +kernel
theorem dX5_tellItem_4 : decode cX5_tellItem 4 = .ok (.bipush 10, 2) := by decide +kernel
theorem dX5_tellItem_6 : decode cX5_tellItem 6 = .ok (.irem, 1) := by decide +kernel
theorem dX5_tellItem_7 : decode cX5_tellItem 7 = .ok (.istore_n 2, 1) := by decide +kernel
theorem dX5_tellItem_8 : decode cX5_tellItem 8 = .ok (.iload_n 1, 1) := by decide +kernel
theorem dX5_tellItem_9 : decode cX5_tellItem 9 = .ok (.bipush 10, 2) := by decide +kernel
theorem dX5_tellItem_11 : decode cX5_tellItem 11 = .ok (.irem, 1) := by decide +kernel
theorem dX5_tellItem_12 : decode cX5_tellItem 12 = .ok (.istore_n 3, 1) := by decide +kernel
theorem dX5_tellItem_13 : decode cX5_tellItem 13 = .ok (.iload_n 1, 1) := by decide +kernel
theorem dX5_tellItem_14 : decode cX5_tellItem 14 = .ok (.bipush 100, 2) := by decide +kernel
theorem dX5_tellItem_16 : decode cX5_tellItem 16 = .ok (.idiv, 1) := by decide +kernel
theorem dX5_tellItem_17 : decode cX5_tellItem 17 = .ok (.tableswitch 95 0 6 #[43, 49, 56, 65, 74, 81, 88], 43) := by decide +kernel
theorem dX5_tellItem_60 : decode cX5_tellItem 60 = .ok (.aload_n 0, 1) := by decide +kernel
theorem dX5_tellItem_61 : decode cX5_tellItem 61 = .ok (.iload_n 2, 1) := by decide +kernel
theorem dX5_tellItem_62 : decode cX5_tellItem 62 = .ok (.invokevirtual 98, 3) := by decide +kernel
theorem dX5_tellItem_65 : decode cX5_tellItem 65 = .ok (.ireturn, 1) := by decide +kernel
theorem dX5_tellItem_66 : decode cX5_tellItem 66 = .ok (.aload_n 0, 1) := by decide +kernel
theorem dX5_tellItem_67 : decode cX5_tellItem 67 = .ok (.iload_n 2, 1) := by decide +kernel
theorem dX5_tellItem_68 : decode cX5_tellItem 68 = .ok (.iload_n 3, 1) := by decide +kernel
theorem dX5_tellItem_69 : decode cX5_tellItem 69 = .ok (.invokevirtual 101, 3) := by decide +kernel
theorem dX5_tellItem_72 : decode cX5_tellItem 72 = .ok (.ireturn, 1) := by decide +kernel
theorem dX5_tellItem_73 : decode cX5_tellItem 73 = .ok (.aload_n 0, 1) := by decide +kernel
theorem dX5_tellItem_74 : decode cX5_tellItem 74 = .ok (.iload_n 2, 1) := by decide +kernel
theorem dX5_tellItem_75 : decode cX5_tellItem 75 = .ok (.iconst 0, 1) := by decide +kernel
theorem dX5_tellItem_76 : decode cX5_tellItem 76 = .ok (.iload_n 3, 1) := by decide +kernel
theorem dX5_tellItem_77 : decode cX5_tellItem 77 = .ok (.iconst 1, 1) := by decide +kernel
theorem dX5_tellItem_78 : decode cX5_tellItem 78 = .ok (.invokevirtual 105, 3) := by decide +kernel
theorem dX5_tellItem_81 : decode cX5_tellItem 81 = .ok (.ireturn, 1) := by decide +kernel
theorem dX5_tellItem_82 : decode cX5_tellItem 82 = .ok (.aload_n 0, 1) := by decide +kernel
theorem dX5_tellItem_83 : decode cX5_tellItem 83 = .ok (.iload_n 2, 1) := by decide +kernel
theorem dX5_tellItem_84 : decode cX5_tellItem 84 = .ok (.iconst 1, 1) := by decide +kernel
theorem dX5_tellItem_85 : decode cX5_tellItem 85 = .ok (.iload_n 3, 1) := by decide +kernel
theorem dX5_tellItem_86 : decode cX5_tellItem 86 = .ok (.iconst 1, 1) := by decide +kernel
theorem dX5_tellItem_87 : decode cX5_tellItem 87 = .ok (.invokevirtual 105, 3) := by decide +kernel
theorem dX5_tellItem_90 : decode cX5_tellItem 90 = .ok (.ireturn, 1) := by decide +kernel
theorem dX5_tellItem_91 : decode cX5_tellItem 91 = .ok (.aload_n 0, 1) := by decide +kernel
theorem dX5_tellItem_92 : decode cX5_tellItem 92 = .ok (.iload_n 2, 1) := by decide +kernel
theorem dX5_tellItem_93 : decode cX5_tellItem 93 = .ok (.iload_n 3, 1) := by decide +kernel
theorem dX5_tellItem_94 : decode cX5_tellItem 94 = .ok (.invokevirtual 109, 3) := by decide +kernel
theorem dX5_tellItem_97 : decode cX5_tellItem 97 = .ok (.ireturn, 1) := by decide +kernel
theorem dX5_tellItem_98 : decode cX5_tellItem 98 = .ok (.aload_n 0, 1) := by decide +kernel
theorem dX5_tellItem_99 : decode cX5_tellItem 99 = .ok (.iload_n 2, 1) := by decide +kernel
theorem dX5_tellItem_100 : decode cX5_tellItem 100 = .ok (.iload_n 3, 1) := by decide +kernel
theorem dX5_tellItem_101 : decode cX5_tellItem 101 = .ok (.invokevirtual 112, 3) := by decide +kernel
theorem dX5_tellItem_104 : decode cX5_tellItem 104 = .ok (.ireturn, 1) := by decide +kernel
theorem dX5_tellItem_105 : decode cX5_tellItem 105 = .ok (.aload_n 0, 1) := by decide +kernel
theorem dX5_tellItem_106 : decode cX5_tellItem 106 = .ok (.iload_n 2, 1) := by decide +kernel
theorem dX5_tellItem_107 : decode cX5_tellItem 107 = .ok (.iload_n 3, 1) := by decide +kernel
theorem dX5_tellItem_108 : decode cX5_tellItem 108 = .ok (.invokevirtual 115, 3) := by decide +kernel
theorem dX5_tellItem_111 : decode cX5_tellItem 111 = .ok (.ireturn, 1) := by decide +kernel
theorem dX5_tellItem_112 : decode cX5_tellItem 112 = .ok (.bipush (-2), 2) := by decide +kernel
theorem dX5_tellItem_114 : decode cX5_tellItem 114 = .ok (.ireturn, 1) := by decide +kernel
theorem dX5_notedOn_0 : decode cX5_notedOn 0 = .ok (.iconst 0, 1) := by decide +kernel
theorem dX5_notedOn_1 : decode cX5_notedOn 1 = .ok (.istore_n 2, 1) := by decide +kernel
theorem dX5_notedOn_2 : decode cX5_notedOn 2 = .ok (.iconst 0, 1) := by decide +kernel
theorem dX5_notedOn_3 : decode cX5_notedOn 3 = .ok (.istore_n 3, 1) := by decide +kernel
theorem dX5_notedOn_4 : decode cX5_notedOn 4 = .ok (.iload_n 3, 1) := by decide +kernel
theorem dX5_notedOn_5 : decode cX5_notedOn 5 = .ok (.aload_n 0, 1) := by decide +kernel
theorem dX5_notedOn_6 : decode cX5_notedOn 6 = .ok (.getfield 50, 3) := by decide +kernel
theorem dX5_notedOn_9 : decode cX5_notedOn 9 = .ok (.if_icmp .ge 30, 3) := by decide +kernel
theorem dX5_notedOn_12 : decode cX5_notedOn 12 = .ok (.aload_n 0, 1) := by decide +kernel
theorem dX5_notedOn_13 : decode cX5_notedOn 13 = .ok (.getfield 27, 3) := by decide +kernel
theorem dX5_notedOn_16 : decode cX5_notedOn 16 = .ok (.iload_n 3, 1) := by decide +kernel
theorem dX5_notedOn_17 : decode cX5_notedOn 17 = .ok (.iaload, 1) := by decide +kernel
theorem dX5_notedOn_18 : decode cX5_notedOn 18 = .ok (.iload_n 1, 1) := by decide +kernel
theorem dX5_notedOn_19 : decode cX5_notedOn 19 = .ok (.if_icmp .ne 14, 3) := by decide +kernel
theorem dX5_notedOn_22 : decode cX5_notedOn 22 = .ok (.iload_n 2, 1) := by decide +kernel
theorem dX5_notedOn_23 : decode cX5_notedOn 23 = .ok (.iconst 1, 1) := by decide +kernel
theorem dX5_notedOn_24 : decode cX5_notedOn 24 = .ok (.aload_n 0, 1) := by decide +kernel
theorem dX5_notedOn_25 : decode cX5_notedOn 25 = .ok (.getfield 30, 3) := by decide +kernel
theorem dX5_notedOn_28 : decode cX5_notedOn 28 = .ok (.iload_n 3, 1) := by decide +kernel
theorem dX5_notedOn_29 : decode cX5_notedOn 29 = .ok (.iaload, 1) := by decide +kernel
theorem dX5_notedOn_30 : decode cX5_notedOn 30 = .ok (.ishl, 1) := by decide +kernel
theorem dX5_notedOn_31 : decode cX5_notedOn 31 = .ok (.ior, 1) := by decide +kernel
theorem dX5_notedOn_32 : decode cX5_notedOn 32 = .ok (.istore_n 2, 1) := by decide +kernel
theorem dX5_notedOn_33 : decode cX5_notedOn 33 = .ok (.iinc 3 1, 3) := by decide +kernel
theorem dX5_notedOn_36 : decode cX5_notedOn 36 = .ok (.goto (-32), 3) := by decide +kernel
theorem dX5_notedOn_39 : decode cX5_notedOn 39 = .ok (.iload_n 2, 1) := by decide +kernel
theorem dX5_notedOn_40 : decode cX5_notedOn 40 = .ok (.ireturn, 1) := by decide +kernel
theorem dX5_taughtBy_0 : decode cX5_taughtBy 0 = .ok (.iconst 0, 1) := by decide +kernel
theorem dX5_taughtBy_1 : decode cX5_taughtBy 1 = .ok (.istore_n 2, 1) := by decide +kernel
theorem dX5_taughtBy_2 : decode cX5_taughtBy 2 = .ok (.iconst 0, 1) := by decide +kernel
theorem dX5_taughtBy_3 : decode cX5_taughtBy 3 = .ok (.istore_n 3, 1) := by decide +kernel
theorem dX5_taughtBy_4 : decode cX5_taughtBy 4 = .ok (.iload_n 3, 1) := by decide +kernel
theorem dX5_taughtBy_5 : decode cX5_taughtBy 5 = .ok (.aload_n 0, 1) := by decide +kernel
theorem dX5_taughtBy_6 : decode cX5_taughtBy 6 = .ok (.getfield 46, 3) := by decide +kernel
theorem dX5_taughtBy_9 : decode cX5_taughtBy 9 = .ok (.if_icmp .ge 26, 3) := by decide +kernel
theorem dX5_taughtBy_12 : decode cX5_taughtBy 12 = .ok (.iload_n 1, 1) := by decide +kernel
theorem dX5_taughtBy_13 : decode cX5_taughtBy 13 = .ok (.iload_n 3, 1) := by decide +kernel
theorem dX5_taughtBy_14 : decode cX5_taughtBy 14 = .ok (.ishr, 1) := by decide +kernel
theorem dX5_taughtBy_15 : decode cX5_taughtBy 15 = .ok (.iconst 1, 1) := by decide +kernel
theorem dX5_taughtBy_16 : decode cX5_taughtBy 16 = .ok (.iand, 1) := by decide +kernel
theorem dX5_taughtBy_17 : decode cX5_taughtBy 17 = .ok (.ifCond .eq 12, 3) := by decide +kernel
theorem dX5_taughtBy_20 : decode cX5_taughtBy 20 = .ok (.iload_n 2, 1) := by decide +kernel
theorem dX5_taughtBy_21 : decode cX5_taughtBy 21 = .ok (.aload_n 0, 1) := by decide +kernel
theorem dX5_taughtBy_22 : decode cX5_taughtBy 22 = .ok (.getfield 18, 3) := by decide +kernel
theorem dX5_taughtBy_25 : decode cX5_taughtBy 25 = .ok (.iload_n 3, 1) := by decide +kernel
theorem dX5_taughtBy_26 : decode cX5_taughtBy 26 = .ok (.iaload, 1) := by decide +kernel
theorem dX5_taughtBy_27 : decode cX5_taughtBy 27 = .ok (.ior, 1) := by decide +kernel
theorem dX5_taughtBy_28 : decode cX5_taughtBy 28 = .ok (.istore_n 2, 1) := by decide +kernel
theorem dX5_taughtBy_29 : decode cX5_taughtBy 29 = .ok (.iinc 3 1, 3) := by decide +kernel
theorem dX5_taughtBy_32 : decode cX5_taughtBy 32 = .ok (.goto (-28), 3) := by decide +kernel
theorem dX5_taughtBy_35 : decode cX5_taughtBy 35 = .ok (.iload_n 2, 1) := by decide +kernel
theorem dX5_taughtBy_36 : decode cX5_taughtBy 36 = .ok (.ireturn, 1) := by decide +kernel
theorem dX5_countOfRow_0 : decode cX5_countOfRow 0 = .ok (.iload_n 1, 1) := by decide +kernel
theorem dX5_countOfRow_1 : decode cX5_countOfRow 1 = .ok (.tableswitch 73 0 6 #[43, 48, 53, 58, 63, 73, 68], 43) := by decide +kernel
theorem dX5_countOfRow_44 : decode cX5_countOfRow 44 = .ok (.aload_n 0, 1) := by decide +kernel
theorem dX5_countOfRow_45 : decode cX5_countOfRow 45 = .ok (.getfield 46, 3) := by decide +kernel
theorem dX5_countOfRow_48 : decode cX5_countOfRow 48 = .ok (.ireturn, 1) := by decide +kernel
theorem dX5_countOfRow_49 : decode cX5_countOfRow 49 = .ok (.aload_n 0, 1) := by decide +kernel
theorem dX5_countOfRow_50 : decode cX5_countOfRow 50 = .ok (.getfield 50, 3) := by decide +kernel
theorem dX5_countOfRow_53 : decode cX5_countOfRow 53 = .ok (.ireturn, 1) := by decide +kernel
theorem dX5_countOfRow_54 : decode cX5_countOfRow 54 = .ok (.aload_n 0, 1) := by decide +kernel
theorem dX5_countOfRow_55 : decode cX5_countOfRow 55 = .ok (.getfield 53, 3) := by decide +kernel
theorem dX5_countOfRow_58 : decode cX5_countOfRow 58 = .ok (.ireturn, 1) := by decide +kernel
theorem dX5_countOfRow_59 : decode cX5_countOfRow 59 = .ok (.aload_n 0, 1) := by decide +kernel
theorem dX5_countOfRow_60 : decode cX5_countOfRow 60 = .ok (.invokevirtual 118, 3) := by decide +kernel
theorem dX5_countOfRow_63 : decode cX5_countOfRow 63 = .ok (.ireturn, 1) := by decide +kernel
theorem dX5_countOfRow_64 : decode cX5_countOfRow 64 = .ok (.aload_n 0, 1) := by decide +kernel
theorem dX5_countOfRow_65 : decode cX5_countOfRow 65 = .ok (.getfield 56, 3) := by decide +kernel
theorem dX5_countOfRow_68 : decode cX5_countOfRow 68 = .ok (.ireturn, 1) := by decide +kernel
theorem dX5_countOfRow_69 : decode cX5_countOfRow 69 = .ok (.aload_n 0, 1) := by decide +kernel
theorem dX5_countOfRow_70 : decode cX5_countOfRow 70 = .ok (.getfield 59, 3) := by decide +kernel
theorem dX5_countOfRow_73 : decode cX5_countOfRow 73 = .ok (.ireturn, 1) := by decide +kernel
theorem dX5_countOfRow_74 : decode cX5_countOfRow 74 = .ok (.bipush (-2), 2) := by decide +kernel
theorem dX5_countOfRow_76 : decode cX5_countOfRow 76 = .ok (.ireturn, 1) := by decide +kernel
theorem dX5_toldInDiary_0 : decode cX5_toldInDiary 0 = .ok (.iconst 0, 1) := by decide +kernel
theorem dX5_toldInDiary_1 : decode cX5_toldInDiary 1 = .ok (.istore_n 1, 1) := by decide +kernel
theorem dX5_toldInDiary_2 : decode cX5_toldInDiary 2 = .ok (.iconst 0, 1) := by decide +kernel
theorem dX5_toldInDiary_3 : decode cX5_toldInDiary 3 = .ok (.istore_n 2, 1) := by decide +kernel
theorem dX5_toldInDiary_4 : decode cX5_toldInDiary 4 = .ok (.iload_n 2, 1) := by decide +kernel
theorem dX5_toldInDiary_5 : decode cX5_toldInDiary 5 = .ok (.aload_n 0, 1) := by decide +kernel
theorem dX5_toldInDiary_6 : decode cX5_toldInDiary 6 = .ok (.getfield 46, 3) := by decide +kernel
theorem dX5_toldInDiary_9 : decode cX5_toldInDiary 9 = .ok (.if_icmp .ge 22, 3) := by decide +kernel
theorem dX5_toldInDiary_12 : decode cX5_toldInDiary 12 = .ok (.aload_n 0, 1) := by decide +kernel
theorem dX5_toldInDiary_13 : decode cX5_toldInDiary 13 = .ok (.getfield 24, 3) := by decide +kernel
theorem dX5_toldInDiary_16 : decode cX5_toldInDiary 16 = .ok (.iload_n 2, 1) := by decide +kernel
theorem dX5_toldInDiary_17 : decode cX5_toldInDiary 17 = .ok (.iaload, 1) := by decide +kernel
theorem dX5_toldInDiary_18 : decode cX5_toldInDiary 18 = .ok (.iconst (-1), 1) := by decide +kernel
theorem dX5_toldInDiary_19 : decode cX5_toldInDiary 19 = .ok (.if_icmp .eq 6, 3) := by decide +kernel
theorem dX5_toldInDiary_22 : decode cX5_toldInDiary 22 = .ok (.iinc 1 1, 3) := by decide +kernel
theorem dX5_toldInDiary_25 : decode cX5_toldInDiary 25 = .ok (.iinc 2 1, 3) := by decide +kernel
theorem dX5_toldInDiary_28 : decode cX5_toldInDiary 28 = .ok (.goto (-24), 3) := by decide +kernel
theorem dX5_toldInDiary_31 : decode cX5_toldInDiary 31 = .ok (.iload_n 1, 1) := by decide +kernel
theorem dX5_toldInDiary_32 : decode cX5_toldInDiary 32 = .ok (.ireturn, 1) := by decide +kernel
theorem dX5_digestOfDays_0 : decode cX5_digestOfDays 0 = .ok (.lload_n 1, 1) := by decide +kernel
theorem dX5_digestOfDays_1 : decode cX5_digestOfDays 1 = .ok (.lstore_n 3, 1) := by decide +kernel
theorem dX5_digestOfDays_2 : decode cX5_digestOfDays 2 = .ok (.iconst 0, 1) := by decide +kernel
theorem dX5_digestOfDays_3 : decode cX5_digestOfDays 3 = .ok (.istore 5, 2) := by decide +kernel
theorem dX5_digestOfDays_5 : decode cX5_digestOfDays 5 = .ok (.iload 5, 2) := by decide +kernel
theorem dX5_digestOfDays_7 : decode cX5_digestOfDays 7 = .ok (.aload_n 0, 1) := by decide +kernel
theorem dX5_digestOfDays_8 : decode cX5_digestOfDays 8 = .ok (.getfield 46, 3) := by decide +kernel
theorem dX5_digestOfDays_11 : decode cX5_digestOfDays 11 = .ok (.if_icmp .ge 69, 3) := by decide +kernel
theorem dX5_digestOfDays_14 : decode cX5_digestOfDays 14 = .ok (.ldc2_w 121, 3) := by decide +kernel
theorem dX5_digestOfDays_17 : decode cX5_digestOfDays 17 = .ok (.lload_n 3, 1) := by decide +kernel
theorem dX5_digestOfDays_18 : decode cX5_digestOfDays 18 = .ok (.lmul, 1) := by decide +kernel
theorem dX5_digestOfDays_19 : decode cX5_digestOfDays 19 = .ok (.aload_n 0, 1) := by decide +kernel
theorem dX5_digestOfDays_20 : decode cX5_digestOfDays 20 = .ok (.getfield 9, 3) := by decide +kernel
theorem dX5_digestOfDays_23 : decode cX5_digestOfDays 23 = .ok (.iload 5, 2) := by decide +kernel
theorem dX5_digestOfDays_25 : decode cX5_digestOfDays 25 = .ok (.iaload, 1) := by decide +kernel
theorem dX5_digestOfDays_26 : decode cX5_digestOfDays 26 = .ok (.i2l, 1) := by decide +kernel
theorem dX5_digestOfDays_27 : decode cX5_digestOfDays 27 = .ok (.ladd, 1) := by decide +kernel
theorem dX5_digestOfDays_28 : decode cX5_digestOfDays 28 = .ok (.lstore_n 3, 1) := by decide +kernel
theorem dX5_digestOfDays_29 : decode cX5_digestOfDays 29 = .ok (.ldc2_w 121, 3) := by decide +kernel
theorem dX5_digestOfDays_32 : decode cX5_digestOfDays 32 = .ok (.lload_n 3, 1) := by decide +kernel
theorem dX5_digestOfDays_33 : decode cX5_digestOfDays 33 = .ok (.lmul, 1) := by decide +kernel
theorem dX5_digestOfDays_34 : decode cX5_digestOfDays 34 = .ok (.aload_n 0, 1) := by decide +kernel
theorem dX5_digestOfDays_35 : decode cX5_digestOfDays 35 = .ok (.getfield 15, 3) := by decide +kernel
theorem dX5_digestOfDays_38 : decode cX5_digestOfDays 38 = .ok (.iload 5, 2) := by decide +kernel
theorem dX5_digestOfDays_40 : decode cX5_digestOfDays 40 = .ok (.iaload, 1) := by decide +kernel
theorem dX5_digestOfDays_41 : decode cX5_digestOfDays 41 = .ok (.i2l, 1) := by decide +kernel
theorem dX5_digestOfDays_42 : decode cX5_digestOfDays 42 = .ok (.ladd, 1) := by decide +kernel
theorem dX5_digestOfDays_43 : decode cX5_digestOfDays 43 = .ok (.lstore_n 3, 1) := by decide +kernel
theorem dX5_digestOfDays_44 : decode cX5_digestOfDays 44 = .ok (.ldc2_w 121, 3) := by decide +kernel
theorem dX5_digestOfDays_47 : decode cX5_digestOfDays 47 = .ok (.lload_n 3, 1) := by decide +kernel
theorem dX5_digestOfDays_48 : decode cX5_digestOfDays 48 = .ok (.lmul, 1) := by decide +kernel
theorem dX5_digestOfDays_49 : decode cX5_digestOfDays 49 = .ok (.aload_n 0, 1) := by decide +kernel
theorem dX5_digestOfDays_50 : decode cX5_digestOfDays 50 = .ok (.getfield 18, 3) := by decide +kernel
theorem dX5_digestOfDays_53 : decode cX5_digestOfDays 53 = .ok (.iload 5, 2) := by decide +kernel
theorem dX5_digestOfDays_55 : decode cX5_digestOfDays 55 = .ok (.iaload, 1) := by decide +kernel
theorem dX5_digestOfDays_56 : decode cX5_digestOfDays 56 = .ok (.i2l, 1) := by decide +kernel
theorem dX5_digestOfDays_57 : decode cX5_digestOfDays 57 = .ok (.ladd, 1) := by decide +kernel
theorem dX5_digestOfDays_58 : decode cX5_digestOfDays 58 = .ok (.lstore_n 3, 1) := by decide +kernel
theorem dX5_digestOfDays_59 : decode cX5_digestOfDays 59 = .ok (.ldc2_w 121, 3) := by decide +kernel
theorem dX5_digestOfDays_62 : decode cX5_digestOfDays 62 = .ok (.lload_n 3, 1) := by decide +kernel
theorem dX5_digestOfDays_63 : decode cX5_digestOfDays 63 = .ok (.lmul, 1) := by decide +kernel
theorem dX5_digestOfDays_64 : decode cX5_digestOfDays 64 = .ok (.aload_n 0, 1) := by decide +kernel
theorem dX5_digestOfDays_65 : decode cX5_digestOfDays 65 = .ok (.getfield 21, 3) := by decide +kernel
theorem dX5_digestOfDays_68 : decode cX5_digestOfDays 68 = .ok (.iload 5, 2) := by decide +kernel
theorem dX5_digestOfDays_70 : decode cX5_digestOfDays 70 = .ok (.iaload, 1) := by decide +kernel
theorem dX5_digestOfDays_71 : decode cX5_digestOfDays 71 = .ok (.i2l, 1) := by decide +kernel
theorem dX5_digestOfDays_72 : decode cX5_digestOfDays 72 = .ok (.ladd, 1) := by decide +kernel
theorem dX5_digestOfDays_73 : decode cX5_digestOfDays 73 = .ok (.lstore_n 3, 1) := by decide +kernel
theorem dX5_digestOfDays_74 : decode cX5_digestOfDays 74 = .ok (.iinc 5 1, 3) := by decide +kernel
theorem dX5_digestOfDays_77 : decode cX5_digestOfDays 77 = .ok (.goto (-72), 3) := by decide +kernel
theorem dX5_digestOfDays_80 : decode cX5_digestOfDays 80 = .ok (.lload_n 3, 1) := by decide +kernel
theorem dX5_digestOfDays_81 : decode cX5_digestOfDays 81 = .ok (.lreturn, 1) := by decide +kernel
theorem dX5_digestOfRows_0 : decode cX5_digestOfRows 0 = .ok (.lload_n 1, 1) := by decide +kernel
theorem dX5_digestOfRows_1 : decode cX5_digestOfRows 1 = .ok (.lstore_n 3, 1) := by decide +kernel
theorem dX5_digestOfRows_2 : decode cX5_digestOfRows 2 = .ok (.iconst 0, 1) := by decide +kernel
theorem dX5_digestOfRows_3 : decode cX5_digestOfRows 3 = .ok (.istore 5, 2) := by decide +kernel
theorem dX5_digestOfRows_5 : decode cX5_digestOfRows 5 = .ok (.iload 5, 2) := by decide +kernel
theorem dX5_digestOfRows_7 : decode cX5_digestOfRows 7 = .ok (.aload_n 0, 1) := by decide +kernel
theorem dX5_digestOfRows_8 : decode cX5_digestOfRows 8 = .ok (.getfield 50, 3) := by decide +kernel
theorem dX5_digestOfRows_11 : decode cX5_digestOfRows 11 = .ok (.if_icmp .ge 39, 3) := by decide +kernel
theorem dX5_digestOfRows_14 : decode cX5_digestOfRows 14 = .ok (.ldc2_w 121, 3) := by decide +kernel
theorem dX5_digestOfRows_17 : decode cX5_digestOfRows 17 = .ok (.lload_n 3, 1) := by decide +kernel
theorem dX5_digestOfRows_18 : decode cX5_digestOfRows 18 = .ok (.lmul, 1) := by decide +kernel
theorem dX5_digestOfRows_19 : decode cX5_digestOfRows 19 = .ok (.aload_n 0, 1) := by decide +kernel
theorem dX5_digestOfRows_20 : decode cX5_digestOfRows 20 = .ok (.getfield 27, 3) := by decide +kernel
theorem dX5_digestOfRows_23 : decode cX5_digestOfRows 23 = .ok (.iload 5, 2) := by decide +kernel
theorem dX5_digestOfRows_25 : decode cX5_digestOfRows 25 = .ok (.iaload, 1) := by decide +kernel
theorem dX5_digestOfRows_26 : decode cX5_digestOfRows 26 = .ok (.i2l, 1) := by decide +kernel
theorem dX5_digestOfRows_27 : decode cX5_digestOfRows 27 = .ok (.ladd, 1) := by decide +kernel
theorem dX5_digestOfRows_28 : decode cX5_digestOfRows 28 = .ok (.lstore_n 3, 1) := by decide +kernel
theorem dX5_digestOfRows_29 : decode cX5_digestOfRows 29 = .ok (.ldc2_w 121, 3) := by decide +kernel
theorem dX5_digestOfRows_32 : decode cX5_digestOfRows 32 = .ok (.lload_n 3, 1) := by decide +kernel
theorem dX5_digestOfRows_33 : decode cX5_digestOfRows 33 = .ok (.lmul, 1) := by decide +kernel
theorem dX5_digestOfRows_34 : decode cX5_digestOfRows 34 = .ok (.aload_n 0, 1) := by decide +kernel
theorem dX5_digestOfRows_35 : decode cX5_digestOfRows 35 = .ok (.getfield 30, 3) := by decide +kernel
theorem dX5_digestOfRows_38 : decode cX5_digestOfRows 38 = .ok (.iload 5, 2) := by decide +kernel
theorem dX5_digestOfRows_40 : decode cX5_digestOfRows 40 = .ok (.iaload, 1) := by decide +kernel
theorem dX5_digestOfRows_41 : decode cX5_digestOfRows 41 = .ok (.i2l, 1) := by decide +kernel
theorem dX5_digestOfRows_42 : decode cX5_digestOfRows 42 = .ok (.ladd, 1) := by decide +kernel
theorem dX5_digestOfRows_43 : decode cX5_digestOfRows 43 = .ok (.lstore_n 3, 1) := by decide +kernel
theorem dX5_digestOfRows_44 : decode cX5_digestOfRows 44 = .ok (.iinc 5 1, 3) := by decide +kernel
theorem dX5_digestOfRows_47 : decode cX5_digestOfRows 47 = .ok (.goto (-42), 3) := by decide +kernel
theorem dX5_digestOfRows_50 : decode cX5_digestOfRows 50 = .ok (.iconst 0, 1) := by decide +kernel
theorem dX5_digestOfRows_51 : decode cX5_digestOfRows 51 = .ok (.istore 5, 2) := by decide +kernel
theorem dX5_digestOfRows_53 : decode cX5_digestOfRows 53 = .ok (.iload 5, 2) := by decide +kernel
theorem dX5_digestOfRows_55 : decode cX5_digestOfRows 55 = .ok (.aload_n 0, 1) := by decide +kernel
theorem dX5_digestOfRows_56 : decode cX5_digestOfRows 56 = .ok (.getfield 53, 3) := by decide +kernel
theorem dX5_digestOfRows_59 : decode cX5_digestOfRows 59 = .ok (.if_icmp .ge 39, 3) := by decide +kernel
theorem dX5_digestOfRows_62 : decode cX5_digestOfRows 62 = .ok (.ldc2_w 121, 3) := by decide +kernel
theorem dX5_digestOfRows_65 : decode cX5_digestOfRows 65 = .ok (.lload_n 3, 1) := by decide +kernel
theorem dX5_digestOfRows_66 : decode cX5_digestOfRows 66 = .ok (.lmul, 1) := by decide +kernel
theorem dX5_digestOfRows_67 : decode cX5_digestOfRows 67 = .ok (.aload_n 0, 1) := by decide +kernel
theorem dX5_digestOfRows_68 : decode cX5_digestOfRows 68 = .ok (.getfield 33, 3) := by decide +kernel
theorem dX5_digestOfRows_71 : decode cX5_digestOfRows 71 = .ok (.iload 5, 2) := by decide +kernel
theorem dX5_digestOfRows_73 : decode cX5_digestOfRows 73 = .ok (.iaload, 1) := by decide +kernel
theorem dX5_digestOfRows_74 : decode cX5_digestOfRows 74 = .ok (.i2l, 1) := by decide +kernel
theorem dX5_digestOfRows_75 : decode cX5_digestOfRows 75 = .ok (.ladd, 1) := by decide +kernel
theorem dX5_digestOfRows_76 : decode cX5_digestOfRows 76 = .ok (.lstore_n 3, 1) := by decide +kernel
theorem dX5_digestOfRows_77 : decode cX5_digestOfRows 77 = .ok (.ldc2_w 121, 3) := by decide +kernel
theorem dX5_digestOfRows_80 : decode cX5_digestOfRows 80 = .ok (.lload_n 3, 1) := by decide +kernel
theorem dX5_digestOfRows_81 : decode cX5_digestOfRows 81 = .ok (.lmul, 1) := by decide +kernel
theorem dX5_digestOfRows_82 : decode cX5_digestOfRows 82 = .ok (.aload_n 0, 1) := by decide +kernel
theorem dX5_digestOfRows_83 : decode cX5_digestOfRows 83 = .ok (.getfield 36, 3) := by decide +kernel
theorem dX5_digestOfRows_86 : decode cX5_digestOfRows 86 = .ok (.iload 5, 2) := by decide +kernel
theorem dX5_digestOfRows_88 : decode cX5_digestOfRows 88 = .ok (.iaload, 1) := by decide +kernel
theorem dX5_digestOfRows_89 : decode cX5_digestOfRows 89 = .ok (.i2l, 1) := by decide +kernel
theorem dX5_digestOfRows_90 : decode cX5_digestOfRows 90 = .ok (.ladd, 1) := by decide +kernel
theorem dX5_digestOfRows_91 : decode cX5_digestOfRows 91 = .ok (.lstore_n 3, 1) := by decide +kernel
theorem dX5_digestOfRows_92 : decode cX5_digestOfRows 92 = .ok (.iinc 5 1, 3) := by decide +kernel
theorem dX5_digestOfRows_95 : decode cX5_digestOfRows 95 = .ok (.goto (-42), 3) := by decide +kernel
theorem dX5_digestOfRows_98 : decode cX5_digestOfRows 98 = .ok (.iconst 0, 1) := by decide +kernel
theorem dX5_digestOfRows_99 : decode cX5_digestOfRows 99 = .ok (.istore 5, 2) := by decide +kernel
theorem dX5_digestOfRows_101 : decode cX5_digestOfRows 101 = .ok (.iload 5, 2) := by decide +kernel
theorem dX5_digestOfRows_103 : decode cX5_digestOfRows 103 = .ok (.aload_n 0, 1) := by decide +kernel
theorem dX5_digestOfRows_104 : decode cX5_digestOfRows 104 = .ok (.getfield 46, 3) := by decide +kernel
theorem dX5_digestOfRows_107 : decode cX5_digestOfRows 107 = .ok (.if_icmp .ge 24, 3) := by decide +kernel
theorem dX5_digestOfRows_110 : decode cX5_digestOfRows 110 = .ok (.ldc2_w 121, 3) := by decide +kernel
theorem dX5_digestOfRows_113 : decode cX5_digestOfRows 113 = .ok (.lload_n 3, 1) := by decide +kernel
theorem dX5_digestOfRows_114 : decode cX5_digestOfRows 114 = .ok (.lmul, 1) := by decide +kernel
theorem dX5_digestOfRows_115 : decode cX5_digestOfRows 115 = .ok (.aload_n 0, 1) := by decide +kernel
theorem dX5_digestOfRows_116 : decode cX5_digestOfRows 116 = .ok (.getfield 24, 3) := by decide +kernel
theorem dX5_digestOfRows_119 : decode cX5_digestOfRows 119 = .ok (.iload 5, 2) := by decide +kernel
theorem dX5_digestOfRows_121 : decode cX5_digestOfRows 121 = .ok (.iaload, 1) := by decide +kernel
theorem dX5_digestOfRows_122 : decode cX5_digestOfRows 122 = .ok (.i2l, 1) := by decide +kernel
theorem dX5_digestOfRows_123 : decode cX5_digestOfRows 123 = .ok (.ladd, 1) := by decide +kernel
theorem dX5_digestOfRows_124 : decode cX5_digestOfRows 124 = .ok (.lstore_n 3, 1) := by decide +kernel
theorem dX5_digestOfRows_125 : decode cX5_digestOfRows 125 = .ok (.iinc 5 1, 3) := by decide +kernel
theorem dX5_digestOfRows_128 : decode cX5_digestOfRows 128 = .ok (.goto (-27), 3) := by decide +kernel
theorem dX5_digestOfRows_131 : decode cX5_digestOfRows 131 = .ok (.iconst 0, 1) := by decide +kernel
theorem dX5_digestOfRows_132 : decode cX5_digestOfRows 132 = .ok (.istore 5, 2) := by decide +kernel
theorem dX5_digestOfRows_134 : decode cX5_digestOfRows 134 = .ok (.iload 5, 2) := by decide +kernel
theorem dX5_digestOfRows_136 : decode cX5_digestOfRows 136 = .ok (.aload_n 0, 1) := by decide +kernel
theorem dX5_digestOfRows_137 : decode cX5_digestOfRows 137 = .ok (.getfield 56, 3) := by decide +kernel
theorem dX5_digestOfRows_140 : decode cX5_digestOfRows 140 = .ok (.if_icmp .ge 24, 3) := by decide +kernel
theorem dX5_digestOfRows_143 : decode cX5_digestOfRows 143 = .ok (.ldc2_w 121, 3) := by decide +kernel
theorem dX5_digestOfRows_146 : decode cX5_digestOfRows 146 = .ok (.lload_n 3, 1) := by decide +kernel
theorem dX5_digestOfRows_147 : decode cX5_digestOfRows 147 = .ok (.lmul, 1) := by decide +kernel
theorem dX5_digestOfRows_148 : decode cX5_digestOfRows 148 = .ok (.aload_n 0, 1) := by decide +kernel
theorem dX5_digestOfRows_149 : decode cX5_digestOfRows 149 = .ok (.getfield 39, 3) := by decide +kernel
theorem dX5_digestOfRows_152 : decode cX5_digestOfRows 152 = .ok (.iload 5, 2) := by decide +kernel
theorem dX5_digestOfRows_154 : decode cX5_digestOfRows 154 = .ok (.iaload, 1) := by decide +kernel
theorem dX5_digestOfRows_155 : decode cX5_digestOfRows 155 = .ok (.i2l, 1) := by decide +kernel
theorem dX5_digestOfRows_156 : decode cX5_digestOfRows 156 = .ok (.ladd, 1) := by decide +kernel
theorem dX5_digestOfRows_157 : decode cX5_digestOfRows 157 = .ok (.lstore_n 3, 1) := by decide +kernel
theorem dX5_digestOfRows_158 : decode cX5_digestOfRows 158 = .ok (.iinc 5 1, 3) := by decide +kernel
theorem dX5_digestOfRows_161 : decode cX5_digestOfRows 161 = .ok (.goto (-27), 3) := by decide +kernel
theorem dX5_digestOfRows_164 : decode cX5_digestOfRows 164 = .ok (.ldc2_w 121, 3) := by decide +kernel
theorem dX5_digestOfRows_167 : decode cX5_digestOfRows 167 = .ok (.lload_n 3, 1) := by decide +kernel
theorem dX5_digestOfRows_168 : decode cX5_digestOfRows 168 = .ok (.lmul, 1) := by decide +kernel
theorem dX5_digestOfRows_169 : decode cX5_digestOfRows 169 = .ok (.aload_n 0, 1) := by decide +kernel
theorem dX5_digestOfRows_170 : decode cX5_digestOfRows 170 = .ok (.getfield 62, 3) := by decide +kernel
theorem dX5_digestOfRows_173 : decode cX5_digestOfRows 173 = .ok (.i2l, 1) := by decide +kernel
theorem dX5_digestOfRows_174 : decode cX5_digestOfRows 174 = .ok (.ladd, 1) := by decide +kernel
theorem dX5_digestOfRows_175 : decode cX5_digestOfRows 175 = .ok (.lstore_n 3, 1) := by decide +kernel
theorem dX5_digestOfRows_176 : decode cX5_digestOfRows 176 = .ok (.ldc2_w 121, 3) := by decide +kernel
theorem dX5_digestOfRows_179 : decode cX5_digestOfRows 179 = .ok (.lload_n 3, 1) := by decide +kernel
theorem dX5_digestOfRows_180 : decode cX5_digestOfRows 180 = .ok (.lmul, 1) := by decide +kernel
theorem dX5_digestOfRows_181 : decode cX5_digestOfRows 181 = .ok (.aload_n 0, 1) := by decide +kernel
theorem dX5_digestOfRows_182 : decode cX5_digestOfRows 182 = .ok (.getfield 65, 3) := by decide +kernel
theorem dX5_digestOfRows_185 : decode cX5_digestOfRows 185 = .ok (.i2l, 1) := by decide +kernel
theorem dX5_digestOfRows_186 : decode cX5_digestOfRows 186 = .ok (.ladd, 1) := by decide +kernel
theorem dX5_digestOfRows_187 : decode cX5_digestOfRows 187 = .ok (.lreturn, 1) := by decide +kernel
theorem dX6_init_0 : decode cX6_init 0 = .ok (.aload_n 0, 1) := by decide +kernel
theorem dX6_init_1 : decode cX6_init 1 = .ok (.invokespecial 3, 3) := by decide +kernel
theorem dX6_init_4 : decode cX6_init 4 = .ok (.aload_n 0, 1) := by decide +kernel
theorem dX6_init_5 : decode cX6_init 5 = .ok (.iconst 4, 1) := by decide +kernel
theorem dX6_init_6 : decode cX6_init 6 = .ok (.bipush 7, 2) := by decide +kernel
theorem dX6_init_8 : decode cX6_init 8 = .ok (.multianewarray 9 2, 4) := by decide +kernel
theorem dX6_init_12 : decode cX6_init 12 = .ok (.putfield 11, 3) := by decide +kernel
theorem dX6_init_15 : decode cX6_init 15 = .ok (.return_, 1) := by decide +kernel
theorem dX6_find_0 : decode cX6_find 0 = .ok (.aload_n 0, 1) := by decide +kernel
theorem dX6_find_1 : decode cX6_find 1 = .ok (.aload_n 1, 1) := by decide +kernel
theorem dX6_find_2 : decode cX6_find 2 = .ok (.aload_n 2, 1) := by decide +kernel
theorem dX6_find_3 : decode cX6_find 3 = .ok (.invokevirtual 16, 3) := by decide +kernel
theorem dX6_find_6 : decode cX6_find 6 = .ok (.aload_n 0, 1) := by decide +kernel
theorem dX6_find_7 : decode cX6_find 7 = .ok (.iconst (-1), 1) := by decide +kernel
theorem dX6_find_8 : decode cX6_find 8 = .ok (.putfield 20, 3) := by decide +kernel
theorem dX6_find_11 : decode cX6_find 11 = .ok (.aload_n 0, 1) := by decide +kernel
theorem dX6_find_12 : decode cX6_find 12 = .ok (.iconst (-1), 1) := by decide +kernel
theorem dX6_find_13 : decode cX6_find 13 = .ok (.putfield 24, 3) := by decide +kernel
theorem dX6_find_16 : decode cX6_find 16 = .ok (.aload_n 0, 1) := by decide +kernel
theorem dX6_find_17 : decode cX6_find 17 = .ok (.iconst (-1), 1) := by decide +kernel
theorem dX6_find_18 : decode cX6_find 18 = .ok (.putfield 27, 3) := by decide +kernel
theorem dX6_find_21 : decode cX6_find 21 = .ok (.aload_n 0, 1) := by decide +kernel
theorem dX6_find_22 : decode cX6_find 22 = .ok (.aload_n 2, 1) := by decide +kernel
theorem dX6_find_23 : decode cX6_find 23 = .ok (.invokevirtual 30, 3) := by decide +kernel
theorem dX6_find_26 : decode cX6_find 26 = .ok (.ifCond .eq 11, 3) := by decide +kernel
theorem dX6_find_29 : decode cX6_find 29 = .ok (.aload_n 0, 1) := by decide +kernel
theorem dX6_find_30 : decode cX6_find 30 = .ok (.iconst 0, 1) := by decide +kernel
theorem dX6_find_31 : decode cX6_find 31 = .ok (.putfield 20, 3) := by decide +kernel
theorem dX6_find_34 : decode cX6_find 34 = .ok (.goto 54, 3) := by decide +kernel
theorem dX6_find_37 : decode cX6_find 37 = .ok (.aload_n 1, 1) := by decide +kernel
theorem dX6_find_38 : decode cX6_find 38 = .ok (.getfield 34, 3) := by decide +kernel
theorem dX6_find_41 : decode cX6_find 41 = .ok (.iconst 1, 1) := by decide +kernel
theorem dX6_find_42 : decode cX6_find 42 = .ok (.iadd, 1) := by decide +kernel
theorem dX6_find_43 : decode cX6_find 43 = .ok (.bipush 6, 2) := by decide +kernel
theorem dX6_find_45 : decode cX6_find 45 = .ok (.if_icmp .gt 19, 3) := by decide +kernel
theorem dX6_find_48 : decode cX6_find 48 = .ok (.aload_n 0, 1) := by decide +kernel
theorem dX6_find_49 : decode cX6_find 49 = .ok (.aload_n 2, 1) := by decide +kernel
theorem dX6_find_50 : decode cX6_find 50 = .ok (.invokevirtual 39, 3) := by decide +kernel
theorem dX6_find_53 : decode cX6_find 53 = .ok (.ifCond .eq 11, 3) := by decide +kernel
theorem dX6_find_56 : decode cX6_find 56 = .ok (.aload_n 0, 1) := by decide +kernel
theorem dX6_find_57 : decode cX6_find 57 = .ok (.iconst 1, 1) := by decide +kernel
theorem dX6_find_58 : decode cX6_find 58 = .ok (.putfield 20, 3) := by decide +kernel
theorem dX6_find_61 : decode cX6_find 61 = .ok (.goto 27, 3) := by decide +kernel
theorem dX6_find_64 : decode cX6_find 64 = .ok (.aload_n 1, 1) := by decide +kernel
theorem dX6_find_65 : decode cX6_find 65 = .ok (.getfield 34, 3) := by decide +kernel
theorem dX6_find_68 : decode cX6_find 68 = .ok (.iconst 2, 1) := by decide +kernel
theorem dX6_find_69 : decode cX6_find 69 = .ok (.iadd, 1) := by decide +kernel
theorem dX6_find_70 : decode cX6_find 70 = .ok (.bipush 6, 2) := by decide +kernel
theorem dX6_find_72 : decode cX6_find 72 = .ok (.if_icmp .gt 16, 3) := by decide +kernel
theorem dX6_find_75 : decode cX6_find 75 = .ok (.aload_n 0, 1) := by decide +kernel
theorem dX6_find_76 : decode cX6_find 76 = .ok (.aload_n 2, 1) := by decide +kernel
theorem dX6_find_77 : decode cX6_find 77 = .ok (.invokevirtual 42, 3) := by decide +kernel
theorem dX6_find_80 : decode cX6_find 80 = .ok (.ifCond .eq 8, 3) := by decide +kernel
theorem dX6_find_83 : decode cX6_find 83 = .ok (.aload_n 0, 1) := by decide +kernel
theorem dX6_find_84 : decode cX6_find 84 = .ok (.iconst 2, 1) := by decide +kernel
theorem dX6_find_85 : decode cX6_find 85 = .ok (.putfield 20, 3) := by decide +kernel
theorem dX6_find_88 : decode cX6_find 88 = .ok (.return_, 1) := by decide +kernel
theorem dX6_keepRows_0 : decode cX6_keepRows 0 = .ok (.aload_n 2, 1) := by decide +kernel
theorem dX6_keepRows_1 : decode cX6_keepRows 1 = .ok (.getfield 45, 3) := by decide +kernel
theorem dX6_keepRows_4 : decode cX6_keepRows 4 = .ok (.iconst 0, 1) := by decide +kernel
theorem dX6_keepRows_5 : decode cX6_keepRows 5 = .ok (.aload_n 0, 1) := by decide +kernel
theorem dX6_keepRows_6 : decode cX6_keepRows 6 = .ok (.getfield 11, 3) := by decide +kernel
theorem dX6_keepRows_9 : decode cX6_keepRows 9 = .ok (.iconst 0, 1) := by decide +kernel
theorem dX6_keepRows_10 : decode cX6_keepRows 10 = .ok (.aaload, 1) := by decide +kernel
theorem dX6_keepRows_11 : decode cX6_keepRows 11 = .ok (.iconst 0, 1) := by decide +kernel
theorem dX6_keepRows_12 : decode cX6_keepRows 12 = .ok (.bipush 7, 2) := by decide +kernel
theorem dX6_keepRows_14 : decode cX6_keepRows 14 = .ok (.invokestatic 51, 3) := by decide +kernel
theorem dX6_keepRows_17 : decode cX6_keepRows 17 = .ok (.iconst 0, 1) := by decide +kernel
theorem dX6_keepRows_18 : decode cX6_keepRows 18 = .ok (.istore_n 3, 1) := by decide +kernel
theorem dX6_keepRows_19 : decode cX6_keepRows 19 = .ok (.iload_n 3, 1) := by decide +kernel
theorem dX6_keepRows_20 : decode cX6_keepRows 20 = .ok (.aload_n 1, 1) := by decide +kernel
theorem dX6_keepRows_21 : decode cX6_keepRows 21 = .ok (.getfield 57, 3) := by decide +kernel
theorem dX6_keepRows_24 : decode cX6_keepRows 24 = .ok (.if_icmp .ge 42, 3) := by decide +kernel
theorem dX6_keepRows_27 : decode cX6_keepRows 27 = .ok (.aload_n 2, 1) := by decide +kernel
theorem dX6_keepRows_28 : decode cX6_keepRows 28 = .ok (.aload_n 1, 1) := by decide +kernel
theorem dX6_keepRows_29 : decode cX6_keepRows 29 = .ok (.getfield 60, 3) := by decide +kernel
theorem dX6_keepRows_32 : decode cX6_keepRows 32 = .ok (.iload_n 3, 1) := by decide +kernel
theorem dX6_keepRows_33 : decode cX6_keepRows 33 = .ok (.iaload, 1) := by decide +kernel
theorem dX6_keepRows_34 : decode cX6_keepRows 34 = .ok (.invokevirtual 63, 3) := by decide +kernel
theorem dX6_keepRows_37 : decode cX6_keepRows 37 = .ok (.aload_n 2, 1) := by decide +kernel
theorem dX6_keepRows_38 : decode cX6_keepRows 38 = .ok (.invokevirtual 67, 3) := by decide +kernel
theorem dX6_keepRows_41 : decode cX6_keepRows 41 = .ok (.aload_n 2, 1) := by decide +kernel
theorem dX6_keepRows_42 : decode cX6_keepRows 42 = .ok (.getfield 45, 3) := by decide +kernel
theorem dX6_keepRows_45 : decode cX6_keepRows 45 = .ok (.iconst 0, 1) := by decide +kernel
theorem dX6_keepRows_46 : decode cX6_keepRows 46 = .ok (.aload_n 0, 1) := by decide +kernel
theorem dX6_keepRows_47 : decode cX6_keepRows 47 = .ok (.getfield 11, 3) := by decide +kernel
theorem dX6_keepRows_50 : decode cX6_keepRows 50 = .ok (.iload_n 3, 1) := by decide +kernel
theorem dX6_keepRows_51 : decode cX6_keepRows 51 = .ok (.iconst 1, 1) := by decide +kernel
theorem dX6_keepRows_52 : decode cX6_keepRows 52 = .ok (.iadd, 1) := by decide +kernel
theorem dX6_keepRows_53 : decode cX6_keepRows 53 = .ok (.aaload, 1) := by decide +kernel
theorem dX6_keepRows_54 : decode cX6_keepRows 54 = .ok (.iconst 0, 1) := by decide +kernel
theorem dX6_keepRows_55 : decode cX6_keepRows 55 = .ok (.bipush 7, 2) := by decide +kernel
theorem dX6_keepRows_57 : decode cX6_keepRows 57 = .ok (.invokestatic 51, 3) := by decide +kernel
theorem dX6_keepRows_60 : decode cX6_keepRows 60 = .ok (.iinc 3 1, 3) := by decide +kernel
theorem dX6_keepRows_63 : decode cX6_keepRows 63 = .ok (.goto (-44), 3) := by decide +kernel
theorem dX6_keepRows_66 : decode cX6_keepRows 66 = .ok (.aload_n 0, 1) := by decide +kernel
theorem dX6_keepRows_67 : decode cX6_keepRows 67 = .ok (.aload_n 1, 1) := by decide +kernel
theorem dX6_keepRows_68 : decode cX6_keepRows 68 = .ok (.getfield 57, 3) := by decide +kernel
theorem dX6_keepRows_71 : decode cX6_keepRows 71 = .ok (.iconst 1, 1) := by decide +kernel
theorem dX6_keepRows_72 : decode cX6_keepRows 72 = .ok (.iadd, 1) := by decide +kernel
theorem dX6_keepRows_73 : decode cX6_keepRows 73 = .ok (.putfield 70, 3) := by decide +kernel
theorem dX6_keepRows_76 : decode cX6_keepRows 76 = .ok (.return_, 1) := by decide +kernel
theorem dX6_allWell_0 : decode cX6_allWell 0 = .ok (.iconst 0, 1) := by decide +kernel
theorem dX6_allWell_1 : decode cX6_allWell 1 = .ok (.istore_n 2, 1) := by decide +kernel
theorem dX6_allWell_2 : decode cX6_allWell 2 = .ok (.iload_n 2, 1) := by decide +kernel
theorem dX6_allWell_3 : decode cX6_allWell 3 = .ok (.aload_n 0, 1) := by decide +kernel
theorem dX6_allWell_4 : decode cX6_allWell 4 = .ok (.getfield 70, 3) := by decide +kernel
theorem dX6_allWell_7 : decode cX6_allWell 7 = .ok (.if_icmp .ge 36, 3) := by decide +kernel
theorem dX6_allWell_10 : decode cX6_allWell 10 = .ok (.aload_n 1, 1) := by decide +kernel
theorem dX6_allWell_11 : decode cX6_allWell 11 = .ok (.aload_n 0, 1) := by decide +kernel
theorem dX6_allWell_12 : decode cX6_allWell 12 = .ok (.getfield 11, 3) := by decide +kernel
theorem dX6_allWell_15 : decode cX6_allWell 15 = .ok (.iload_n 2, 1) := by decide +kernel
theorem dX6_allWell_16 : decode cX6_allWell 16 = .ok (.aaload, 1) := by decide +kernel
theorem dX6_allWell_17 : decode cX6_allWell 17 = .ok (.invokevirtual 73, 3) := by decide +kernel
theorem dX6_allWell_20 : decode cX6_allWell 20 = .ok (.aload_n 1, 1) := by decide +kernel
theorem dX6_allWell_21 : decode cX6_allWell 21 = .ok (.aload_n 1, 1) := by decide +kernel
theorem dX6_allWell_22 : decode cX6_allWell 22 = .ok (.getfield 77, 3) := by decide +kernel
theorem dX6_allWell_25 : decode cX6_allWell 25 = .ok (.invokevirtual 80, 3) := by decide +kernel
theorem dX6_allWell_28 : decode cX6_allWell 28 = .ok (.aload_n 1, 1) := by decide +kernel
theorem dX6_allWell_29 : decode cX6_allWell 29 = .ok (.getfield 77, 3) := by decide +kernel
theorem dX6_allWell_32 : decode cX6_allWell 32 = .ok (.if_icmp .ge 5, 3) := by decide +kernel
theorem dX6_allWell_35 : decode cX6_allWell 35 = .ok (.iconst 0, 1) := by decide +kernel
theorem dX6_allWell_36 : decode cX6_allWell 36 = .ok (.ireturn, 1) := by decide +kernel
theorem dX6_allWell_37 : decode cX6_allWell 37 = .ok (.iinc 2 1, 3) := by decide +kernel
theorem dX6_allWell_40 : decode cX6_allWell 40 = .ok (.goto (-38), 3) := by decide +kernel
theorem dX6_allWell_43 : decode cX6_allWell 43 = .ok (.iconst 1, 1) := by decide +kernel
theorem dX6_allWell_44 : decode cX6_allWell 44 = .ok (.ireturn, 1) := by decide +kernel
theorem dX6_findOne_0 : decode cX6_findOne 0 = .ok (.iconst 0, 1) := by decide +kernel
theorem dX6_findOne_1 : decode cX6_findOne 1 = .ok (.istore_n 2, 1) := by decide +kernel
theorem dX6_findOne_2 : decode cX6_findOne 2 = .ok (.iload_n 2, 1) := by decide +kernel
theorem dX6_findOne_3 : decode cX6_findOne 3 = .ok (.aload_n 1, 1) := by decide +kernel
theorem dX6_findOne_4 : decode cX6_findOne 4 = .ok (.getfield 77, 3) := by decide +kernel
theorem dX6_findOne_7 : decode cX6_findOne 7 = .ok (.bipush 6, 2) := by decide +kernel
theorem dX6_findOne_9 : decode cX6_findOne 9 = .ok (.imul, 1) := by decide +kernel
theorem dX6_findOne_10 : decode cX6_findOne 10 = .ok (.if_icmp .ge 29, 3) := by decide +kernel
theorem dX6_findOne_13 : decode cX6_findOne 13 = .ok (.aload_n 0, 1) := by decide +kernel
theorem dX6_findOne_14 : decode cX6_findOne 14 = .ok (.aload_n 1, 1) := by decide +kernel
theorem dX6_findOne_15 : decode cX6_findOne 15 = .ok (.iload_n 2, 1) := by decide +kernel
theorem dX6_findOne_16 : decode cX6_findOne 16 = .ok (.iload_n 2, 1) := by decide +kernel
theorem dX6_findOne_17 : decode cX6_findOne 17 = .ok (.invokevirtual 84, 3) := by decide +kernel
theorem dX6_findOne_20 : decode cX6_findOne 20 = .ok (.ifCond .eq 13, 3) := by decide +kernel
theorem dX6_findOne_23 : decode cX6_findOne 23 = .ok (.aload_n 0, 1) := by decide +kernel
theorem dX6_findOne_24 : decode cX6_findOne 24 = .ok (.iload_n 2, 1) := by decide +kernel
theorem dX6_findOne_25 : decode cX6_findOne 25 = .ok (.invokestatic 88, 3) := by decide +kernel
theorem dX6_findOne_28 : decode cX6_findOne 28 = .ok (.putfield 24, 3) := by decide +kernel
theorem dX6_findOne_31 : decode cX6_findOne 31 = .ok (.iconst 1, 1) := by decide +kernel
theorem dX6_findOne_32 : decode cX6_findOne 32 = .ok (.ireturn, 1) := by decide +kernel
theorem dX6_findOne_33 : decode cX6_findOne 33 = .ok (.iinc 2 1, 3) := by decide +kernel
theorem dX6_findOne_36 : decode cX6_findOne 36 = .ok (.goto (-34), 3) := by decide +kernel
theorem dX6_findOne_39 : decode cX6_findOne 39 = .ok (.iconst 0, 1) := by decide +kernel
theorem dX6_findOne_40 : decode cX6_findOne 40 = .ok (.ireturn, 1) := by decide +kernel
theorem dX6_findTwo_0 : decode cX6_findTwo 0 = .ok (.iconst 0, 1) := by decide +kernel
theorem dX6_findTwo_1 : decode cX6_findTwo 1 = .ok (.istore_n 2, 1) := by decide +kernel
theorem dX6_findTwo_2 : decode cX6_findTwo 2 = .ok (.iload_n 2, 1) := by decide +kernel
theorem dX6_findTwo_3 : decode cX6_findTwo 3 = .ok (.aload_n 1, 1) := by decide +kernel
theorem dX6_findTwo_4 : decode cX6_findTwo 4 = .ok (.getfield 77, 3) := by decide +kernel
theorem dX6_findTwo_7 : decode cX6_findTwo 7 = .ok (.bipush 6, 2) := by decide +kernel
theorem dX6_findTwo_9 : decode cX6_findTwo 9 = .ok (.imul, 1) := by decide +kernel
theorem dX6_findTwo_10 : decode cX6_findTwo 10 = .ok (.if_icmp .ge 58, 3) := by decide +kernel
theorem dX6_findTwo_13 : decode cX6_findTwo 13 = .ok (.iload_n 2, 1) := by decide +kernel
theorem dX6_findTwo_14 : decode cX6_findTwo 14 = .ok (.iconst 1, 1) := by decide +kernel
theorem dX6_findTwo_15 : decode cX6_findTwo 15 = .ok (.iadd, 1) := by decide +kernel
theorem dX6_findTwo_16 : decode cX6_findTwo 16 = .ok (.istore_n 3, 1) := by decide +kernel
theorem dX6_findTwo_17 : decode cX6_findTwo 17 = .ok (.iload_n 3, 1) := by decide +kernel
theorem dX6_findTwo_18 : decode cX6_findTwo 18 = .ok (.aload_n 1, 1) := by decide +kernel
theorem dX6_findTwo_19 : decode cX6_findTwo 19 = .ok (.getfield 77, 3) := by decide +kernel
theorem dX6_findTwo_22 : decode cX6_findTwo 22 = .ok (.bipush 6, 2) := by decide +kernel
theorem dX6_findTwo_24 : decode cX6_findTwo 24 = .ok (.imul, 1) := by decide +kernel
theorem dX6_findTwo_25 : decode cX6_findTwo 25 = .ok (.if_icmp .ge 37, 3) := by decide +kernel
theorem dX6_findTwo_28 : decode cX6_findTwo 28 = .ok (.aload_n 0, 1) := by decide +kernel
theorem dX6_findTwo_29 : decode cX6_findTwo 29 = .ok (.aload_n 1, 1) := by decide +kernel
theorem dX6_findTwo_30 : decode cX6_findTwo 30 = .ok (.iload_n 2, 1) := by decide +kernel
theorem dX6_findTwo_31 : decode cX6_findTwo 31 = .ok (.iload_n 3, 1) := by decide +kernel
theorem dX6_findTwo_32 : decode cX6_findTwo 32 = .ok (.invokevirtual 84, 3) := by decide +kernel
theorem dX6_findTwo_35 : decode cX6_findTwo 35 = .ok (.ifCond .eq 21, 3) := by decide +kernel
theorem dX6_findTwo_38 : decode cX6_findTwo 38 = .ok (.aload_n 0, 1) := by decide +kernel
theorem dX6_findTwo_39 : decode cX6_findTwo 39 = .ok (.iload_n 2, 1) := by decide +kernel
theorem dX6_findTwo_40 : decode cX6_findTwo 40 = .ok (.invokestatic 88, 3) := by decide +kernel
theorem dX6_findTwo_43 : decode cX6_findTwo 43 = .ok (.putfield 24, 3) := by decide +kernel
theorem dX6_findTwo_46 : decode cX6_findTwo 46 = .ok (.aload_n 0, 1) := by decide +kernel
theorem dX6_findTwo_47 : decode cX6_findTwo 47 = .ok (.iload_n 3, 1) := by decide +kernel
theorem dX6_findTwo_48 : decode cX6_findTwo 48 = .ok (.invokestatic 88, 3) := by decide +kernel
theorem dX6_findTwo_51 : decode cX6_findTwo 51 = .ok (.putfield 27, 3) := by decide +kernel
theorem dX6_findTwo_54 : decode cX6_findTwo 54 = .ok (.iconst 1, 1) := by decide +kernel
theorem dX6_findTwo_55 : decode cX6_findTwo 55 = .ok (.ireturn, 1) := by decide +kernel
theorem dX6_findTwo_56 : decode cX6_findTwo 56 = .ok (.iinc 3 1, 3) := by decide +kernel
theorem dX6_findTwo_59 : decode cX6_findTwo 59 = .ok (.goto (-42), 3) := by decide +kernel
theorem dX6_findTwo_62 : decode cX6_findTwo 62 = .ok (.iinc 2 1, 3) := by decide +kernel
theorem dX6_findTwo_65 : decode cX6_findTwo 65 = .ok (.goto (-63), 3) := by decide +kernel
theorem dX6_findTwo_68 : decode cX6_findTwo 68 = .ok (.iconst 0, 1) := by decide +kernel
theorem dX6_findTwo_69 : decode cX6_findTwo 69 = .ok (.ireturn, 1) := by decide +kernel
theorem dX6_wellWith_0 : decode cX6_wellWith 0 = .ok (.iload_n 2, 1) := by decide +kernel
theorem dX6_wellWith_1 : decode cX6_wellWith 1 = .ok (.bipush 6, 2) := by decide +kernel
theorem dX6_wellWith_3 : decode cX6_wellWith 3 = .ok (.idiv, 1) := by decide +kernel
theorem dX6_wellWith_4 : decode cX6_wellWith 4 = .ok (.istore 4, 2) := by decide +kernel
theorem dX6_wellWith_6 : decode cX6_wellWith 6 = .ok (.iload_n 3, 1) := by decide +kernel
theorem dX6_wellWith_7 : decode cX6_wellWith 7 = .ok (.bipush 6, 2) := by decide +kernel
theorem dX6_wellWith_9 : decode cX6_wellWith 9 = .ok (.idiv, 1) := by decide +kernel
theorem dX6_wellWith_10 : decode cX6_wellWith 10 = .ok (.istore 5, 2) := by decide +kernel
theorem dX6_wellWith_12 : decode cX6_wellWith 12 = .ok (.aload_n 1, 1) := by decide +kernel
theorem dX6_wellWith_13 : decode cX6_wellWith 13 = .ok (.getfield 91, 3) := by decide +kernel
theorem dX6_wellWith_16 : decode cX6_wellWith 16 = .ok (.iload 4, 2) := by decide +kernel
theorem dX6_wellWith_18 : decode cX6_wellWith 18 = .ok (.iaload, 1) := by decide +kernel
theorem dX6_wellWith_19 : decode cX6_wellWith 19 = .ok (.istore 6, 2) := by decide +kernel
theorem dX6_wellWith_21 : decode cX6_wellWith 21 = .ok (.aload_n 1, 1) := by decide +kernel
theorem dX6_wellWith_22 : decode cX6_wellWith 22 = .ok (.getfield 91, 3) := by decide +kernel
theorem dX6_wellWith_25 : decode cX6_wellWith 25 = .ok (.iload 5, 2) := by decide +kernel
theorem dX6_wellWith_27 : decode cX6_wellWith 27 = .ok (.iaload, 1) := by decide +kernel
theorem dX6_wellWith_28 : decode cX6_wellWith 28 = .ok (.istore 7, 2) := by decide +kernel
theorem dX6_wellWith_30 : decode cX6_wellWith 30 = .ok (.aload_n 1, 1) := by decide +kernel
theorem dX6_wellWith_31 : decode cX6_wellWith 31 = .ok (.getfield 91, 3) := by decide +kernel
theorem dX6_wellWith_34 : decode cX6_wellWith 34 = .ok (.iload 4, 2) := by decide +kernel
theorem dX6_wellWith_36 : decode cX6_wellWith 36 = .ok (.dup2, 1) := by decide +kernel
theorem dX6_wellWith_37 : decode cX6_wellWith 37 = .ok (.iaload, 1) := by decide +kernel
theorem dX6_wellWith_38 : decode cX6_wellWith 38 = .ok (.iconst 1, 1) := by decide +kernel
theorem dX6_wellWith_39 : decode cX6_wellWith 39 = .ok (.iload_n 2, 1) := by decide +kernel
theorem dX6_wellWith_40 : decode cX6_wellWith 40 = .ok (.bipush 6, 2) := by decide +kernel
theorem dX6_wellWith_42 : decode cX6_wellWith 42 = .ok (.irem, 1) := by decide +kernel
theorem dX6_wellWith_43 : decode cX6_wellWith 43 = .ok (.ishl, 1) := by decide +kernel
theorem dX6_wellWith_44 : decode cX6_wellWith 44 = .ok (.ior, 1) := by decide +kernel
theorem dX6_wellWith_45 : decode cX6_wellWith 45 = .ok (.iastore, 1) := by decide +kernel
theorem dX6_wellWith_46 : decode cX6_wellWith 46 = .ok (.aload_n 1, 1) := by decide +kernel
theorem dX6_wellWith_47 : decode cX6_wellWith 47 = .ok (.getfield 91, 3) := by decide +kernel
theorem dX6_wellWith_50 : decode cX6_wellWith 50 = .ok (.iload 5, 2) := by decide +kernel
theorem dX6_wellWith_52 : decode cX6_wellWith 52 = .ok (.dup2, 1) := by decide +kernel
theorem dX6_wellWith_53 : decode cX6_wellWith 53 = .ok (.iaload, 1) := by decide +kernel
theorem dX6_wellWith_54 : decode cX6_wellWith 54 = .ok (.iconst 1, 1) := by decide +kernel
theorem dX6_wellWith_55 : decode cX6_wellWith 55 = .ok (.iload_n 3, 1) := by decide +kernel
theorem dX6_wellWith_56 : decode cX6_wellWith 56 = .ok (.bipush 6, 2) := by decide +kernel
theorem dX6_wellWith_58 : decode cX6_wellWith 58 = .ok (.irem, 1) := by decide +kernel
theorem dX6_wellWith_59 : decode cX6_wellWith 59 = .ok (.ishl, 1) := by decide +kernel
theorem dX6_wellWith_60 : decode cX6_wellWith 60 = .ok (.ior, 1) := by decide +kernel
theorem dX6_wellWith_61 : decode cX6_wellWith 61 = .ok (.iastore, 1) := by decide +kernel
theorem dX6_wellWith_62 : decode cX6_wellWith 62 = .ok (.aload_n 0, 1) := by decide +kernel
theorem dX6_wellWith_63 : decode cX6_wellWith 63 = .ok (.aload_n 1, 1) := by decide +kernel
theorem dX6_wellWith_64 : decode cX6_wellWith 64 = .ok (.invokevirtual 30, 3) := by decide +kernel
theorem dX6_wellWith_67 : decode cX6_wellWith 67 = .ok (.istore 8, 2) := by decide +kernel
theorem dX6_wellWith_69 : decode cX6_wellWith 69 = .ok (.aload_n 1, 1) := by decide +kernel
theorem dX6_wellWith_70 : decode cX6_wellWith 70 = .ok (.getfield 91, 3) := by decide +kernel
theorem dX6_wellWith_73 : decode cX6_wellWith 73 = .ok (.iload 5, 2) := by decide +kernel
theorem dX6_wellWith_75 : decode cX6_wellWith 75 = .ok (.iload 7, 2) := by decide +kernel
theorem dX6_wellWith_77 : decode cX6_wellWith 77 = .ok (.iastore, 1) := by decide +kernel
theorem dX6_wellWith_78 : decode cX6_wellWith 78 = .ok (.aload_n 1, 1) := by decide +kernel
theorem dX6_wellWith_79 : decode cX6_wellWith 79 = .ok (.getfield 91, 3) := by decide +kernel
theorem dX6_wellWith_82 : decode cX6_wellWith 82 = .ok (.iload 4, 2) := by decide +kernel
theorem dX6_wellWith_84 : decode cX6_wellWith 84 = .ok (.iload 6, 2) := by decide +kernel
theorem dX6_wellWith_86 : decode cX6_wellWith 86 = .ok (.iastore, 1) := by decide +kernel
theorem dX6_wellWith_87 : decode cX6_wellWith 87 = .ok (.iload 8, 2) := by decide +kernel
theorem dX6_wellWith_89 : decode cX6_wellWith 89 = .ok (.ireturn, 1) := by decide +kernel
theorem dX6_named_0 : decode cX6_named 0 = .ok (.bipush 10, 2) := by decide +kernel
theorem dX6_named_2 : decode cX6_named 2 = .ok (.iload_n 0, 1) := by decide +kernel
theorem dX6_named_3 : decode cX6_named 3 = .ok (.bipush 6, 2) := by decide +kernel
theorem dX6_named_5 : decode cX6_named 5 = .ok (.idiv, 1) := by decide +kernel
theorem dX6_named_6 : decode cX6_named 6 = .ok (.imul, 1) := by decide +kernel
theorem dX6_named_7 : decode cX6_named 7 = .ok (.iload_n 0, 1) := by decide +kernel
theorem dX6_named_8 : decode cX6_named 8 = .ok (.bipush 6, 2) := by decide +kernel
theorem dX6_named_10 : decode cX6_named 10 = .ok (.irem, 1) := by decide +kernel
theorem dX6_named_11 : decode cX6_named 11 = .ok (.iadd, 1) := by decide +kernel
theorem dX6_named_12 : decode cX6_named 12 = .ok (.ireturn, 1) := by decide +kernel
theorem dX7_init_0 : decode cX7_init 0 = .ok (.aload_n 0, 1) := by decide +kernel
theorem dX7_init_1 : decode cX7_init 1 = .ok (.invokespecial 1, 3) := by decide +kernel
theorem dX7_init_4 : decode cX7_init 4 = .ok (.return_, 1) := by decide +kernel
theorem dX7_canRead_0 : decode cX7_canRead 0 = .ok (.iconst 1, 1) := by decide +kernel
theorem dX7_canRead_1 : decode cX7_canRead 1 = .ok (.ireturn, 1) := by decide +kernel
theorem dX7_canWrite_0 : decode cX7_canWrite 0 = .ok (.iconst 1, 1) := by decide +kernel
theorem dX7_canWrite_1 : decode cX7_canWrite 1 = .ok (.ireturn, 1) := by decide +kernel
theorem dX7_learntOf_0 : decode cX7_learntOf 0 = .ok (.iload_n 2, 1) := by decide +kernel
theorem dX7_learntOf_1 : decode cX7_learntOf 1 = .ok (.ireturn, 1) := by decide +kernel
theorem dX7_neededOf_0 : decode cX7_neededOf 0 = .ok (.iload_n 1, 1) := by decide +kernel
theorem dX7_neededOf_1 : decode cX7_neededOf 1 = .ok (.ireturn, 1) := by decide +kernel
theorem dX8_init_0 : decode cX8_init 0 = .ok (.aload_n 0, 1) := by decide +kernel
theorem dX8_init_1 : decode cX8_init 1 = .ok (.invokespecial 1, 3) := by decide +kernel
theorem dX8_init_4 : decode cX8_init 4 = .ok (.return_, 1) := by decide +kernel
theorem dX8_learntOf_0 : decode cX8_learntOf 0 = .ok (.iload_n 2, 1) := by decide +kernel
theorem dX8_learntOf_1 : decode cX8_learntOf 1 = .ok (.iload_n 1, 1) := by decide +kernel
theorem dX8_learntOf_2 : decode cX8_learntOf 2 = .ok (.ior, 1) := by decide +kernel
theorem dX8_learntOf_3 : decode cX8_learntOf 3 = .ok (.ireturn, 1) := by decide +kernel
theorem dX9_init_0 : decode cX9_init 0 = .ok (.aload_n 0, 1) := by decide +kernel
theorem dX9_init_1 : decode cX9_init 1 = .ok (.invokespecial 3, 3) := by decide +kernel
theorem dX9_init_4 : decode cX9_init 4 = .ok (.aload_n 0, 1) := by decide +kernel
theorem dX9_init_5 : decode cX9_init 5 = .ok (.iconst 0, 1) := by decide +kernel
theorem dX9_init_6 : decode cX9_init 6 = .ok (.putfield 9, 3) := by decide +kernel
theorem dX9_init_9 : decode cX9_init 9 = .ok (.aload_n 0, 1) := by decide +kernel
theorem dX9_init_10 : decode cX9_init 10 = .ok (.iconst 0, 1) := by decide +kernel
theorem dX9_init_11 : decode cX9_init 11 = .ok (.putfield 15, 3) := by decide +kernel
theorem dX9_init_14 : decode cX9_init 14 = .ok (.aload_n 0, 1) := by decide +kernel
theorem dX9_init_15 : decode cX9_init 15 = .ok (.bipush 30, 2) := by decide +kernel
theorem dX9_init_17 : decode cX9_init 17 = .ok (.newarray .int, 2) := by decide +kernel
theorem dX9_init_19 : decode cX9_init 19 = .ok (.putfield 18, 3) := by decide +kernel
theorem dX9_init_22 : decode cX9_init 22 = .ok (.aload_n 0, 1) := by decide +kernel
theorem dX9_init_23 : decode cX9_init 23 = .ok (.sipush 150, 3) := by decide +kernel
theorem dX9_init_26 : decode cX9_init 26 = .ok (.newarray .byte, 2) := by decide +kernel
theorem dX9_init_28 : decode cX9_init 28 = .ok (.putfield 22, 3) := by decide +kernel
theorem dX9_init_31 : decode cX9_init 31 = .ok (.return_, 1) := by decide +kernel
theorem dX9_take_0 : decode cX9_take 0 = .ok (.iload_n 1, 1) := by decide +kernel
theorem dX9_take_1 : decode cX9_take 1 = .ok (.ifCond .lt 9, 3) := by decide +kernel
theorem dX9_take_4 : decode cX9_take 4 = .ok (.iload_n 1, 1) := by decide +kernel
theorem dX9_take_5 : decode cX9_take 5 = .ok (.bipush 127, 2) := by decide +kernel
theorem dX9_take_7 : decode cX9_take 7 = .ok (.if_icmp .le 6, 3) := by decide +kernel
theorem dX9_take_10 : decode cX9_take 10 = .ok (.bipush (-2), 2) := by decide +kernel
theorem dX9_take_12 : decode cX9_take 12 = .ok (.ireturn, 1) := by decide +kernel
theorem dX9_take_13 : decode cX9_take 13 = .ok (.aload_n 0, 1) := by decide +kernel
theorem dX9_take_14 : decode cX9_take 14 = .ok (.getfield 9, 3) := by decide +kernel
theorem dX9_take_17 : decode cX9_take 17 = .ok (.sipush 150, 3) := by decide +kernel
theorem dX9_take_20 : decode cX9_take 20 = .ok (.if_icmp .lt 6, 3) := by decide +kernel
theorem dX9_take_23 : decode cX9_take 23 = .ok (.bipush (-4), 2) := by decide +kernel
theorem dX9_take_25 : decode cX9_take 25 = .ok (.ireturn, 1) := by decide +kernel
theorem dX9_take_26 : decode cX9_take 26 = .ok (.aload_n 0, 1) := by decide +kernel
theorem dX9_take_27 : decode cX9_take 27 = .ok (.getfield 22, 3) := by decide +kernel
theorem dX9_take_30 : decode cX9_take 30 = .ok (.aload_n 0, 1) := by decide +kernel
theorem dX9_take_31 : decode cX9_take 31 = .ok (.getfield 9, 3) := by decide +kernel
theorem dX9_take_34 : decode cX9_take 34 = .ok (.iload_n 1, 1) := by decide +kernel
theorem dX9_take_35 : decode cX9_take 35 = .ok (.i2b, 1) := by decide +kernel
theorem dX9_take_36 : decode cX9_take 36 = .ok (.bastore, 1) := by decide +kernel
theorem dX9_take_37 : decode cX9_take 37 = .ok (.aload_n 0, 1) := by decide +kernel
theorem dX9_take_38 : decode cX9_take 38 = .ok (.dup, 1) := by decide +kernel
theorem dX9_take_39 : decode cX9_take 39 = .ok (.getfield 9, 3) := by decide +kernel
theorem dX9_take_42 : decode cX9_take 42 = .ok (.iconst 1, 1) := by decide +kernel
theorem dX9_take_43 : decode cX9_take 43 = .ok (.iadd, 1) := by decide +kernel
theorem dX9_take_44 : decode cX9_take 44 = .ok (.putfield 9, 3) := by decide +kernel
theorem dX9_take_47 : decode cX9_take 47 = .ok (.aload_n 0, 1) := by decide +kernel
theorem dX9_take_48 : decode cX9_take 48 = .ok (.getfield 9, 3) := by decide +kernel
theorem dX9_take_51 : decode cX9_take 51 = .ok (.ireturn, 1) := by decide +kernel
theorem dX9_findFault_0 : decode cX9_findFault 0 = .ok (.aload_n 0, 1) := by decide +kernel
theorem dX9_findFault_1 : decode cX9_findFault 1 = .ok (.iconst 0, 1) := by decide +kernel
theorem dX9_findFault_2 : decode cX9_findFault 2 = .ok (.putfield 26, 3) := by decide +kernel
theorem dX9_findFault_5 : decode cX9_findFault 5 = .ok (.aload_n 0, 1) := by decide +kernel
theorem dX9_findFault_6 : decode cX9_findFault 6 = .ok (.iconst 0, 1) := by decide +kernel
theorem dX9_findFault_7 : decode cX9_findFault 7 = .ok (.putfield 15, 3) := by decide +kernel
theorem dX9_findFault_10 : decode cX9_findFault 10 = .ok (.iconst 0, 1) := by decide +kernel
theorem dX9_findFault_11 : decode cX9_findFault 11 = .ok (.istore_n 1, 1) := by decide +kernel
theorem dX9_findFault_12 : decode cX9_findFault 12 = .ok (.iload_n 1, 1) := by decide +kernel
theorem dX9_findFault_13 : decode cX9_findFault 13 = .ok (.bipush 30, 2) := by decide +kernel
theorem dX9_findFault_15 : decode cX9_findFault 15 = .ok (.if_icmp .gt 43, 3) := by decide +kernel
theorem dX9_findFault_18 : decode cX9_findFault 18 = .ok (.aload_n 0, 1) := by decide +kernel
theorem dX9_findFault_19 : decode cX9_findFault 19 = .ok (.invokevirtual 29, 3) := by decide +kernel
theorem dX9_findFault_22 : decode cX9_findFault 22 = .ok (.aload_n 0, 1) := by decide +kernel
theorem dX9_findFault_23 : decode cX9_findFault 23 = .ok (.getfield 32, 3) := by decide +kernel
theorem dX9_findFault_26 : decode cX9_findFault 26 = .ok (.bipush 11, 2) := by decide +kernel
theorem dX9_findFault_28 : decode cX9_findFault 28 = .ok (.if_icmp .ne 12, 3) := by decide +kernel
theorem dX9_findFault_31 : decode cX9_findFault 31 = .ok (.aload_n 0, 1) := by decide +kernel
theorem dX9_findFault_32 : decode cX9_findFault 32 = .ok (.getfield 15, 3) := by decide +kernel
theorem dX9_findFault_35 : decode cX9_findFault 35 = .ok (.ifCond .le 5, 3) := by decide +kernel
theorem dX9_findFault_38 : decode cX9_findFault 38 = .ok (.iconst (-1), 1) := by decide +kernel
theorem dX9_findFault_39 : decode cX9_findFault 39 = .ok (.ireturn, 1) := by decide +kernel
theorem dX9_findFault_40 : decode cX9_findFault 40 = .ok (.aload_n 0, 1) := by decide +kernel
theorem dX9_findFault_41 : decode cX9_findFault 41 = .ok (.invokevirtual 35, 3) := by decide +kernel
theorem dX9_findFault_44 : decode cX9_findFault 44 = .ok (.ifCond .ne 8, 3) := by decide +kernel
theorem dX9_findFault_47 : decode cX9_findFault 47 = .ok (.aload_n 0, 1) := by decide +kernel
theorem dX9_findFault_48 : decode cX9_findFault 48 = .ok (.getfield 39, 3) := by decide +kernel
theorem dX9_findFault_51 : decode cX9_findFault 51 = .ok (.ireturn, 1) := by decide +kernel
theorem dX9_findFault_52 : decode cX9_findFault 52 = .ok (.iinc 1 1, 3) := by decide +kernel
theorem dX9_findFault_55 : decode cX9_findFault 55 = .ok (.goto (-43), 3) := by decide +kernel
theorem dX9_findFault_58 : decode cX9_findFault 58 = .ok (.aload_n 0, 1) := by decide +kernel
theorem dX9_findFault_59 : decode cX9_findFault 59 = .ok (.getfield 39, 3) := by decide +kernel
theorem dX9_findFault_62 : decode cX9_findFault 62 = .ok (.ireturn, 1) := by decide +kernel
theorem dX9_takeItem_0 : decode cX9_takeItem 0 = .ok (.aload_n 0, 1) := by decide +kernel
theorem dX9_takeItem_1 : decode cX9_takeItem 1 = .ok (.getfield 15, 3) := by decide +kernel
theorem dX9_takeItem_4 : decode cX9_takeItem 4 = .ok (.ifCond .ne 7, 3) := by decide +kernel
theorem dX9_takeItem_7 : decode cX9_takeItem 7 = .ok (.iconst 1, 1) := by decide +kernel
theorem dX9_takeItem_8 : decode cX9_takeItem 8 = .ok (.goto 4, 3) := by decide +kernel
theorem dX9_takeItem_11 : decode cX9_takeItem 11 = .ok (.iconst 0, 1) := by decide +kernel
theorem dX9_takeItem_12 : decode cX9_takeItem 12 = .ok (.istore_n 1, 1) := by decide +kernel
theorem dX9_takeItem_13 : decode cX9_takeItem 13 = .ok (.aload_n 0, 1) := by decide +kernel
theorem dX9_takeItem_14 : decode cX9_takeItem 14 = .ok (.getfield 32, 3) := by decide +kernel
theorem dX9_takeItem_17 : decode cX9_takeItem 17 = .ok (.bipush 7, 2) := by decide +kernel
theorem dX9_takeItem_19 : decode cX9_takeItem 19 = .ok (.if_icmp .ge 28, 3) := by decide +kernel
theorem dX9_takeItem_22 : decode cX9_takeItem 22 = .ok (.iload_n 1, 1) := by decide +kernel
theorem dX9_takeItem_23 : decode cX9_takeItem 23 = .ok (.aload_n 0, 1) := by decide +kernel
theorem dX9_takeItem_24 : decode cX9_takeItem 24 = .ok (.getfield 32, 3) := by decide +kernel
theorem dX9_takeItem_27 : decode cX9_takeItem 27 = .ok (.ifCond .ne 7, 3) := by decide +kernel
theorem dX9_takeItem_30 : decode cX9_takeItem 30 = .ok (.iconst 1, 1) := by decide +kernel
theorem dX9_takeItem_31 : decode cX9_takeItem 31 = .ok (.goto 4, 3) := by decide +kernel
theorem dX9_takeItem_34 : decode cX9_takeItem 34 = .ok (.iconst 0, 1) := by decide +kernel
theorem dX9_takeItem_35 : decode cX9_takeItem 35 = .ok (.if_icmp .ne 12, 3) := by decide +kernel
theorem dX9_takeItem_38 : decode cX9_takeItem 38 = .ok (.aload_n 0, 1) := by decide +kernel
theorem dX9_takeItem_39 : decode cX9_takeItem 39 = .ok (.getfield 15, 3) := by decide +kernel
theorem dX9_takeItem_42 : decode cX9_takeItem 42 = .ok (.bipush 30, 2) := by decide +kernel
theorem dX9_takeItem_44 : decode cX9_takeItem 44 = .ok (.if_icmp .lt 5, 3) := by decide +kernel
theorem dX9_takeItem_47 : decode cX9_takeItem 47 = .ok (.iconst 0, 1) := by decide +kernel
theorem dX9_takeItem_48 : decode cX9_takeItem 48 = .ok (.ireturn, 1) := by decide +kernel
theorem dX9_takeItem_49 : decode cX9_takeItem 49 = .ok (.aload_n 0, 1) := by decide +kernel
theorem dX9_takeItem_50 : decode cX9_takeItem 50 = .ok (.getfield 32, 3) := by decide +kernel
theorem dX9_takeItem_53 : decode cX9_takeItem 53 = .ok (.istore_n 2, 1) := by decide +kernel
theorem dX9_takeItem_54 : decode cX9_takeItem 54 = .ok (.iload_n 1, 1) := by decide +kernel
theorem dX9_takeItem_55 : decode cX9_takeItem 55 = .ok (.ifCond .eq 7, 3) := by decide +kernel
theorem dX9_takeItem_58 : decode cX9_takeItem 58 = .ok (.iconst 1, 1) := by decide +kernel
theorem dX9_takeItem_59 : decode cX9_takeItem 59 = .ok (.goto 4, 3) := by decide +kernel
theorem dX9_takeItem_62 : decode cX9_takeItem 62 = .ok (.iconst 2, 1) := by decide +kernel
theorem dX9_takeItem_63 : decode cX9_takeItem 63 = .ok (.istore_n 3, 1) := by decide +kernel
theorem dX9_takeItem_64 : decode cX9_takeItem 64 = .ok (.iconst 0, 1) := by decide +kernel
theorem dX9_takeItem_65 : decode cX9_takeItem 65 = .ok (.istore 4, 2) := by decide +kernel
theorem dX9_takeItem_67 : decode cX9_takeItem 67 = .ok (.iload 4, 2) := by decide +kernel
theorem dX9_takeItem_69 : decode cX9_takeItem 69 = .ok (.iload_n 3, 1) := by decide +kernel
theorem dX9_takeItem_70 : decode cX9_takeItem 70 = .ok (.if_icmp .ge 34, 3) := by decide +kernel
theorem dX9_takeItem_73 : decode cX9_takeItem 73 = .ok (.aload_n 0, 1) := by decide +kernel
theorem dX9_takeItem_74 : decode cX9_takeItem 74 = .ok (.invokevirtual 29, 3) := by decide +kernel
theorem dX9_takeItem_77 : decode cX9_takeItem 77 = .ok (.aload_n 0, 1) := by decide +kernel
theorem dX9_takeItem_78 : decode cX9_takeItem 78 = .ok (.getfield 32, 3) := by decide +kernel
theorem dX9_takeItem_81 : decode cX9_takeItem 81 = .ok (.bipush 8, 2) := by decide +kernel
theorem dX9_takeItem_83 : decode cX9_takeItem 83 = .ok (.if_icmp .eq 5, 3) := by decide +kernel
theorem dX9_takeItem_86 : decode cX9_takeItem 86 = .ok (.iconst 0, 1) := by decide +kernel
theorem dX9_takeItem_87 : decode cX9_takeItem 87 = .ok (.ireturn, 1) := by decide +kernel
theorem dX9_takeItem_88 : decode cX9_takeItem 88 = .ok (.bipush 10, 2) := by decide +kernel
theorem dX9_takeItem_90 : decode cX9_takeItem 90 = .ok (.iload_n 2, 1) := by decide +kernel
theorem dX9_takeItem_91 : decode cX9_takeItem 91 = .ok (.imul, 1) := by decide +kernel
theorem dX9_takeItem_92 : decode cX9_takeItem 92 = .ok (.aload_n 0, 1) := by decide +kernel
theorem dX9_takeItem_93 : decode cX9_takeItem 93 = .ok (.getfield 42, 3) := by decide +kernel
theorem dX9_takeItem_96 : decode cX9_takeItem 96 = .ok (.iadd, 1) := by decide +kernel
theorem dX9_takeItem_97 : decode cX9_takeItem 97 = .ok (.istore_n 2, 1) := by decide +kernel
theorem dX9_takeItem_98 : decode cX9_takeItem 98 = .ok (.iinc 4 1, 3) := by decide +kernel
theorem dX9_takeItem_101 : decode cX9_takeItem 101 = .ok (.goto (-34), 3) := by decide +kernel
theorem dX9_takeItem_104 : decode cX9_takeItem 104 = .ok (.aload_n 0, 1) := by decide +kernel
theorem dX9_takeItem_105 : decode cX9_takeItem 105 = .ok (.invokevirtual 29, 3) := by decide +kernel
theorem dX9_takeItem_108 : decode cX9_takeItem 108 = .ok (.aload_n 0, 1) := by decide +kernel
theorem dX9_takeItem_109 : decode cX9_takeItem 109 = .ok (.getfield 32, 3) := by decide +kernel
theorem dX9_takeItem_112 : decode cX9_takeItem 112 = .ok (.bipush 9, 2) := by decide +kernel
theorem dX9_takeItem_114 : decode cX9_takeItem 114 = .ok (.if_icmp .eq 5, 3) := by decide +kernel
theorem dX9_takeItem_117 : decode cX9_takeItem 117 = .ok (.iconst 0, 1) := by decide +kernel
theorem dX9_takeItem_118 : decode cX9_takeItem 118 = .ok (.ireturn, 1) := by decide +kernel
theorem dX9_takeItem_119 : decode cX9_takeItem 119 = .ok (.aload_n 0, 1) := by decide +kernel
theorem dX9_takeItem_120 : decode cX9_takeItem 120 = .ok (.getfield 18, 3) := by decide +kernel
theorem dX9_takeItem_123 : decode cX9_takeItem 123 = .ok (.aload_n 0, 1) := by decide +kernel
theorem dX9_takeItem_124 : decode cX9_takeItem 124 = .ok (.getfield 15, 3) := by decide +kernel
theorem dX9_takeItem_127 : decode cX9_takeItem 127 = .ok (.iload_n 1, 1) := by decide +kernel
theorem dX9_takeItem_128 : decode cX9_takeItem 128 = .ok (.ifCond .eq 10, 3) := by decide +kernel
theorem dX9_takeItem_131 : decode cX9_takeItem 131 = .ok (.bipush 10, 2) := by decide +kernel
theorem dX9_takeItem_133 : decode cX9_takeItem 133 = .ok (.iload_n 2, 1) := by decide +kernel
theorem dX9_takeItem_134 : decode cX9_takeItem 134 = .ok (.imul, 1) := by decide +kernel
theorem dX9_takeItem_135 : decode cX9_takeItem 135 = .ok (.goto 4, 3) := by decide +kernel
theorem dX9_takeItem_138 : decode cX9_takeItem 138 = .ok (.iload_n 2, 1) := by decide +kernel
theorem dX9_takeItem_139 : decode cX9_takeItem 139 = .ok (.iastore, 1) := by decide +kernel
theorem dX9_takeItem_140 : decode cX9_takeItem 140 = .ok (.aload_n 0, 1) := by decide +kernel
theorem dX9_takeItem_141 : decode cX9_takeItem 141 = .ok (.dup, 1) := by decide +kernel
theorem dX9_takeItem_142 : decode cX9_takeItem 142 = .ok (.getfield 15, 3) := by decide +kernel
theorem dX9_takeItem_145 : decode cX9_takeItem 145 = .ok (.iconst 1, 1) := by decide +kernel
theorem dX9_takeItem_146 : decode cX9_takeItem 146 = .ok (.iadd, 1) := by decide +kernel
theorem dX9_takeItem_147 : decode cX9_takeItem 147 = .ok (.putfield 15, 3) := by decide +kernel
theorem dX9_takeItem_150 : decode cX9_takeItem 150 = .ok (.iconst 1, 1) := by decide +kernel
theorem dX9_takeItem_151 : decode cX9_takeItem 151 = .ok (.ireturn, 1) := by decide +kernel
theorem dX9_nextToken_0 : decode cX9_nextToken 0 = .ok (.aload_n 0, 1) := by decide +kernel
theorem dX9_nextToken_1 : decode cX9_nextToken 1 = .ok (.getfield 26, 3) := by decide +kernel
theorem dX9_nextToken_4 : decode cX9_nextToken 4 = .ok (.aload_n 0, 1) := by decide +kernel
theorem dX9_nextToken_5 : decode cX9_nextToken 5 = .ok (.getfield 9, 3) := by decide +kernel
theorem dX9_nextToken_8 : decode cX9_nextToken 8 = .ok (.if_icmp .ge 30, 3) := by decide +kernel
theorem dX9_nextToken_11 : decode cX9_nextToken 11 = .ok (.aload_n 0, 1) := by decide +kernel
theorem dX9_nextToken_12 : decode cX9_nextToken 12 = .ok (.getfield 22, 3) := by decide +kernel
theorem dX9_nextToken_15 : decode cX9_nextToken 15 = .ok (.aload_n 0, 1) := by decide +kernel
theorem dX9_nextToken_16 : decode cX9_nextToken 16 = .ok (.getfield 26, 3) := by decide +kernel
theorem dX9_nextToken_19 : decode cX9_nextToken 19 = .ok (.baload, 1) := by decide +kernel
theorem dX9_nextToken_20 : decode cX9_nextToken 20 = .ok (.bipush 32, 2) := by decide +kernel
theorem dX9_nextToken_22 : decode cX9_nextToken 22 = .ok (.if_icmp .ne 16, 3) := by decide +kernel
theorem dX9_nextToken_25 : decode cX9_nextToken 25 = .ok (.aload_n 0, 1) := by decide +kernel
theorem dX9_nextToken_26 : decode cX9_nextToken 26 = .ok (.dup, 1) := by decide +kernel
theorem dX9_nextToken_27 : decode cX9_nextToken 27 = .ok (.getfield 26, 3) := by decide +kernel
theorem dX9_nextToken_30 : decode cX9_nextToken 30 = .ok (.iconst 1, 1) := by decide +kernel
theorem dX9_nextToken_31 : decode cX9_nextToken 31 = .ok (.iadd, 1) := by decide +kernel
theorem dX9_nextToken_32 : decode cX9_nextToken 32 = .ok (.putfield 26, 3) := by decide +kernel
theorem dX9_nextToken_35 : decode cX9_nextToken 35 = .ok (.goto (-35), 3) := by decide +kernel
theorem dX9_nextToken_38 : decode cX9_nextToken 38 = .ok (.aload_n 0, 1) := by decide +kernel
theorem dX9_nextToken_39 : decode cX9_nextToken 39 = .ok (.aload_n 0, 1) := by decide +kernel
theorem dX9_nextToken_40 : decode cX9_nextToken 40 = .ok (.getfield 26, 3) := by decide +kernel
theorem dX9_nextToken_43 : decode cX9_nextToken 43 = .ok (.putfield 39, 3) := by decide +kernel
theorem dX9_nextToken_46 : decode cX9_nextToken 46 = .ok (.aload_n 0, 1) := by decide +kernel
theorem dX9_nextToken_47 : decode cX9_nextToken 47 = .ok (.getfield 26, 3) := by decide +kernel
theorem dX9_nextToken_50 : decode cX9_nextToken 50 = .ok (.aload_n 0, 1) := by decide +kernel
theorem dX9_nextToken_51 : decode cX9_nextToken 51 = .ok (.getfield 9, 3) := by decide +kernel
theorem dX9_nextToken_54 : decode cX9_nextToken 54 = .ok (.if_icmp .lt 10, 3) := by decide +kernel
theorem dX9_nextToken_57 : decode cX9_nextToken 57 = .ok (.aload_n 0, 1) := by decide +kernel
theorem dX9_nextToken_58 : decode cX9_nextToken 58 = .ok (.bipush 11, 2) := by decide +kernel
theorem dX9_nextToken_60 : decode cX9_nextToken 60 = .ok (.putfield 32, 3) := by decide +kernel
theorem dX9_nextToken_63 : decode cX9_nextToken 63 = .ok (.return_, 1) := by decide +kernel
theorem dX9_nextToken_64 : decode cX9_nextToken 64 = .ok (.aload_n 0, 1) := by decide +kernel
theorem dX9_nextToken_65 : decode cX9_nextToken 65 = .ok (.aload_n 0, 1) := by decide +kernel
theorem dX9_nextToken_66 : decode cX9_nextToken 66 = .ok (.getfield 26, 3) := by decide +kernel
theorem dX9_nextToken_69 : decode cX9_nextToken 69 = .ok (.invokevirtual 45, 3) := by decide +kernel
theorem dX9_nextToken_72 : decode cX9_nextToken 72 = .ok (.ifCond .eq 10, 3) := by decide +kernel
theorem dX9_nextToken_75 : decode cX9_nextToken 75 = .ok (.aload_n 0, 1) := by decide +kernel
theorem dX9_nextToken_76 : decode cX9_nextToken 76 = .ok (.invokevirtual 49, 3) := by decide +kernel
theorem dX9_nextToken_79 : decode cX9_nextToken 79 = .ok (.goto 56, 3) := by decide +kernel
theorem dX9_nextToken_82 : decode cX9_nextToken 82 = .ok (.aload_n 0, 1) := by decide +kernel
theorem dX9_nextToken_83 : decode cX9_nextToken 83 = .ok (.aload_n 0, 1) := by decide +kernel
theorem dX9_nextToken_84 : decode cX9_nextToken 84 = .ok (.getfield 26, 3) := by decide +kernel
theorem dX9_nextToken_87 : decode cX9_nextToken 87 = .ok (.invokevirtual 52, 3) := by decide +kernel
theorem dX9_nextToken_90 : decode cX9_nextToken 90 = .ok (.ifCond .eq 10, 3) := by decide +kernel
theorem dX9_nextToken_93 : decode cX9_nextToken 93 = .ok (.aload_n 0, 1) := by decide +kernel
theorem dX9_nextToken_94 : decode cX9_nextToken 94 = .ok (.invokevirtual 55, 3) := by decide +kernel
theorem dX9_nextToken_97 : decode cX9_nextToken 97 = .ok (.goto 38, 3) := by decide +kernel
theorem dX9_nextToken_100 : decode cX9_nextToken 100 = .ok (.aload_n 0, 1) := by decide +kernel
theorem dX9_nextToken_101 : decode cX9_nextToken 101 = .ok (.aload_n 0, 1) := by decide +kernel
theorem dX9_nextToken_102 : decode cX9_nextToken 102 = .ok (.getfield 22, 3) := by decide +kernel
theorem dX9_nextToken_105 : decode cX9_nextToken 105 = .ok (.aload_n 0, 1) := by decide +kernel
theorem dX9_nextToken_106 : decode cX9_nextToken 106 = .ok (.getfield 26, 3) := by decide +kernel
theorem dX9_nextToken_109 : decode cX9_nextToken 109 = .ok (.baload, 1) := by decide +kernel
theorem dX9_nextToken_110 : decode cX9_nextToken 110 = .ok (.bipush 59, 2) := by decide +kernel
theorem dX9_nextToken_112 : decode cX9_nextToken 112 = .ok (.if_icmp .ne 8, 3) := by decide +kernel
theorem dX9_nextToken_115 : decode cX9_nextToken 115 = .ok (.bipush 9, 2) := by decide +kernel
theorem dX9_nextToken_117 : decode cX9_nextToken 117 = .ok (.goto 5, 3) := by decide +kernel
theorem dX9_nextToken_120 : decode cX9_nextToken 120 = .ok (.bipush 10, 2) := by decide +kernel
theorem dX9_nextToken_122 : decode cX9_nextToken 122 = .ok (.putfield 32, 3) := by decide +kernel
theorem dX9_nextToken_125 : decode cX9_nextToken 125 = .ok (.aload_n 0, 1) := by decide +kernel
theorem dX9_nextToken_126 : decode cX9_nextToken 126 = .ok (.dup, 1) := by decide +kernel
theorem dX9_nextToken_127 : decode cX9_nextToken 127 = .ok (.getfield 26, 3) := by decide +kernel
theorem dX9_nextToken_130 : decode cX9_nextToken 130 = .ok (.iconst 1, 1) := by decide +kernel
theorem dX9_nextToken_131 : decode cX9_nextToken 131 = .ok (.iadd, 1) := by decide +kernel
theorem dX9_nextToken_132 : decode cX9_nextToken 132 = .ok (.putfield 26, 3) := by decide +kernel
theorem dX9_nextToken_135 : decode cX9_nextToken 135 = .ok (.return_, 1) := by decide +kernel
theorem dX9_passLetters_0 : decode cX9_passLetters 0 = .ok (.aload_n 0, 1) := by decide +kernel
theorem dX9_passLetters_1 : decode cX9_passLetters 1 = .ok (.getfield 26, 3) := by decide +kernel
theorem dX9_passLetters_4 : decode cX9_passLetters 4 = .ok (.aload_n 0, 1) := by decide +kernel
theorem dX9_passLetters_5 : decode cX9_passLetters 5 = .ok (.getfield 9, 3) := by decide +kernel
theorem dX9_passLetters_8 : decode cX9_passLetters 8 = .ok (.if_icmp .ge 27, 3) := by decide +kernel
theorem dX9_passLetters_11 : decode cX9_passLetters 11 = .ok (.aload_n 0, 1) := by decide +kernel
theorem dX9_passLetters_12 : decode cX9_passLetters 12 = .ok (.aload_n 0, 1) := by decide +kernel
theorem dX9_passLetters_13 : decode cX9_passLetters 13 = .ok (.getfield 26, 3) := by decide +kernel
theorem dX9_passLetters_16 : decode cX9_passLetters 16 = .ok (.invokevirtual 45, 3) := by decide +kernel
theorem dX9_passLetters_19 : decode cX9_passLetters 19 = .ok (.ifCond .eq 16, 3) := by decide +kernel
theorem dX9_passLetters_22 : decode cX9_passLetters 22 = .ok (.aload_n 0, 1) := by decide +kernel
theorem dX9_passLetters_23 : decode cX9_passLetters 23 = .ok (.dup, 1) := by decide +kernel
theorem dX9_passLetters_24 : decode cX9_passLetters 24 = .ok (.getfield 26, 3) := by decide +kernel
theorem dX9_passLetters_27 : decode cX9_passLetters 27 = .ok (.iconst 1, 1) := by decide +kernel
theorem dX9_passLetters_28 : decode cX9_passLetters 28 = .ok (.iadd, 1) := by decide +kernel
theorem dX9_passLetters_29 : decode cX9_passLetters 29 = .ok (.putfield 26, 3) := by decide +kernel
theorem dX9_passLetters_32 : decode cX9_passLetters 32 = .ok (.goto (-32), 3) := by decide +kernel
theorem dX9_passLetters_35 : decode cX9_passLetters 35 = .ok (.aload_n 0, 1) := by decide +kernel
theorem dX9_passLetters_36 : decode cX9_passLetters 36 = .ok (.bipush 10, 2) := by decide +kernel
theorem dX9_passLetters_38 : decode cX9_passLetters 38 = .ok (.putfield 32, 3) := by decide +kernel
theorem dX9_passLetters_41 : decode cX9_passLetters 41 = .ok (.iconst 0, 1) := by decide +kernel
theorem dX9_passLetters_42 : decode cX9_passLetters 42 = .ok (.istore_n 1, 1) := by decide +kernel
theorem dX9_passLetters_43 : decode cX9_passLetters 43 = .ok (.iload_n 1, 1) := by decide +kernel
theorem dX9_passLetters_44 : decode cX9_passLetters 44 = .ok (.bipush 7, 2) := by decide +kernel
theorem dX9_passLetters_46 : decode cX9_passLetters 46 = .ok (.if_icmp .ge 25, 3) := by decide +kernel
theorem dX9_passLetters_49 : decode cX9_passLetters 49 = .ok (.aload_n 0, 1) := by decide +kernel
theorem dX9_passLetters_50 : decode cX9_passLetters 50 = .ok (.iload_n 1, 1) := by decide +kernel
theorem dX9_passLetters_51 : decode cX9_passLetters 51 = .ok (.invokestatic 58, 3) := by decide +kernel
theorem dX9_passLetters_54 : decode cX9_passLetters 54 = .ok (.invokevirtual 62, 3) := by decide +kernel
theorem dX9_passLetters_57 : decode cX9_passLetters 57 = .ok (.ifCond .eq 8, 3) := by decide +kernel
theorem dX9_passLetters_60 : decode cX9_passLetters 60 = .ok (.aload_n 0, 1) := by decide +kernel
theorem dX9_passLetters_61 : decode cX9_passLetters 61 = .ok (.iload_n 1, 1) := by decide +kernel
theorem dX9_passLetters_62 : decode cX9_passLetters 62 = .ok (.putfield 32, 3) := by decide +kernel
theorem dX9_passLetters_65 : decode cX9_passLetters 65 = .ok (.iinc 1 1, 3) := by decide +kernel
theorem dX9_passLetters_68 : decode cX9_passLetters 68 = .ok (.goto (-25), 3) := by decide +kernel
theorem dX9_passLetters_71 : decode cX9_passLetters 71 = .ok (.return_, 1) := by decide +kernel
theorem dX9_passFigures_0 : decode cX9_passFigures 0 = .ok (.aload_n 0, 1) := by decide +kernel
theorem dX9_passFigures_1 : decode cX9_passFigures 1 = .ok (.aload_n 0, 1) := by decide +kernel
theorem dX9_passFigures_2 : decode cX9_passFigures 2 = .ok (.getfield 22, 3) := by decide +kernel
theorem dX9_passFigures_5 : decode cX9_passFigures 5 = .ok (.aload_n 0, 1) := by decide +kernel
theorem dX9_passFigures_6 : decode cX9_passFigures 6 = .ok (.getfield 39, 3) := by decide +kernel
theorem dX9_passFigures_9 : decode cX9_passFigures 9 = .ok (.baload, 1) := by decide +kernel
theorem dX9_passFigures_10 : decode cX9_passFigures 10 = .ok (.bipush 48, 2) := by decide +kernel
theorem dX9_passFigures_12 : decode cX9_passFigures 12 = .ok (.isub, 1) := by decide +kernel
theorem dX9_passFigures_13 : decode cX9_passFigures 13 = .ok (.putfield 42, 3) := by decide +kernel
theorem dX9_passFigures_16 : decode cX9_passFigures 16 = .ok (.aload_n 0, 1) := by decide +kernel
theorem dX9_passFigures_17 : decode cX9_passFigures 17 = .ok (.getfield 26, 3) := by decide +kernel
theorem dX9_passFigures_20 : decode cX9_passFigures 20 = .ok (.aload_n 0, 1) := by decide +kernel
theorem dX9_passFigures_21 : decode cX9_passFigures 21 = .ok (.getfield 9, 3) := by decide +kernel
theorem dX9_passFigures_24 : decode cX9_passFigures 24 = .ok (.if_icmp .ge 27, 3) := by decide +kernel
theorem dX9_passFigures_27 : decode cX9_passFigures 27 = .ok (.aload_n 0, 1) := by decide +kernel
theorem dX9_passFigures_28 : decode cX9_passFigures 28 = .ok (.aload_n 0, 1) := by decide +kernel
theorem dX9_passFigures_29 : decode cX9_passFigures 29 = .ok (.getfield 26, 3) := by decide +kernel
theorem dX9_passFigures_32 : decode cX9_passFigures 32 = .ok (.invokevirtual 52, 3) := by decide +kernel
theorem dX9_passFigures_35 : decode cX9_passFigures 35 = .ok (.ifCond .eq 16, 3) := by decide +kernel
theorem dX9_passFigures_38 : decode cX9_passFigures 38 = .ok (.aload_n 0, 1) := by decide +kernel
theorem dX9_passFigures_39 : decode cX9_passFigures 39 = .ok (.dup, 1) := by decide +kernel
theorem dX9_passFigures_40 : decode cX9_passFigures 40 = .ok (.getfield 26, 3) := by decide +kernel
theorem dX9_passFigures_43 : decode cX9_passFigures 43 = .ok (.iconst 1, 1) := by decide +kernel
theorem dX9_passFigures_44 : decode cX9_passFigures 44 = .ok (.iadd, 1) := by decide +kernel
theorem dX9_passFigures_45 : decode cX9_passFigures 45 = .ok (.putfield 26, 3) := by decide +kernel
theorem dX9_passFigures_48 : decode cX9_passFigures 48 = .ok (.goto (-32), 3) := by decide +kernel
theorem dX9_passFigures_51 : decode cX9_passFigures 51 = .ok (.aload_n 0, 1) := by decide +kernel
theorem dX9_passFigures_52 : decode cX9_passFigures 52 = .ok (.aload_n 0, 1) := by decide +kernel
theorem dX9_passFigures_53 : decode cX9_passFigures 53 = .ok (.getfield 26, 3) := by decide +kernel
theorem dX9_passFigures_56 : decode cX9_passFigures 56 = .ok (.aload_n 0, 1) := by decide +kernel
theorem dX9_passFigures_57 : decode cX9_passFigures 57 = .ok (.getfield 39, 3) := by decide +kernel
theorem dX9_passFigures_60 : decode cX9_passFigures 60 = .ok (.isub, 1) := by decide +kernel
theorem dX9_passFigures_61 : decode cX9_passFigures 61 = .ok (.iconst 1, 1) := by decide +kernel
theorem dX9_passFigures_62 : decode cX9_passFigures 62 = .ok (.if_icmp .ne 8, 3) := by decide +kernel
theorem dX9_passFigures_65 : decode cX9_passFigures 65 = .ok (.bipush 8, 2) := by decide +kernel
theorem dX9_passFigures_67 : decode cX9_passFigures 67 = .ok (.goto 5, 3) := by decide +kernel
theorem dX9_passFigures_70 : decode cX9_passFigures 70 = .ok (.bipush 10, 2) := by decide +kernel
theorem dX9_passFigures_72 : decode cX9_passFigures 72 = .ok (.putfield 32, 3) := by decide +kernel
theorem dX9_passFigures_75 : decode cX9_passFigures 75 = .ok (.return_, 1) := by decide +kernel
theorem dX9_isLetter_0 : decode cX9_isLetter 0 = .ok (.aload_n 0, 1) := by decide +kernel
theorem dX9_isLetter_1 : decode cX9_isLetter 1 = .ok (.getfield 22, 3) := by decide +kernel
theorem dX9_isLetter_4 : decode cX9_isLetter 4 = .ok (.iload_n 1, 1) := by decide +kernel
theorem dX9_isLetter_5 : decode cX9_isLetter 5 = .ok (.baload, 1) := by decide +kernel
theorem dX9_isLetter_6 : decode cX9_isLetter 6 = .ok (.bipush 97, 2) := by decide +kernel
theorem dX9_isLetter_8 : decode cX9_isLetter 8 = .ok (.if_icmp .lt 18, 3) := by decide +kernel
theorem dX9_isLetter_11 : decode cX9_isLetter 11 = .ok (.aload_n 0, 1) := by decide +kernel
theorem dX9_isLetter_12 : decode cX9_isLetter 12 = .ok (.getfield 22, 3) := by decide +kernel
theorem dX9_isLetter_15 : decode cX9_isLetter 15 = .ok (.iload_n 1, 1) := by decide +kernel
theorem dX9_isLetter_16 : decode cX9_isLetter 16 = .ok (.baload, 1) := by decide +kernel
theorem dX9_isLetter_17 : decode cX9_isLetter 17 = .ok (.bipush 122, 2) := by decide +kernel
theorem dX9_isLetter_19 : decode cX9_isLetter 19 = .ok (.if_icmp .gt 7, 3) := by decide +kernel
theorem dX9_isLetter_22 : decode cX9_isLetter 22 = .ok (.iconst 1, 1) := by decide +kernel
theorem dX9_isLetter_23 : decode cX9_isLetter 23 = .ok (.goto 4, 3) := by decide +kernel
theorem dX9_isLetter_26 : decode cX9_isLetter 26 = .ok (.iconst 0, 1) := by decide +kernel
theorem dX9_isLetter_27 : decode cX9_isLetter 27 = .ok (.ireturn, 1) := by decide +kernel
theorem dX9_isFigure_0 : decode cX9_isFigure 0 = .ok (.aload_n 0, 1) := by decide +kernel
theorem dX9_isFigure_1 : decode cX9_isFigure 1 = .ok (.getfield 22, 3) := by decide +kernel
theorem dX9_isFigure_4 : decode cX9_isFigure 4 = .ok (.iload_n 1, 1) := by decide +kernel
theorem dX9_isFigure_5 : decode cX9_isFigure 5 = .ok (.baload, 1) := by decide +kernel
theorem dX9_isFigure_6 : decode cX9_isFigure 6 = .ok (.bipush 48, 2) := by decide +kernel
theorem dX9_isFigure_8 : decode cX9_isFigure 8 = .ok (.if_icmp .lt 18, 3) := by decide +kernel
theorem dX9_isFigure_11 : decode cX9_isFigure 11 = .ok (.aload_n 0, 1) := by decide +kernel
theorem dX9_isFigure_12 : decode cX9_isFigure 12 = .ok (.getfield 22, 3) := by decide +kernel
theorem dX9_isFigure_15 : decode cX9_isFigure 15 = .ok (.iload_n 1, 1) := by decide +kernel
theorem dX9_isFigure_16 : decode cX9_isFigure 16 = .ok (.baload, 1) := by decide +kernel
theorem dX9_isFigure_17 : decode cX9_isFigure 17 = .ok (.bipush 57, 2) := by decide +kernel
theorem dX9_isFigure_19 : decode cX9_isFigure 19 = .ok (.if_icmp .gt 7, 3) := by decide +kernel
theorem dX9_isFigure_22 : decode cX9_isFigure 22 = .ok (.iconst 1, 1) := by decide +kernel
theorem dX9_isFigure_23 : decode cX9_isFigure 23 = .ok (.goto 4, 3) := by decide +kernel
theorem dX9_isFigure_26 : decode cX9_isFigure 26 = .ok (.iconst 0, 1) := by decide +kernel
theorem dX9_isFigure_27 : decode cX9_isFigure 27 = .ok (.ireturn, 1) := by decide +kernel
theorem dX9_spells_0 : decode cX9_spells 0 = .ok (.aload_n 0, 1) := by decide +kernel
theorem dX9_spells_1 : decode cX9_spells 1 = .ok (.getfield 26, 3) := by decide +kernel
theorem dX9_spells_4 : decode cX9_spells 4 = .ok (.aload_n 0, 1) := by decide +kernel
theorem dX9_spells_5 : decode cX9_spells 5 = .ok (.getfield 39, 3) := by decide +kernel
theorem dX9_spells_8 : decode cX9_spells 8 = .ok (.isub, 1) := by decide +kernel
theorem dX9_spells_9 : decode cX9_spells 9 = .ok (.aload_n 1, 1) := by decide +kernel
theorem dX9_spells_10 : decode cX9_spells 10 = .ok (.invokevirtual 66, 3) := by decide +kernel
theorem dX9_spells_13 : decode cX9_spells 13 = .ok (.if_icmp .eq 5, 3) := by decide +kernel
theorem dX9_spells_16 : decode cX9_spells 16 = .ok (.iconst 0, 1) := by decide +kernel
theorem dX9_spells_17 : decode cX9_spells 17 = .ok (.ireturn, 1) := by decide +kernel
theorem dX9_spells_18 : decode cX9_spells 18 = .ok (.iconst 0, 1) := by decide +kernel
theorem dX9_spells_19 : decode cX9_spells 19 = .ok (.istore_n 2, 1) := by decide +kernel
theorem dX9_spells_20 : decode cX9_spells 20 = .ok (.iload_n 2, 1) := by decide +kernel
theorem dX9_spells_21 : decode cX9_spells 21 = .ok (.aload_n 1, 1) := by decide +kernel
theorem dX9_spells_22 : decode cX9_spells 22 = .ok (.invokevirtual 66, 3) := by decide +kernel
theorem dX9_spells_25 : decode cX9_spells 25 = .ok (.if_icmp .ge 30, 3) := by decide +kernel
theorem dX9_spells_28 : decode cX9_spells 28 = .ok (.aload_n 0, 1) := by decide +kernel
theorem dX9_spells_29 : decode cX9_spells 29 = .ok (.getfield 22, 3) := by decide +kernel
theorem dX9_spells_32 : decode cX9_spells 32 = .ok (.aload_n 0, 1) := by decide +kernel
theorem dX9_spells_33 : decode cX9_spells 33 = .ok (.getfield 39, 3) := by decide +kernel
theorem dX9_spells_36 : decode cX9_spells 36 = .ok (.iload_n 2, 1) := by decide +kernel
theorem dX9_spells_37 : decode cX9_spells 37 = .ok (.iadd, 1) := by decide +kernel
theorem dX9_spells_38 : decode cX9_spells 38 = .ok (.baload, 1) := by decide +kernel
theorem dX9_spells_39 : decode cX9_spells 39 = .ok (.aload_n 1, 1) := by decide +kernel
theorem dX9_spells_40 : decode cX9_spells 40 = .ok (.iload_n 2, 1) := by decide +kernel
theorem dX9_spells_41 : decode cX9_spells 41 = .ok (.invokevirtual 71, 3) := by decide +kernel
theorem dX9_spells_44 : decode cX9_spells 44 = .ok (.if_icmp .eq 5, 3) := by decide +kernel
theorem dX9_spells_47 : decode cX9_spells 47 = .ok (.iconst 0, 1) := by decide +kernel
theorem dX9_spells_48 : decode cX9_spells 48 = .ok (.ireturn, 1) := by decide +kernel
theorem dX9_spells_49 : decode cX9_spells 49 = .ok (.iinc 2 1, 3) := by decide +kernel
theorem dX9_spells_52 : decode cX9_spells 52 = .ok (.goto (-32), 3) := by decide +kernel
theorem dX9_spells_55 : decode cX9_spells 55 = .ok (.iconst 1, 1) := by decide +kernel
theorem dX9_spells_56 : decode cX9_spells 56 = .ok (.ireturn, 1) := by decide +kernel
theorem dX9_word_0 : decode cX9_word 0 = .ok (.iload_n 0, 1) := by decide +kernel
theorem dX9_word_1 : decode cX9_word 1 = .ok (.tableswitch 57 0 5 #[39, 42, 45, 48, 51, 54], 39) := by decide +kernel
theorem dX9_word_40 : decode cX9_word 40 = .ok (.ldc 75, 2) := by decide +kernel
theorem dX9_word_42 : decode cX9_word 42 = .ok (.areturn, 1) := by decide +kernel
theorem dX9_word_43 : decode cX9_word 43 = .ok (.ldc 77, 2) := by decide +kernel
theorem dX9_word_45 : decode cX9_word 45 = .ok (.areturn, 1) := by decide +kernel
theorem dX9_word_46 : decode cX9_word 46 = .ok (.ldc 79, 2) := by decide +kernel
theorem dX9_word_48 : decode cX9_word 48 = .ok (.areturn, 1) := by decide +kernel
theorem dX9_word_49 : decode cX9_word 49 = .ok (.ldc 81, 2) := by decide +kernel
theorem dX9_word_51 : decode cX9_word 51 = .ok (.areturn, 1) := by decide +kernel
theorem dX9_word_52 : decode cX9_word 52 = .ok (.ldc 83, 2) := by decide +kernel
theorem dX9_word_54 : decode cX9_word 54 = .ok (.areturn, 1) := by decide +kernel
theorem dX9_word_55 : decode cX9_word 55 = .ok (.ldc 85, 2) := by decide +kernel
theorem dX9_word_57 : decode cX9_word 57 = .ok (.areturn, 1) := by decide +kernel
theorem dX9_word_58 : decode cX9_word 58 = .ok (.ldc 87, 2) := by decide +kernel
theorem dX9_word_60 : decode cX9_word 60 = .ok (.areturn, 1) := by decide +kernel
theorem dX10_init_0 : decode cX10_init 0 = .ok (.aload_n 0, 1) := by decide +kernel
theorem dX10_init_1 : decode cX10_init 1 = .ok (.invokespecial 1, 3) := by decide +kernel
theorem dX10_init_4 : decode cX10_init 4 = .ok (.aload_n 0, 1) := by decide +kernel
theorem dX10_init_5 : decode cX10_init 5 = .ok (.bipush 6, 2) := by decide +kernel
theorem dX10_init_7 : decode cX10_init 7 = .ok (.anewarray 9, 3) := by decide +kernel
theorem dX10_init_10 : decode cX10_init 10 = .ok (.putfield 11, 3) := by decide +kernel
theorem dX10_init_13 : decode cX10_init 13 = .ok (.aload_n 0, 1) := by decide +kernel
theorem dX10_init_14 : decode cX10_init 14 = .ok (.new 15, 3) := by decide +kernel
theorem dX10_init_17 : decode cX10_init 17 = .ok (.dup, 1) := by decide +kernel
theorem dX10_init_18 : decode cX10_init 18 = .ok (.invokespecial 17, 3) := by decide +kernel
theorem dX10_init_21 : decode cX10_init 21 = .ok (.putfield 18, 3) := by decide +kernel
theorem dX10_init_24 : decode cX10_init 24 = .ok (.aload_n 0, 1) := by decide +kernel
theorem dX10_init_25 : decode cX10_init 25 = .ok (.new 15, 3) := by decide +kernel
theorem dX10_init_28 : decode cX10_init 28 = .ok (.dup, 1) := by decide +kernel
theorem dX10_init_29 : decode cX10_init 29 = .ok (.invokespecial 17, 3) := by decide +kernel
theorem dX10_init_32 : decode cX10_init 32 = .ok (.putfield 22, 3) := by decide +kernel
theorem dX10_init_35 : decode cX10_init 35 = .ok (.aload_n 0, 1) := by decide +kernel
theorem dX10_init_36 : decode cX10_init 36 = .ok (.iconst 2, 1) := by decide +kernel
theorem dX10_init_37 : decode cX10_init 37 = .ok (.anewarray 15, 3) := by decide +kernel
theorem dX10_init_40 : decode cX10_init 40 = .ok (.putfield 25, 3) := by decide +kernel
theorem dX10_init_43 : decode cX10_init 43 = .ok (.aload_n 0, 1) := by decide +kernel
theorem dX10_init_44 : decode cX10_init 44 = .ok (.iconst 2, 1) := by decide +kernel
theorem dX10_init_45 : decode cX10_init 45 = .ok (.newarray .boolean, 2) := by decide +kernel
theorem dX10_init_47 : decode cX10_init 47 = .ok (.putfield 29, 3) := by decide +kernel
theorem dX10_init_50 : decode cX10_init 50 = .ok (.aload_n 0, 1) := by decide +kernel
theorem dX10_init_51 : decode cX10_init 51 = .ok (.new 33, 3) := by decide +kernel
theorem dX10_init_54 : decode cX10_init 54 = .ok (.dup, 1) := by decide +kernel
theorem dX10_init_55 : decode cX10_init 55 = .ok (.invokespecial 35, 3) := by decide +kernel
theorem dX10_init_58 : decode cX10_init 58 = .ok (.putfield 36, 3) := by decide +kernel
theorem dX10_init_61 : decode cX10_init 61 = .ok (.aload_n 0, 1) := by decide +kernel
theorem dX10_init_62 : decode cX10_init 62 = .ok (.new 40, 3) := by decide +kernel
theorem dX10_init_65 : decode cX10_init 65 = .ok (.dup, 1) := by decide +kernel
theorem dX10_init_66 : decode cX10_init 66 = .ok (.invokespecial 42, 3) := by decide +kernel
theorem dX10_init_69 : decode cX10_init 69 = .ok (.putfield 43, 3) := by decide +kernel
theorem dX10_init_72 : decode cX10_init 72 = .ok (.aload_n 0, 1) := by decide +kernel
theorem dX10_init_73 : decode cX10_init 73 = .ok (.new 47, 3) := by decide +kernel
theorem dX10_init_76 : decode cX10_init 76 = .ok (.dup, 1) := by decide +kernel
theorem dX10_init_77 : decode cX10_init 77 = .ok (.invokespecial 49, 3) := by decide +kernel
theorem dX10_init_80 : decode cX10_init 80 = .ok (.putfield 50, 3) := by decide +kernel
theorem dX10_init_83 : decode cX10_init 83 = .ok (.aload_n 0, 1) := by decide +kernel
theorem dX10_init_84 : decode cX10_init 84 = .ok (.bipush 7, 2) := by decide +kernel
theorem dX10_init_86 : decode cX10_init 86 = .ok (.newarray .int, 2) := by decide +kernel
theorem dX10_init_88 : decode cX10_init 88 = .ok (.putfield 54, 3) := by decide +kernel
theorem dX10_init_91 : decode cX10_init 91 = .ok (.aload_n 0, 1) := by decide +kernel
theorem dX10_init_92 : decode cX10_init 92 = .ok (.sipush 128, 3) := by decide +kernel
theorem dX10_init_95 : decode cX10_init 95 = .ok (.newarray .int, 2) := by decide +kernel
theorem dX10_init_97 : decode cX10_init 97 = .ok (.putfield 58, 3) := by decide +kernel
theorem dX10_init_100 : decode cX10_init 100 = .ok (.aload_n 0, 1) := by decide +kernel
theorem dX10_init_101 : decode cX10_init 101 = .ok (.iconst 3, 1) := by decide +kernel
theorem dX10_init_102 : decode cX10_init 102 = .ok (.newarray .int, 2) := by decide +kernel
theorem dX10_init_104 : decode cX10_init 104 = .ok (.putfield 61, 3) := by decide +kernel
theorem dX10_init_107 : decode cX10_init 107 = .ok (.aload_n 0, 1) := by decide +kernel
theorem dX10_init_108 : decode cX10_init 108 = .ok (.lconst 0, 1) := by decide +kernel
theorem dX10_init_109 : decode cX10_init 109 = .ok (.putfield 64, 3) := by decide +kernel
theorem dX10_init_112 : decode cX10_init 112 = .ok (.aload_n 0, 1) := by decide +kernel
theorem dX10_init_113 : decode cX10_init 113 = .ok (.lconst 1, 1) := by decide +kernel
theorem dX10_init_114 : decode cX10_init 114 = .ok (.putfield 68, 3) := by decide +kernel
theorem dX10_init_117 : decode cX10_init 117 = .ok (.aload_n 0, 1) := by decide +kernel
theorem dX10_init_118 : decode cX10_init 118 = .ok (.getfield 11, 3) := by decide +kernel
theorem dX10_init_121 : decode cX10_init 121 = .ok (.iconst 0, 1) := by decide +kernel
theorem dX10_init_122 : decode cX10_init 122 = .ok (.new 9, 3) := by decide +kernel
theorem dX10_init_125 : decode cX10_init 125 = .ok (.dup, 1) := by decide +kernel
theorem dX10_init_126 : decode cX10_init 126 = .ok (.invokespecial 71, 3) := by decide +kernel
theorem dX10_init_129 : decode cX10_init 129 = .ok (.aastore, 1) := by decide +kernel
theorem dX10_init_130 : decode cX10_init 130 = .ok (.aload_n 0, 1) := by decide +kernel
theorem dX10_init_131 : decode cX10_init 131 = .ok (.getfield 11, 3) := by decide +kernel
theorem dX10_init_134 : decode cX10_init 134 = .ok (.iconst 1, 1) := by decide +kernel
theorem dX10_init_135 : decode cX10_init 135 = .ok (.new 72, 3) := by decide +kernel
theorem dX10_init_138 : decode cX10_init 138 = .ok (.dup, 1) := by decide +kernel
theorem dX10_init_139 : decode cX10_init 139 = .ok (.invokespecial 74, 3) := by decide +kernel
theorem dX10_init_142 : decode cX10_init 142 = .ok (.aastore, 1) := by decide +kernel
theorem dX10_init_143 : decode cX10_init 143 = .ok (.aload_n 0, 1) := by decide +kernel
theorem dX10_init_144 : decode cX10_init 144 = .ok (.getfield 11, 3) := by decide +kernel
theorem dX10_init_147 : decode cX10_init 147 = .ok (.iconst 2, 1) := by decide +kernel
theorem dX10_init_148 : decode cX10_init 148 = .ok (.new 75, 3) := by decide +kernel
theorem dX10_init_151 : decode cX10_init 151 = .ok (.dup, 1) := by decide +kernel
theorem dX10_init_152 : decode cX10_init 152 = .ok (.invokespecial 77, 3) := by decide +kernel
theorem dX10_init_155 : decode cX10_init 155 = .ok (.aastore, 1) := by decide +kernel
theorem dX10_init_156 : decode cX10_init 156 = .ok (.aload_n 0, 1) := by decide +kernel
theorem dX10_init_157 : decode cX10_init 157 = .ok (.getfield 11, 3) := by decide +kernel
theorem dX10_init_160 : decode cX10_init 160 = .ok (.iconst 3, 1) := by decide +kernel
theorem dX10_init_161 : decode cX10_init 161 = .ok (.new 78, 3) := by decide +kernel
theorem dX10_init_164 : decode cX10_init 164 = .ok (.dup, 1) := by decide +kernel
theorem dX10_init_165 : decode cX10_init 165 = .ok (.invokespecial 80, 3) := by decide +kernel
theorem dX10_init_168 : decode cX10_init 168 = .ok (.aastore, 1) := by decide +kernel
theorem dX10_init_169 : decode cX10_init 169 = .ok (.aload_n 0, 1) := by decide +kernel
theorem dX10_init_170 : decode cX10_init 170 = .ok (.getfield 11, 3) := by decide +kernel
theorem dX10_init_173 : decode cX10_init 173 = .ok (.iconst 4, 1) := by decide +kernel
theorem dX10_init_174 : decode cX10_init 174 = .ok (.new 81, 3) := by decide +kernel
theorem dX10_init_177 : decode cX10_init 177 = .ok (.dup, 1) := by decide +kernel
theorem dX10_init_178 : decode cX10_init 178 = .ok (.invokespecial 83, 3) := by decide +kernel
theorem dX10_init_181 : decode cX10_init 181 = .ok (.aastore, 1) := by decide +kernel
theorem dX10_init_182 : decode cX10_init 182 = .ok (.aload_n 0, 1) := by decide +kernel
theorem dX10_init_183 : decode cX10_init 183 = .ok (.getfield 11, 3) := by decide +kernel
theorem dX10_init_186 : decode cX10_init 186 = .ok (.iconst 5, 1) := by decide +kernel
theorem dX10_init_187 : decode cX10_init 187 = .ok (.new 84, 3) := by decide +kernel
theorem dX10_init_190 : decode cX10_init 190 = .ok (.dup, 1) := by decide +kernel
theorem dX10_init_191 : decode cX10_init 191 = .ok (.invokespecial 86, 3) := by decide +kernel
theorem dX10_init_194 : decode cX10_init 194 = .ok (.aastore, 1) := by decide +kernel
theorem dX10_init_195 : decode cX10_init 195 = .ok (.iconst 0, 1) := by decide +kernel
theorem dX10_init_196 : decode cX10_init 196 = .ok (.istore_n 1, 1) := by decide +kernel
theorem dX10_init_197 : decode cX10_init 197 = .ok (.iload_n 1, 1) := by decide +kernel
theorem dX10_init_198 : decode cX10_init 198 = .ok (.iconst 2, 1) := by decide +kernel
theorem dX10_init_199 : decode cX10_init 199 = .ok (.if_icmp .ge 22, 3) := by decide +kernel
theorem dX10_init_202 : decode cX10_init 202 = .ok (.aload_n 0, 1) := by decide +kernel
theorem dX10_init_203 : decode cX10_init 203 = .ok (.getfield 25, 3) := by decide +kernel
theorem dX10_init_206 : decode cX10_init 206 = .ok (.iload_n 1, 1) := by decide +kernel
theorem dX10_init_207 : decode cX10_init 207 = .ok (.new 15, 3) := by decide +kernel
theorem dX10_init_210 : decode cX10_init 210 = .ok (.dup, 1) := by decide +kernel
theorem dX10_init_211 : decode cX10_init 211 = .ok (.invokespecial 17, 3) := by decide +kernel
theorem dX10_init_214 : decode cX10_init 214 = .ok (.aastore, 1) := by decide +kernel
theorem dX10_init_215 : decode cX10_init 215 = .ok (.iinc 1 1, 3) := by decide +kernel
theorem dX10_init_218 : decode cX10_init 218 = .ok (.goto (-21), 3) := by decide +kernel
theorem dX10_init_221 : decode cX10_init 221 = .ok (.return_, 1) := by decide +kernel
theorem dX10_life_0 : decode cX10_life 0 = .ok (.aload_n 0, 1) := by decide +kernel
theorem dX10_life_1 : decode cX10_life 1 = .ok (.aload_n 0, 1) := by decide +kernel
theorem dX10_life_2 : decode cX10_life 2 = .ok (.getfield 18, 3) := by decide +kernel
theorem dX10_life_5 : decode cX10_life 5 = .ok (.iload_n 1, 1) := by decide +kernel
theorem dX10_life_6 : decode cX10_life 6 = .ok (.invokevirtual 87, 3) := by decide +kernel
theorem dX10_life_9 : decode cX10_life 9 = .ok (.invokevirtual 91, 3) := by decide +kernel
theorem dX10_life_12 : decode cX10_life 12 = .ok (.ireturn, 1) := by decide +kernel
theorem dX10_day_0 : decode cX10_day 0 = .ok (.aload_n 0, 1) := by decide +kernel
theorem dX10_day_1 : decode cX10_day 1 = .ok (.aload_n 0, 1) := by decide +kernel
theorem dX10_day_2 : decode cX10_day 2 = .ok (.getfield 18, 3) := by decide +kernel
theorem dX10_day_5 : decode cX10_day 5 = .ok (.iload_n 1, 1) := by decide +kernel
theorem dX10_day_6 : decode cX10_day 6 = .ok (.iload_n 2, 1) := by decide +kernel
theorem dX10_day_7 : decode cX10_day 7 = .ok (.invokevirtual 94, 3) := by decide +kernel
theorem dX10_day_10 : decode cX10_day 10 = .ok (.invokevirtual 91, 3) := by decide +kernel
theorem dX10_day_13 : decode cX10_day 13 = .ok (.ireturn, 1) := by decide +kernel
theorem dX10_fact_0 : decode cX10_fact 0 = .ok (.aload_n 0, 1) := by decide +kernel
theorem dX10_fact_1 : decode cX10_fact 1 = .ok (.aload_n 0, 1) := by decide +kernel
theorem dX10_fact_2 : decode cX10_fact 2 = .ok (.getfield 18, 3) := by decide +kernel
theorem dX10_fact_5 : decode cX10_fact 5 = .ok (.iload_n 1, 1) := by decide +kernel
theorem dX10_fact_6 : decode cX10_fact 6 = .ok (.iload_n 2, 1) := by decide +kernel
theorem dX10_fact_7 : decode cX10_fact 7 = .ok (.iload_n 3, 1) := by decide +kernel
theorem dX10_fact_8 : decode cX10_fact 8 = .ok (.iload 4, 2) := by decide +kernel
theorem dX10_fact_10 : decode cX10_fact 10 = .ok (.invokevirtual 98, 3) := by decide +kernel
theorem dX10_fact_13 : decode cX10_fact 13 = .ok (.invokevirtual 91, 3) := by decide +kernel
theorem dX10_fact_16 : decode cX10_fact 16 = .ok (.ireturn, 1) := by decide +kernel
theorem dX10_note_0 : decode cX10_note 0 = .ok (.aload_n 0, 1) := by decide +kernel
theorem dX10_note_1 : decode cX10_note 1 = .ok (.aload_n 0, 1) := by decide +kernel
theorem dX10_note_2 : decode cX10_note 2 = .ok (.getfield 18, 3) := by decide +kernel
theorem dX10_note_5 : decode cX10_note 5 = .ok (.iload_n 1, 1) := by decide +kernel
theorem dX10_note_6 : decode cX10_note 6 = .ok (.iload_n 2, 1) := by decide +kernel
theorem dX10_note_7 : decode cX10_note 7 = .ok (.invokevirtual 102, 3) := by decide +kernel
theorem dX10_note_10 : decode cX10_note 10 = .ok (.invokevirtual 91, 3) := by decide +kernel
theorem dX10_note_13 : decode cX10_note 13 = .ok (.ireturn, 1) := by decide +kernel
theorem dX10_ahead_0 : decode cX10_ahead 0 = .ok (.aload_n 0, 1) := by decide +kernel
theorem dX10_ahead_1 : decode cX10_ahead 1 = .ok (.aload_n 0, 1) := by decide +kernel
theorem dX10_ahead_2 : decode cX10_ahead 2 = .ok (.getfield 18, 3) := by decide +kernel
theorem dX10_ahead_5 : decode cX10_ahead 5 = .ok (.iload_n 1, 1) := by decide +kernel
theorem dX10_ahead_6 : decode cX10_ahead 6 = .ok (.iload_n 2, 1) := by decide +kernel
theorem dX10_ahead_7 : decode cX10_ahead 7 = .ok (.invokevirtual 105, 3) := by decide +kernel
theorem dX10_ahead_10 : decode cX10_ahead 10 = .ok (.invokevirtual 91, 3) := by decide +kernel
theorem dX10_ahead_13 : decode cX10_ahead 13 = .ok (.ireturn, 1) := by decide +kernel
theorem dX10_at_0 : decode cX10_at 0 = .ok (.aload_n 0, 1) := by decide +kernel
theorem dX10_at_1 : decode cX10_at 1 = .ok (.getfield 18, 3) := by decide +kernel
theorem dX10_at_4 : decode cX10_at 4 = .ok (.iload_n 1, 1) := by decide +kernel
theorem dX10_at_5 : decode cX10_at 5 = .ok (.iload_n 2, 1) := by decide +kernel
theorem dX10_at_6 : decode cX10_at 6 = .ok (.invokevirtual 108, 3) := by decide +kernel
theorem dX10_at_9 : decode cX10_at 9 = .ok (.istore_n 3, 1) := by decide +kernel
theorem dX10_at_10 : decode cX10_at 10 = .ok (.iload_n 3, 1) := by decide +kernel
theorem dX10_at_11 : decode cX10_at 11 = .ok (.bipush (-2), 2) := by decide +kernel
theorem dX10_at_13 : decode cX10_at 13 = .ok (.if_icmp .ne 12, 3) := by decide +kernel
theorem dX10_at_16 : decode cX10_at 16 = .ok (.aload_n 0, 1) := by decide +kernel
theorem dX10_at_17 : decode cX10_at 17 = .ok (.bipush (-10), 2) := by decide +kernel
theorem dX10_at_19 : decode cX10_at 19 = .ok (.invokevirtual 111, 3) := by decide +kernel
theorem dX10_at_22 : decode cX10_at 22 = .ok (.goto 4, 3) := by decide +kernel
theorem dX10_at_25 : decode cX10_at 25 = .ok (.iload_n 3, 1) := by decide +kernel
theorem dX10_at_26 : decode cX10_at 26 = .ok (.ireturn, 1) := by decide +kernel
theorem dX10_tear_0 : decode cX10_tear 0 = .ok (.aload_n 0, 1) := by decide +kernel
theorem dX10_tear_1 : decode cX10_tear 1 = .ok (.aload_n 0, 1) := by decide +kernel
theorem dX10_tear_2 : decode cX10_tear 2 = .ok (.getfield 18, 3) := by decide +kernel
theorem dX10_tear_5 : decode cX10_tear 5 = .ok (.iload_n 1, 1) := by decide +kernel
theorem dX10_tear_6 : decode cX10_tear 6 = .ok (.invokevirtual 114, 3) := by decide +kernel
theorem dX10_tear_9 : decode cX10_tear 9 = .ok (.invokevirtual 91, 3) := by decide +kernel
theorem dX10_tear_12 : decode cX10_tear 12 = .ok (.ireturn, 1) := by decide +kernel
theorem dX10_order_0 : decode cX10_order 0 = .ok (.aload_n 0, 1) := by decide +kernel
theorem dX10_order_1 : decode cX10_order 1 = .ok (.aload_n 0, 1) := by decide +kernel
theorem dX10_order_2 : decode cX10_order 2 = .ok (.getfield 18, 3) := by decide +kernel
theorem dX10_order_5 : decode cX10_order 5 = .ok (.iload_n 1, 1) := by decide +kernel
theorem dX10_order_6 : decode cX10_order 6 = .ok (.invokevirtual 117, 3) := by decide +kernel
theorem dX10_order_9 : decode cX10_order 9 = .ok (.invokevirtual 91, 3) := by decide +kernel
theorem dX10_order_12 : decode cX10_order 12 = .ok (.ireturn, 1) := by decide +kernel
theorem dX10_type_0 : decode cX10_type 0 = .ok (.aload_n 0, 1) := by decide +kernel
theorem dX10_type_1 : decode cX10_type 1 = .ok (.aload_n 0, 1) := by decide +kernel
theorem dX10_type_2 : decode cX10_type 2 = .ok (.getfield 36, 3) := by decide +kernel
theorem dX10_type_5 : decode cX10_type 5 = .ok (.iload_n 1, 1) := by decide +kernel
theorem dX10_type_6 : decode cX10_type 6 = .ok (.invokevirtual 120, 3) := by decide +kernel
theorem dX10_type_9 : decode cX10_type 9 = .ok (.invokevirtual 91, 3) := by decide +kernel
theorem dX10_type_12 : decode cX10_type 12 = .ok (.ireturn, 1) := by decide +kernel
theorem dX10_clear_0 : decode cX10_clear 0 = .ok (.aload_n 0, 1) := by decide +kernel
theorem dX10_clear_1 : decode cX10_clear 1 = .ok (.getfield 36, 3) := by decide +kernel
theorem dX10_clear_4 : decode cX10_clear 4 = .ok (.getfield 123, 3) := by decide +kernel
theorem dX10_clear_7 : decode cX10_clear 7 = .ok (.istore_n 1, 1) := by decide +kernel
theorem dX10_clear_8 : decode cX10_clear 8 = .ok (.aload_n 0, 1) := by decide +kernel
theorem dX10_clear_9 : decode cX10_clear 9 = .ok (.getfield 36, 3) := by decide +kernel
theorem dX10_clear_12 : decode cX10_clear 12 = .ok (.iconst 0, 1) := by decide +kernel
theorem dX10_clear_13 : decode cX10_clear 13 = .ok (.putfield 123, 3) := by decide +kernel
theorem dX10_clear_16 : decode cX10_clear 16 = .ok (.iload_n 1, 1) := by decide +kernel
theorem dX10_clear_17 : decode cX10_clear 17 = .ok (.ireturn, 1) := by decide +kernel
theorem dX10_read_0 : decode cX10_read 0 = .ok (.aload_n 0, 1) := by decide +kernel
theorem dX10_read_1 : decode cX10_read 1 = .ok (.getfield 36, 3) := by decide +kernel
theorem dX10_read_4 : decode cX10_read 4 = .ok (.invokevirtual 127, 3) := by decide +kernel
theorem dX10_read_7 : decode cX10_read 7 = .ok (.istore_n 1, 1) := by decide +kernel
theorem dX10_read_8 : decode cX10_read 8 = .ok (.iload_n 1, 1) := by decide +kernel
theorem dX10_read_9 : decode cX10_read 9 = .ok (.iconst (-1), 1) := by decide +kernel
theorem dX10_read_10 : decode cX10_read 10 = .ok (.if_icmp .eq 8, 3) := by decide +kernel
theorem dX10_read_13 : decode cX10_read 13 = .ok (.bipush (-10), 2) := by decide +kernel
theorem dX10_read_15 : decode cX10_read 15 = .ok (.iload_n 1, 1) := by decide +kernel
theorem dX10_read_16 : decode cX10_read 16 = .ok (.isub, 1) := by decide +kernel
theorem dX10_read_17 : decode cX10_read 17 = .ok (.ireturn, 1) := by decide +kernel
theorem dX10_read_18 : decode cX10_read 18 = .ok (.aload_n 0, 1) := by decide +kernel
theorem dX10_read_19 : decode cX10_read 19 = .ok (.getfield 22, 3) := by decide +kernel
theorem dX10_read_22 : decode cX10_read 22 = .ok (.aload_n 0, 1) := by decide +kernel
theorem dX10_read_23 : decode cX10_read 23 = .ok (.getfield 18, 3) := by decide +kernel
theorem dX10_read_26 : decode cX10_read 26 = .ok (.invokevirtual 131, 3) := by decide +kernel
theorem dX10_read_29 : decode cX10_read 29 = .ok (.iconst 0, 1) := by decide +kernel
theorem dX10_read_30 : decode cX10_read 30 = .ok (.istore_n 2, 1) := by decide +kernel
theorem dX10_read_31 : decode cX10_read 31 = .ok (.iload_n 2, 1) := by decide +kernel
theorem dX10_read_32 : decode cX10_read 32 = .ok (.aload_n 0, 1) := by decide +kernel
theorem dX10_read_33 : decode cX10_read 33 = .ok (.getfield 36, 3) := by decide +kernel
theorem dX10_read_36 : decode cX10_read 36 = .ok (.getfield 135, 3) := by decide +kernel
theorem dX10_read_39 : decode cX10_read 39 = .ok (.if_icmp .ge 46, 3) := by decide +kernel
theorem dX10_read_42 : decode cX10_read 42 = .ok (.aload_n 0, 1) := by decide +kernel
theorem dX10_read_43 : decode cX10_read 43 = .ok (.getfield 18, 3) := by decide +kernel
theorem dX10_read_46 : decode cX10_read 46 = .ok (.aload_n 0, 1) := by decide +kernel
theorem dX10_read_47 : decode cX10_read 47 = .ok (.getfield 36, 3) := by decide +kernel
theorem dX10_read_50 : decode cX10_read 50 = .ok (.getfield 138, 3) := by decide +kernel
theorem dX10_read_53 : decode cX10_read 53 = .ok (.iload_n 2, 1) := by decide +kernel
theorem dX10_read_54 : decode cX10_read 54 = .ok (.iaload, 1) := by decide +kernel
theorem dX10_read_55 : decode cX10_read 55 = .ok (.invokevirtual 141, 3) := by decide +kernel
theorem dX10_read_58 : decode cX10_read 58 = .ok (.iconst (-1), 1) := by decide +kernel
theorem dX10_read_59 : decode cX10_read 59 = .ok (.if_icmp .ge 20, 3) := by decide +kernel
theorem dX10_read_62 : decode cX10_read 62 = .ok (.aload_n 0, 1) := by decide +kernel
theorem dX10_read_63 : decode cX10_read 63 = .ok (.getfield 18, 3) := by decide +kernel
theorem dX10_read_66 : decode cX10_read 66 = .ok (.aload_n 0, 1) := by decide +kernel
theorem dX10_read_67 : decode cX10_read 67 = .ok (.getfield 22, 3) := by decide +kernel
theorem dX10_read_70 : decode cX10_read 70 = .ok (.invokevirtual 131, 3) := by decide +kernel
theorem dX10_read_73 : decode cX10_read 73 = .ok (.sipush (-1000), 3) := by decide +kernel
theorem dX10_read_76 : decode cX10_read 76 = .ok (.iload_n 2, 1) := by decide +kernel
theorem dX10_read_77 : decode cX10_read 77 = .ok (.isub, 1) := by decide +kernel
theorem dX10_read_78 : decode cX10_read 78 = .ok (.ireturn, 1) := by decide +kernel
theorem dX10_read_79 : decode cX10_read 79 = .ok (.iinc 2 1, 3) := by decide +kernel
theorem dX10_read_82 : decode cX10_read 82 = .ok (.goto (-51), 3) := by decide +kernel
theorem dX10_read_85 : decode cX10_read 85 = .ok (.aload_n 0, 1) := by decide +kernel
theorem dX10_read_86 : decode cX10_read 86 = .ok (.getfield 36, 3) := by decide +kernel
theorem dX10_read_89 : decode cX10_read 89 = .ok (.getfield 135, 3) := by decide +kernel
theorem dX10_read_92 : decode cX10_read 92 = .ok (.ireturn, 1) := by decide +kernel
theorem dX10_lived_0 : decode cX10_lived 0 = .ok (.aload_n 0, 1) := by decide +kernel
theorem dX10_lived_1 : decode cX10_lived 1 = .ok (.getfield 18, 3) := by decide +kernel
theorem dX10_lived_4 : decode cX10_lived 4 = .ok (.iload_n 1, 1) := by decide +kernel
theorem dX10_lived_5 : decode cX10_lived 5 = .ok (.invokevirtual 144, 3) := by decide +kernel
theorem dX10_lived_8 : decode cX10_lived 8 = .ok (.ifCond .ne 10, 3) := by decide +kernel
theorem dX10_lived_11 : decode cX10_lived 11 = .ok (.aload_n 0, 1) := by decide +kernel
theorem dX10_lived_12 : decode cX10_lived 12 = .ok (.bipush (-2), 2) := by decide +kernel
theorem dX10_lived_14 : decode cX10_lived 14 = .ok (.invokevirtual 91, 3) := by decide +kernel
theorem dX10_lived_17 : decode cX10_lived 17 = .ok (.ireturn, 1) := by decide +kernel
theorem dX10_lived_18 : decode cX10_lived 18 = .ok (.aload_n 0, 1) := by decide +kernel
theorem dX10_lived_19 : decode cX10_lived 19 = .ok (.aload_n 0, 1) := by decide +kernel
theorem dX10_lived_20 : decode cX10_lived 20 = .ok (.getfield 18, 3) := by decide +kernel
theorem dX10_lived_23 : decode cX10_lived 23 = .ok (.getfield 148, 3) := by decide +kernel
theorem dX10_lived_26 : decode cX10_lived 26 = .ok (.invokevirtual 151, 3) := by decide +kernel
theorem dX10_lived_29 : decode cX10_lived 29 = .ok (.aload_n 0, 1) := by decide +kernel
theorem dX10_lived_30 : decode cX10_lived 30 = .ok (.getfield 43, 3) := by decide +kernel
theorem dX10_lived_33 : decode cX10_lived 33 = .ok (.getfield 155, 3) := by decide +kernel
theorem dX10_lived_36 : decode cX10_lived 36 = .ok (.iload_n 1, 1) := by decide +kernel
theorem dX10_lived_37 : decode cX10_lived 37 = .ok (.iaload, 1) := by decide +kernel
theorem dX10_lived_38 : decode cX10_lived 38 = .ok (.ireturn, 1) := by decide +kernel
theorem dX10_knows_0 : decode cX10_knows 0 = .ok (.aload_n 0, 1) := by decide +kernel
theorem dX10_knows_1 : decode cX10_knows 1 = .ok (.getfield 18, 3) := by decide +kernel
theorem dX10_knows_4 : decode cX10_knows 4 = .ok (.iload_n 1, 1) := by decide +kernel
theorem dX10_knows_5 : decode cX10_knows 5 = .ok (.invokevirtual 144, 3) := by decide +kernel
theorem dX10_knows_8 : decode cX10_knows 8 = .ok (.ifCond .ne 10, 3) := by decide +kernel
theorem dX10_knows_11 : decode cX10_knows 11 = .ok (.aload_n 0, 1) := by decide +kernel
theorem dX10_knows_12 : decode cX10_knows 12 = .ok (.bipush (-2), 2) := by decide +kernel
theorem dX10_knows_14 : decode cX10_knows 14 = .ok (.invokevirtual 91, 3) := by decide +kernel
theorem dX10_knows_17 : decode cX10_knows 17 = .ok (.ireturn, 1) := by decide +kernel
theorem dX10_knows_18 : decode cX10_knows 18 = .ok (.aload_n 0, 1) := by decide +kernel
theorem dX10_knows_19 : decode cX10_knows 19 = .ok (.aload_n 0, 1) := by decide +kernel
theorem dX10_knows_20 : decode cX10_knows 20 = .ok (.getfield 18, 3) := by decide +kernel
theorem dX10_knows_23 : decode cX10_knows 23 = .ok (.getfield 148, 3) := by decide +kernel
theorem dX10_knows_26 : decode cX10_knows 26 = .ok (.invokevirtual 151, 3) := by decide +kernel
theorem dX10_knows_29 : decode cX10_knows 29 = .ok (.aload_n 0, 1) := by decide +kernel
theorem dX10_knows_30 : decode cX10_knows 30 = .ok (.getfield 43, 3) := by decide +kernel
theorem dX10_knows_33 : decode cX10_knows 33 = .ok (.getfield 158, 3) := by decide +kernel
theorem dX10_knows_36 : decode cX10_knows 36 = .ok (.iload_n 1, 1) := by decide +kernel
theorem dX10_knows_37 : decode cX10_knows 37 = .ok (.iaload, 1) := by decide +kernel
theorem dX10_knows_38 : decode cX10_knows 38 = .ok (.ireturn, 1) := by decide +kernel
theorem dX10_reads_0 : decode cX10_reads 0 = .ok (.aload_n 0, 1) := by decide +kernel
theorem dX10_reads_1 : decode cX10_reads 1 = .ok (.getfield 18, 3) := by decide +kernel
theorem dX10_reads_4 : decode cX10_reads 4 = .ok (.iload_n 1, 1) := by decide +kernel
theorem dX10_reads_5 : decode cX10_reads 5 = .ok (.invokevirtual 144, 3) := by decide +kernel
theorem dX10_reads_8 : decode cX10_reads 8 = .ok (.ifCond .ne 10, 3) := by decide +kernel
theorem dX10_reads_11 : decode cX10_reads 11 = .ok (.aload_n 0, 1) := by decide +kernel
theorem dX10_reads_12 : decode cX10_reads 12 = .ok (.bipush (-2), 2) := by decide +kernel
theorem dX10_reads_14 : decode cX10_reads 14 = .ok (.invokevirtual 91, 3) := by decide +kernel
theorem dX10_reads_17 : decode cX10_reads 17 = .ok (.ireturn, 1) := by decide +kernel
theorem dX10_reads_18 : decode cX10_reads 18 = .ok (.aload_n 0, 1) := by decide +kernel
theorem dX10_reads_19 : decode cX10_reads 19 = .ok (.aload_n 0, 1) := by decide +kernel
theorem dX10_reads_20 : decode cX10_reads 20 = .ok (.getfield 18, 3) := by decide +kernel
theorem dX10_reads_23 : decode cX10_reads 23 = .ok (.getfield 148, 3) := by decide +kernel
theorem dX10_reads_26 : decode cX10_reads 26 = .ok (.invokevirtual 151, 3) := by decide +kernel
theorem dX10_reads_29 : decode cX10_reads 29 = .ok (.aload_n 0, 1) := by decide +kernel
theorem dX10_reads_30 : decode cX10_reads 30 = .ok (.getfield 43, 3) := by decide +kernel
theorem dX10_reads_33 : decode cX10_reads 33 = .ok (.getfield 161, 3) := by decide +kernel
theorem dX10_reads_36 : decode cX10_reads 36 = .ok (.iload_n 1, 1) := by decide +kernel
theorem dX10_reads_37 : decode cX10_reads 37 = .ok (.iaload, 1) := by decide +kernel
theorem dX10_reads_38 : decode cX10_reads 38 = .ok (.ireturn, 1) := by decide +kernel
theorem dX10_missing_0 : decode cX10_missing 0 = .ok (.aload_n 0, 1) := by decide +kernel
theorem dX10_missing_1 : decode cX10_missing 1 = .ok (.getfield 18, 3) := by decide +kernel
theorem dX10_missing_4 : decode cX10_missing 4 = .ok (.iload_n 1, 1) := by decide +kernel
theorem dX10_missing_5 : decode cX10_missing 5 = .ok (.invokevirtual 144, 3) := by decide +kernel
theorem dX10_missing_8 : decode cX10_missing 8 = .ok (.ifCond .ne 10, 3) := by decide +kernel
theorem dX10_missing_11 : decode cX10_missing 11 = .ok (.aload_n 0, 1) := by decide +kernel
theorem dX10_missing_12 : decode cX10_missing 12 = .ok (.bipush (-2), 2) := by decide +kernel
theorem dX10_missing_14 : decode cX10_missing 14 = .ok (.invokevirtual 91, 3) := by decide +kernel
theorem dX10_missing_17 : decode cX10_missing 17 = .ok (.ireturn, 1) := by decide +kernel
theorem dX10_missing_18 : decode cX10_missing 18 = .ok (.aload_n 0, 1) := by decide +kernel
theorem dX10_missing_19 : decode cX10_missing 19 = .ok (.aload_n 0, 1) := by decide +kernel
theorem dX10_missing_20 : decode cX10_missing 20 = .ok (.getfield 18, 3) := by decide +kernel
theorem dX10_missing_23 : decode cX10_missing 23 = .ok (.getfield 148, 3) := by decide +kernel
theorem dX10_missing_26 : decode cX10_missing 26 = .ok (.invokevirtual 151, 3) := by decide +kernel
theorem dX10_missing_29 : decode cX10_missing 29 = .ok (.aload_n 0, 1) := by decide +kernel
theorem dX10_missing_30 : decode cX10_missing 30 = .ok (.getfield 43, 3) := by decide +kernel
theorem dX10_missing_33 : decode cX10_missing 33 = .ok (.iload_n 1, 1) := by decide +kernel
theorem dX10_missing_34 : decode cX10_missing 34 = .ok (.invokevirtual 164, 3) := by decide +kernel
theorem dX10_missing_37 : decode cX10_missing 37 = .ok (.ireturn, 1) := by decide +kernel
theorem dX10_first_0 : decode cX10_first 0 = .ok (.iload_n 1, 1) := by decide +kernel
theorem dX10_first_1 : decode cX10_first 1 = .ok (.ifCond .lt 8, 3) := by decide +kernel
theorem dX10_first_4 : decode cX10_first 4 = .ok (.iload_n 1, 1) := by decide +kernel
theorem dX10_first_5 : decode cX10_first 5 = .ok (.iconst 1, 1) := by decide +kernel
theorem dX10_first_6 : decode cX10_first 6 = .ok (.if_icmp .le 10, 3) := by decide +kernel
theorem dX10_first_9 : decode cX10_first 9 = .ok (.aload_n 0, 1) := by decide +kernel
theorem dX10_first_10 : decode cX10_first 10 = .ok (.bipush (-2), 2) := by decide +kernel
theorem dX10_first_12 : decode cX10_first 12 = .ok (.invokevirtual 91, 3) := by decide +kernel
theorem dX10_first_15 : decode cX10_first 15 = .ok (.ireturn, 1) := by decide +kernel
theorem dX10_first_16 : decode cX10_first 16 = .ok (.aload_n 0, 1) := by decide +kernel
theorem dX10_first_17 : decode cX10_first 17 = .ok (.aload_n 0, 1) := by decide +kernel
theorem dX10_first_18 : decode cX10_first 18 = .ok (.getfield 18, 3) := by decide +kernel
theorem dX10_first_21 : decode cX10_first 21 = .ok (.getfield 148, 3) := by decide +kernel
theorem dX10_first_24 : decode cX10_first 24 = .ok (.invokevirtual 151, 3) := by decide +kernel
theorem dX10_first_27 : decode cX10_first 27 = .ok (.iload_n 1, 1) := by decide +kernel
theorem dX10_first_28 : decode cX10_first 28 = .ok (.ifCond .ne 13, 3) := by decide +kernel
theorem dX10_first_31 : decode cX10_first 31 = .ok (.aload_n 0, 1) := by decide +kernel
theorem dX10_first_32 : decode cX10_first 32 = .ok (.getfield 43, 3) := by decide +kernel
theorem dX10_first_35 : decode cX10_first 35 = .ok (.invokevirtual 167, 3) := by decide +kernel
theorem dX10_first_38 : decode cX10_first 38 = .ok (.goto 17, 3) := by decide +kernel
theorem dX10_first_41 : decode cX10_first 41 = .ok (.aload_n 0, 1) := by decide +kernel
theorem dX10_first_42 : decode cX10_first 42 = .ok (.getfield 43, 3) := by decide +kernel
theorem dX10_first_45 : decode cX10_first 45 = .ok (.aload_n 0, 1) := by decide +kernel
theorem dX10_first_46 : decode cX10_first 46 = .ok (.getfield 18, 3) := by decide +kernel
theorem dX10_first_49 : decode cX10_first 49 = .ok (.getfield 170, 3) := by decide +kernel
theorem dX10_first_52 : decode cX10_first 52 = .ok (.invokevirtual 173, 3) := by decide +kernel
theorem dX10_first_55 : decode cX10_first 55 = .ok (.ireturn, 1) := by decide +kernel
theorem dX10_cards_0 : decode cX10_cards 0 = .ok (.aload_n 0, 1) := by decide +kernel
theorem dX10_cards_1 : decode cX10_cards 1 = .ok (.getfield 18, 3) := by decide +kernel
theorem dX10_cards_4 : decode cX10_cards 4 = .ok (.iload_n 1, 1) := by decide +kernel
theorem dX10_cards_5 : decode cX10_cards 5 = .ok (.invokevirtual 144, 3) := by decide +kernel
theorem dX10_cards_8 : decode cX10_cards 8 = .ok (.ifCond .ne 10, 3) := by decide +kernel
theorem dX10_cards_11 : decode cX10_cards 11 = .ok (.aload_n 0, 1) := by decide +kernel
theorem dX10_cards_12 : decode cX10_cards 12 = .ok (.bipush (-2), 2) := by decide +kernel
theorem dX10_cards_14 : decode cX10_cards 14 = .ok (.invokevirtual 91, 3) := by decide +kernel
theorem dX10_cards_17 : decode cX10_cards 17 = .ok (.ireturn, 1) := by decide +kernel
theorem dX10_cards_18 : decode cX10_cards 18 = .ok (.aload_n 0, 1) := by decide +kernel
theorem dX10_cards_19 : decode cX10_cards 19 = .ok (.aload_n 0, 1) := by decide +kernel
theorem dX10_cards_20 : decode cX10_cards 20 = .ok (.getfield 18, 3) := by decide +kernel
theorem dX10_cards_23 : decode cX10_cards 23 = .ok (.getfield 148, 3) := by decide +kernel
theorem dX10_cards_26 : decode cX10_cards 26 = .ok (.invokevirtual 151, 3) := by decide +kernel
theorem dX10_cards_29 : decode cX10_cards 29 = .ok (.iconst 0, 1) := by decide +kernel
theorem dX10_cards_30 : decode cX10_cards 30 = .ok (.istore_n 2, 1) := by decide +kernel
theorem dX10_cards_31 : decode cX10_cards 31 = .ok (.iconst 0, 1) := by decide +kernel
theorem dX10_cards_32 : decode cX10_cards 32 = .ok (.istore_n 3, 1) := by decide +kernel
theorem dX10_cards_33 : decode cX10_cards 33 = .ok (.iload_n 3, 1) := by decide +kernel
theorem dX10_cards_34 : decode cX10_cards 34 = .ok (.iload_n 1, 1) := by decide +kernel
theorem dX10_cards_35 : decode cX10_cards 35 = .ok (.if_icmp .ge 21, 3) := by decide +kernel
theorem dX10_cards_38 : decode cX10_cards 38 = .ok (.iload_n 2, 1) := by decide +kernel
theorem dX10_cards_39 : decode cX10_cards 39 = .ok (.aload_n 0, 1) := by decide +kernel
theorem dX10_cards_40 : decode cX10_cards 40 = .ok (.getfield 43, 3) := by decide +kernel
theorem dX10_cards_43 : decode cX10_cards 43 = .ok (.getfield 158, 3) := by decide +kernel
theorem dX10_cards_46 : decode cX10_cards 46 = .ok (.iload_n 3, 1) := by decide +kernel
theorem dX10_cards_47 : decode cX10_cards 47 = .ok (.iaload, 1) := by decide +kernel
theorem dX10_cards_48 : decode cX10_cards 48 = .ok (.ior, 1) := by decide +kernel
theorem dX10_cards_49 : decode cX10_cards 49 = .ok (.istore_n 2, 1) := by decide +kernel
theorem dX10_cards_50 : decode cX10_cards 50 = .ok (.iinc 3 1, 3) := by decide +kernel
theorem dX10_cards_53 : decode cX10_cards 53 = .ok (.goto (-20), 3) := by decide +kernel
theorem dX10_cards_56 : decode cX10_cards 56 = .ok (.iload_n 2, 1) := by decide +kernel
theorem dX10_cards_57 : decode cX10_cards 57 = .ok (.aload_n 0, 1) := by decide +kernel
theorem dX10_cards_58 : decode cX10_cards 58 = .ok (.getfield 43, 3) := by decide +kernel
theorem dX10_cards_61 : decode cX10_cards 61 = .ok (.getfield 158, 3) := by decide +kernel
theorem dX10_cards_64 : decode cX10_cards 64 = .ok (.iload_n 1, 1) := by decide +kernel
theorem dX10_cards_65 : decode cX10_cards 65 = .ok (.iaload, 1) := by decide +kernel
theorem dX10_cards_66 : decode cX10_cards 66 = .ok (.iconst (-1), 1) := by decide +kernel
theorem dX10_cards_67 : decode cX10_cards 67 = .ok (.ixor, 1) := by decide +kernel
theorem dX10_cards_68 : decode cX10_cards 68 = .ok (.iand, 1) := by decide +kernel
theorem dX10_cards_69 : decode cX10_cards 69 = .ok (.ireturn, 1) := by decide +kernel
theorem dX10_hang_0 : decode cX10_hang 0 = .ok (.iload_n 1, 1) := by decide +kernel
theorem dX10_hang_1 : decode cX10_hang 1 = .ok (.iconst (-1), 1) := by decide +kernel
theorem dX10_hang_2 : decode cX10_hang 2 = .ok (.if_icmp .ge 10, 3) := by decide +kernel
theorem dX10_hang_5 : decode cX10_hang 5 = .ok (.aload_n 0, 1) := by decide +kernel
theorem dX10_hang_6 : decode cX10_hang 6 = .ok (.bipush (-10), 2) := by decide +kernel
theorem dX10_hang_8 : decode cX10_hang 8 = .ok (.invokevirtual 111, 3) := by decide +kernel
theorem dX10_hang_11 : decode cX10_hang 11 = .ok (.ireturn, 1) := by decide +kernel
theorem dX10_hang_12 : decode cX10_hang 12 = .ok (.iconst 0, 1) := by decide +kernel
theorem dX10_hang_13 : decode cX10_hang 13 = .ok (.istore_n 2, 1) := by decide +kernel
theorem dX10_hang_14 : decode cX10_hang 14 = .ok (.aload_n 0, 1) := by decide +kernel
theorem dX10_hang_15 : decode cX10_hang 15 = .ok (.iconst 0, 1) := by decide +kernel
theorem dX10_hang_16 : decode cX10_hang 16 = .ok (.invokevirtual 151, 3) := by decide +kernel
theorem dX10_hang_19 : decode cX10_hang 19 = .ok (.iconst 0, 1) := by decide +kernel
theorem dX10_hang_20 : decode cX10_hang 20 = .ok (.istore_n 3, 1) := by decide +kernel
theorem dX10_hang_21 : decode cX10_hang 21 = .ok (.iload_n 3, 1) := by decide +kernel
theorem dX10_hang_22 : decode cX10_hang 22 = .ok (.aload_n 0, 1) := by decide +kernel
theorem dX10_hang_23 : decode cX10_hang 23 = .ok (.getfield 18, 3) := by decide +kernel
theorem dX10_hang_26 : decode cX10_hang 26 = .ok (.invokevirtual 176, 3) := by decide +kernel
theorem dX10_hang_29 : decode cX10_hang 29 = .ok (.if_icmp .ge 33, 3) := by decide +kernel
theorem dX10_hang_32 : decode cX10_hang 32 = .ok (.aload_n 0, 1) := by decide +kernel
theorem dX10_hang_33 : decode cX10_hang 33 = .ok (.invokevirtual 179, 3) := by decide +kernel
theorem dX10_hang_36 : decode cX10_hang 36 = .ok (.ifCond .eq 13, 3) := by decide +kernel
theorem dX10_hang_39 : decode cX10_hang 39 = .ok (.iload_n 2, 1) := by decide +kernel
theorem dX10_hang_40 : decode cX10_hang 40 = .ok (.iload_n 1, 1) := by decide +kernel
theorem dX10_hang_41 : decode cX10_hang 41 = .ok (.if_icmp .ne 5, 3) := by decide +kernel
theorem dX10_hang_44 : decode cX10_hang 44 = .ok (.iload_n 3, 1) := by decide +kernel
theorem dX10_hang_45 : decode cX10_hang 45 = .ok (.ireturn, 1) := by decide +kernel
theorem dX10_hang_46 : decode cX10_hang 46 = .ok (.iinc 2 1, 3) := by decide +kernel
theorem dX10_hang_49 : decode cX10_hang 49 = .ok (.aload_n 0, 1) := by decide +kernel
theorem dX10_hang_50 : decode cX10_hang 50 = .ok (.getfield 43, 3) := by decide +kernel
theorem dX10_hang_53 : decode cX10_hang 53 = .ok (.invokevirtual 183, 3) := by decide +kernel
theorem dX10_hang_56 : decode cX10_hang 56 = .ok (.iinc 3 1, 3) := by decide +kernel
theorem dX10_hang_59 : decode cX10_hang 59 = .ok (.goto (-38), 3) := by decide +kernel
theorem dX10_hang_62 : decode cX10_hang 62 = .ok (.iload_n 1, 1) := by decide +kernel
theorem dX10_hang_63 : decode cX10_hang 63 = .ok (.iconst (-1), 1) := by decide +kernel
theorem dX10_hang_64 : decode cX10_hang 64 = .ok (.if_icmp .ne 7, 3) := by decide +kernel
theorem dX10_hang_67 : decode cX10_hang 67 = .ok (.iload_n 2, 1) := by decide +kernel
theorem dX10_hang_68 : decode cX10_hang 68 = .ok (.goto 5, 3) := by decide +kernel
theorem dX10_hang_71 : decode cX10_hang 71 = .ok (.bipush (-5), 2) := by decide +kernel
theorem dX10_hang_73 : decode cX10_hang 73 = .ok (.ireturn, 1) := by decide +kernel
theorem dX10_must_0 : decode cX10_must 0 = .ok (.aload_n 0, 1) := by decide +kernel
theorem dX10_must_1 : decode cX10_must 1 = .ok (.getfield 18, 3) := by decide +kernel
theorem dX10_must_4 : decode cX10_must 4 = .ok (.iload_n 1, 1) := by decide +kernel
theorem dX10_must_5 : decode cX10_must 5 = .ok (.invokevirtual 144, 3) := by decide +kernel
theorem dX10_must_8 : decode cX10_must 8 = .ok (.ifCond .ne 10, 3) := by decide +kernel
theorem dX10_must_11 : decode cX10_must 11 = .ok (.aload_n 0, 1) := by decide +kernel
theorem dX10_must_12 : decode cX10_must 12 = .ok (.bipush (-2), 2) := by decide +kernel
theorem dX10_must_14 : decode cX10_must 14 = .ok (.invokevirtual 91, 3) := by decide +kernel
theorem dX10_must_17 : decode cX10_must 17 = .ok (.ireturn, 1) := by decide +kernel
theorem dX10_must_18 : decode cX10_must 18 = .ok (.iconst (-1), 1) := by decide +kernel
theorem dX10_must_19 : decode cX10_must 19 = .ok (.istore_n 2, 1) := by decide +kernel
theorem dX10_must_20 : decode cX10_must 20 = .ok (.aload_n 0, 1) := by decide +kernel
theorem dX10_must_21 : decode cX10_must 21 = .ok (.iconst 0, 1) := by decide +kernel
theorem dX10_must_22 : decode cX10_must 22 = .ok (.invokevirtual 151, 3) := by decide +kernel
theorem dX10_must_25 : decode cX10_must 25 = .ok (.iconst 0, 1) := by decide +kernel
theorem dX10_must_26 : decode cX10_must 26 = .ok (.istore_n 3, 1) := by decide +kernel
theorem dX10_must_27 : decode cX10_must 27 = .ok (.iload_n 3, 1) := by decide +kernel
theorem dX10_must_28 : decode cX10_must 28 = .ok (.aload_n 0, 1) := by decide +kernel
theorem dX10_must_29 : decode cX10_must 29 = .ok (.getfield 18, 3) := by decide +kernel
theorem dX10_must_32 : decode cX10_must 32 = .ok (.invokevirtual 176, 3) := by decide +kernel
theorem dX10_must_35 : decode cX10_must 35 = .ok (.if_icmp .ge 48, 3) := by decide +kernel
theorem dX10_must_38 : decode cX10_must 38 = .ok (.aload_n 0, 1) := by decide +kernel
theorem dX10_must_39 : decode cX10_must 39 = .ok (.invokevirtual 179, 3) := by decide +kernel
theorem dX10_must_42 : decode cX10_must 42 = .ok (.ifCond .eq 28, 3) := by decide +kernel
theorem dX10_must_45 : decode cX10_must 45 = .ok (.aload_n 0, 1) := by decide +kernel
theorem dX10_must_46 : decode cX10_must 46 = .ok (.getfield 43, 3) := by decide +kernel
theorem dX10_must_49 : decode cX10_must 49 = .ok (.iload_n 1, 1) := by decide +kernel
theorem dX10_must_50 : decode cX10_must 50 = .ok (.invokevirtual 186, 3) := by decide +kernel
theorem dX10_must_53 : decode cX10_must 53 = .ok (.istore 4, 2) := by decide +kernel
theorem dX10_must_55 : decode cX10_must 55 = .ok (.iload_n 2, 1) := by decide +kernel
theorem dX10_must_56 : decode cX10_must 56 = .ok (.iconst (-1), 1) := by decide +kernel
theorem dX10_must_57 : decode cX10_must 57 = .ok (.if_icmp .ne 8, 3) := by decide +kernel
theorem dX10_must_60 : decode cX10_must 60 = .ok (.iload 4, 2) := by decide +kernel
theorem dX10_must_62 : decode cX10_must 62 = .ok (.goto 7, 3) := by decide +kernel
theorem dX10_must_65 : decode cX10_must 65 = .ok (.iload_n 2, 1) := by decide +kernel
theorem dX10_must_66 : decode cX10_must 66 = .ok (.iload 4, 2) := by decide +kernel
theorem dX10_must_68 : decode cX10_must 68 = .ok (.iand, 1) := by decide +kernel
theorem dX10_must_69 : decode cX10_must 69 = .ok (.istore_n 2, 1) := by decide +kernel
theorem dX10_must_70 : decode cX10_must 70 = .ok (.aload_n 0, 1) := by decide +kernel
theorem dX10_must_71 : decode cX10_must 71 = .ok (.getfield 43, 3) := by decide +kernel
theorem dX10_must_74 : decode cX10_must 74 = .ok (.invokevirtual 183, 3) := by decide +kernel
theorem dX10_must_77 : decode cX10_must 77 = .ok (.iinc 3 1, 3) := by decide +kernel
theorem dX10_must_80 : decode cX10_must 80 = .ok (.goto (-53), 3) := by decide +kernel
theorem dX10_must_83 : decode cX10_must 83 = .ok (.iload_n 2, 1) := by decide +kernel
theorem dX10_must_84 : decode cX10_must 84 = .ok (.iconst (-1), 1) := by decide +kernel
theorem dX10_must_85 : decode cX10_must 85 = .ok (.if_icmp .ne 12, 3) := by decide +kernel
theorem dX10_must_88 : decode cX10_must 88 = .ok (.aload_n 0, 1) := by decide +kernel
theorem dX10_must_89 : decode cX10_must 89 = .ok (.bipush (-3), 2) := by decide +kernel
theorem dX10_must_91 : decode cX10_must 91 = .ok (.invokevirtual 91, 3) := by decide +kernel
theorem dX10_must_94 : decode cX10_must 94 = .ok (.goto 4, 3) := by decide +kernel
theorem dX10_must_97 : decode cX10_must 97 = .ok (.iload_n 2, 1) := by decide +kernel
theorem dX10_must_98 : decode cX10_must 98 = .ok (.ireturn, 1) := by decide +kernel
theorem dX10_told_0 : decode cX10_told 0 = .ok (.aload_n 0, 1) := by decide +kernel
theorem dX10_told_1 : decode cX10_told 1 = .ok (.aload_n 0, 1) := by decide +kernel
theorem dX10_told_2 : decode cX10_told 2 = .ok (.getfield 18, 3) := by decide +kernel
theorem dX10_told_5 : decode cX10_told 5 = .ok (.iload_n 1, 1) := by decide +kernel
theorem dX10_told_6 : decode cX10_told 6 = .ok (.invokevirtual 189, 3) := by decide +kernel
theorem dX10_told_9 : decode cX10_told 9 = .ok (.invokevirtual 91, 3) := by decide +kernel
theorem dX10_told_12 : decode cX10_told 12 = .ok (.ireturn, 1) := by decide +kernel
theorem dX10_notes_0 : decode cX10_notes 0 = .ok (.iload_n 1, 1) := by decide +kernel
theorem dX10_notes_1 : decode cX10_notes 1 = .ok (.ifCond .lt 8, 3) := by decide +kernel
theorem dX10_notes_4 : decode cX10_notes 4 = .ok (.iload_n 1, 1) := by decide +kernel
theorem dX10_notes_5 : decode cX10_notes 5 = .ok (.iconst 2, 1) := by decide +kernel
theorem dX10_notes_6 : decode cX10_notes 6 = .ok (.if_icmp .le 10, 3) := by decide +kernel
theorem dX10_notes_9 : decode cX10_notes 9 = .ok (.aload_n 0, 1) := by decide +kernel
theorem dX10_notes_10 : decode cX10_notes 10 = .ok (.bipush (-10), 2) := by decide +kernel
theorem dX10_notes_12 : decode cX10_notes 12 = .ok (.invokevirtual 111, 3) := by decide +kernel
theorem dX10_notes_15 : decode cX10_notes 15 = .ok (.ireturn, 1) := by decide +kernel
theorem dX10_notes_16 : decode cX10_notes 16 = .ok (.aload_n 0, 1) := by decide +kernel
theorem dX10_notes_17 : decode cX10_notes 17 = .ok (.aload_n 0, 1) := by decide +kernel
theorem dX10_notes_18 : decode cX10_notes 18 = .ok (.getfield 18, 3) := by decide +kernel
theorem dX10_notes_21 : decode cX10_notes 21 = .ok (.getfield 148, 3) := by decide +kernel
theorem dX10_notes_24 : decode cX10_notes 24 = .ok (.invokevirtual 151, 3) := by decide +kernel
theorem dX10_notes_27 : decode cX10_notes 27 = .ok (.aload_n 0, 1) := by decide +kernel
theorem dX10_notes_28 : decode cX10_notes 28 = .ok (.getfield 50, 3) := by decide +kernel
theorem dX10_notes_31 : decode cX10_notes 31 = .ok (.aload_n 0, 1) := by decide +kernel
theorem dX10_notes_32 : decode cX10_notes 32 = .ok (.getfield 18, 3) := by decide +kernel
theorem dX10_notes_35 : decode cX10_notes 35 = .ok (.aload_n 0, 1) := by decide +kernel
theorem dX10_notes_36 : decode cX10_notes 36 = .ok (.getfield 43, 3) := by decide +kernel
theorem dX10_notes_39 : decode cX10_notes 39 = .ok (.invokevirtual 192, 3) := by decide +kernel
theorem dX10_notes_42 : decode cX10_notes 42 = .ok (.iload_n 1, 1) := by decide +kernel
theorem dX10_notes_43 : decode cX10_notes 43 = .ok (.ifCond .ne 11, 3) := by decide +kernel
theorem dX10_notes_46 : decode cX10_notes 46 = .ok (.aload_n 0, 1) := by decide +kernel
theorem dX10_notes_47 : decode cX10_notes 47 = .ok (.getfield 50, 3) := by decide +kernel
theorem dX10_notes_50 : decode cX10_notes 50 = .ok (.getfield 196, 3) := by decide +kernel
theorem dX10_notes_53 : decode cX10_notes 53 = .ok (.ireturn, 1) := by decide +kernel
theorem dX10_notes_54 : decode cX10_notes 54 = .ok (.iload_n 1, 1) := by decide +kernel
theorem dX10_notes_55 : decode cX10_notes 55 = .ok (.iconst 1, 1) := by decide +kernel
theorem dX10_notes_56 : decode cX10_notes 56 = .ok (.if_icmp .ne 13, 3) := by decide +kernel
theorem dX10_notes_59 : decode cX10_notes 59 = .ok (.aload_n 0, 1) := by decide +kernel
theorem dX10_notes_60 : decode cX10_notes 60 = .ok (.getfield 50, 3) := by decide +kernel
theorem dX10_notes_63 : decode cX10_notes 63 = .ok (.getfield 199, 3) := by decide +kernel
theorem dX10_notes_66 : decode cX10_notes 66 = .ok (.goto 10, 3) := by decide +kernel
theorem dX10_notes_69 : decode cX10_notes 69 = .ok (.aload_n 0, 1) := by decide +kernel
theorem dX10_notes_70 : decode cX10_notes 70 = .ok (.getfield 50, 3) := by decide +kernel
theorem dX10_notes_73 : decode cX10_notes 73 = .ok (.getfield 202, 3) := by decide +kernel
theorem dX10_notes_76 : decode cX10_notes 76 = .ok (.ireturn, 1) := by decide +kernel
theorem dX10_mean_0 : decode cX10_mean 0 = .ok (.lconst 0, 1) := by decide +kernel
theorem dX10_mean_1 : decode cX10_mean 1 = .ok (.lstore_n 1, 1) := by decide +kernel
theorem dX10_mean_2 : decode cX10_mean 2 = .ok (.lconst 0, 1) := by decide +kernel
theorem dX10_mean_3 : decode cX10_mean 3 = .ok (.lstore_n 3, 1) := by decide +kernel
theorem dX10_mean_4 : decode cX10_mean 4 = .ok (.aload_n 0, 1) := by decide +kernel
theorem dX10_mean_5 : decode cX10_mean 5 = .ok (.iconst 0, 1) := by decide +kernel
theorem dX10_mean_6 : decode cX10_mean 6 = .ok (.invokevirtual 151, 3) := by decide +kernel
theorem dX10_mean_9 : decode cX10_mean 9 = .ok (.iconst 0, 1) := by decide +kernel
theorem dX10_mean_10 : decode cX10_mean 10 = .ok (.istore 5, 2) := by decide +kernel
theorem dX10_mean_12 : decode cX10_mean 12 = .ok (.iload 5, 2) := by decide +kernel
theorem dX10_mean_14 : decode cX10_mean 14 = .ok (.aload_n 0, 1) := by decide +kernel
theorem dX10_mean_15 : decode cX10_mean 15 = .ok (.getfield 18, 3) := by decide +kernel
theorem dX10_mean_18 : decode cX10_mean 18 = .ok (.invokevirtual 176, 3) := by decide +kernel
theorem dX10_mean_21 : decode cX10_mean 21 = .ok (.if_icmp .ge 45, 3) := by decide +kernel
theorem dX10_mean_24 : decode cX10_mean 24 = .ok (.aload_n 0, 1) := by decide +kernel
theorem dX10_mean_25 : decode cX10_mean 25 = .ok (.invokevirtual 205, 3) := by decide +kernel
theorem dX10_mean_28 : decode cX10_mean 28 = .ok (.ifCond .eq 25, 3) := by decide +kernel
theorem dX10_mean_31 : decode cX10_mean 31 = .ok (.lload_n 1, 1) := by decide +kernel
theorem dX10_mean_32 : decode cX10_mean 32 = .ok (.aload_n 0, 1) := by decide +kernel
theorem dX10_mean_33 : decode cX10_mean 33 = .ok (.getfield 43, 3) := by decide +kernel
theorem dX10_mean_36 : decode cX10_mean 36 = .ok (.aload_n 0, 1) := by decide +kernel
theorem dX10_mean_37 : decode cX10_mean 37 = .ok (.getfield 18, 3) := by decide +kernel
theorem dX10_mean_40 : decode cX10_mean 40 = .ok (.getfield 170, 3) := by decide +kernel
theorem dX10_mean_43 : decode cX10_mean 43 = .ok (.invokevirtual 173, 3) := by decide +kernel
theorem dX10_mean_46 : decode cX10_mean 46 = .ok (.i2l, 1) := by decide +kernel
theorem dX10_mean_47 : decode cX10_mean 47 = .ok (.ladd, 1) := by decide +kernel
theorem dX10_mean_48 : decode cX10_mean 48 = .ok (.lstore_n 1, 1) := by decide +kernel
theorem dX10_mean_49 : decode cX10_mean 49 = .ok (.lload_n 3, 1) := by decide +kernel
theorem dX10_mean_50 : decode cX10_mean 50 = .ok (.lconst 1, 1) := by decide +kernel
theorem dX10_mean_51 : decode cX10_mean 51 = .ok (.ladd, 1) := by decide +kernel
theorem dX10_mean_52 : decode cX10_mean 52 = .ok (.lstore_n 3, 1) := by decide +kernel
theorem dX10_mean_53 : decode cX10_mean 53 = .ok (.aload_n 0, 1) := by decide +kernel
theorem dX10_mean_54 : decode cX10_mean 54 = .ok (.getfield 43, 3) := by decide +kernel
theorem dX10_mean_57 : decode cX10_mean 57 = .ok (.invokevirtual 183, 3) := by decide +kernel
theorem dX10_mean_60 : decode cX10_mean 60 = .ok (.iinc 5 1, 3) := by decide +kernel
theorem dX10_mean_63 : decode cX10_mean 63 = .ok (.goto (-51), 3) := by decide +kernel
theorem dX10_mean_66 : decode cX10_mean 66 = .ok (.lload_n 3, 1) := by decide +kernel
theorem dX10_mean_67 : decode cX10_mean 67 = .ok (.lconst 0, 1) := by decide +kernel
theorem dX10_mean_68 : decode cX10_mean 68 = .ok (.lcmp, 1) := by decide +kernel
theorem dX10_mean_69 : decode cX10_mean 69 = .ok (.ifCond .ne 10, 3) := by decide +kernel
theorem dX10_mean_72 : decode cX10_mean 72 = .ok (.aload_n 0, 1) := by decide +kernel
theorem dX10_mean_73 : decode cX10_mean 73 = .ok (.bipush (-3), 2) := by decide +kernel
theorem dX10_mean_75 : decode cX10_mean 75 = .ok (.invokevirtual 91, 3) := by decide +kernel
theorem dX10_mean_78 : decode cX10_mean 78 = .ok (.ireturn, 1) := by decide +kernel
theorem dX10_mean_79 : decode cX10_mean 79 = .ok (.aload_n 0, 1) := by decide +kernel
theorem dX10_mean_80 : decode cX10_mean 80 = .ok (.lload_n 1, 1) := by decide +kernel
theorem dX10_mean_81 : decode cX10_mean 81 = .ok (.lload_n 3, 1) := by decide +kernel
theorem dX10_mean_82 : decode cX10_mean 82 = .ok (.invokevirtual 208, 3) := by decide +kernel
theorem dX10_mean_85 : decode cX10_mean 85 = .ok (.iconst 1, 1) := by decide +kernel
theorem dX10_mean_86 : decode cX10_mean 86 = .ok (.ireturn, 1) := by decide +kernel
theorem dX10_best_0 : decode cX10_best 0 = .ok (.iconst (-1), 1) := by decide +kernel
theorem dX10_best_1 : decode cX10_best 1 = .ok (.istore_n 1, 1) := by decide +kernel
theorem dX10_best_2 : decode cX10_best 2 = .ok (.bipush (-3), 2) := by decide +kernel
theorem dX10_best_4 : decode cX10_best 4 = .ok (.istore_n 2, 1) := by decide +kernel
theorem dX10_best_5 : decode cX10_best 5 = .ok (.aload_n 0, 1) := by decide +kernel
theorem dX10_best_6 : decode cX10_best 6 = .ok (.iconst 0, 1) := by decide +kernel
theorem dX10_best_7 : decode cX10_best 7 = .ok (.invokevirtual 151, 3) := by decide +kernel
theorem dX10_best_10 : decode cX10_best 10 = .ok (.iconst 0, 1) := by decide +kernel
theorem dX10_best_11 : decode cX10_best 11 = .ok (.istore_n 3, 1) := by decide +kernel
theorem dX10_best_12 : decode cX10_best 12 = .ok (.iload_n 3, 1) := by decide +kernel
theorem dX10_best_13 : decode cX10_best 13 = .ok (.aload_n 0, 1) := by decide +kernel
theorem dX10_best_14 : decode cX10_best 14 = .ok (.getfield 18, 3) := by decide +kernel
theorem dX10_best_17 : decode cX10_best 17 = .ok (.invokevirtual 176, 3) := by decide +kernel
theorem dX10_best_20 : decode cX10_best 20 = .ok (.if_icmp .ge 58, 3) := by decide +kernel
theorem dX10_best_23 : decode cX10_best 23 = .ok (.aload_n 0, 1) := by decide +kernel
theorem dX10_best_24 : decode cX10_best 24 = .ok (.invokevirtual 205, 3) := by decide +kernel
theorem dX10_best_27 : decode cX10_best 27 = .ok (.ifCond .eq 38, 3) := by decide +kernel
theorem dX10_best_30 : decode cX10_best 30 = .ok (.aload_n 0, 1) := by decide +kernel
theorem dX10_best_31 : decode cX10_best 31 = .ok (.getfield 43, 3) := by decide +kernel
theorem dX10_best_34 : decode cX10_best 34 = .ok (.aload_n 0, 1) := by decide +kernel
theorem dX10_best_35 : decode cX10_best 35 = .ok (.getfield 18, 3) := by decide +kernel
theorem dX10_best_38 : decode cX10_best 38 = .ok (.getfield 170, 3) := by decide +kernel
theorem dX10_best_41 : decode cX10_best 41 = .ok (.invokevirtual 173, 3) := by decide +kernel
theorem dX10_best_44 : decode cX10_best 44 = .ok (.iload_n 1, 1) := by decide +kernel
theorem dX10_best_45 : decode cX10_best 45 = .ok (.if_icmp .le 20, 3) := by decide +kernel
theorem dX10_best_48 : decode cX10_best 48 = .ok (.aload_n 0, 1) := by decide +kernel
theorem dX10_best_49 : decode cX10_best 49 = .ok (.getfield 43, 3) := by decide +kernel
theorem dX10_best_52 : decode cX10_best 52 = .ok (.aload_n 0, 1) := by decide +kernel
theorem dX10_best_53 : decode cX10_best 53 = .ok (.getfield 18, 3) := by decide +kernel
theorem dX10_best_56 : decode cX10_best 56 = .ok (.getfield 170, 3) := by decide +kernel
theorem dX10_best_59 : decode cX10_best 59 = .ok (.invokevirtual 173, 3) := by decide +kernel
theorem dX10_best_62 : decode cX10_best 62 = .ok (.istore_n 1, 1) := by decide +kernel
theorem dX10_best_63 : decode cX10_best 63 = .ok (.iload_n 3, 1) := by decide +kernel
theorem dX10_best_64 : decode cX10_best 64 = .ok (.istore_n 2, 1) := by decide +kernel
theorem dX10_best_65 : decode cX10_best 65 = .ok (.aload_n 0, 1) := by decide +kernel
theorem dX10_best_66 : decode cX10_best 66 = .ok (.getfield 43, 3) := by decide +kernel
theorem dX10_best_69 : decode cX10_best 69 = .ok (.invokevirtual 183, 3) := by decide +kernel
theorem dX10_best_72 : decode cX10_best 72 = .ok (.iinc 3 1, 3) := by decide +kernel
theorem dX10_best_75 : decode cX10_best 75 = .ok (.goto (-63), 3) := by decide +kernel
theorem dX10_best_78 : decode cX10_best 78 = .ok (.aload_n 0, 1) := by decide +kernel
theorem dX10_best_79 : decode cX10_best 79 = .ok (.iload_n 2, 1) := by decide +kernel
theorem dX10_best_80 : decode cX10_best 80 = .ok (.invokevirtual 91, 3) := by decide +kernel
theorem dX10_best_83 : decode cX10_best 83 = .ok (.ireturn, 1) := by decide +kernel
theorem dX10_when_0 : decode cX10_when 0 = .ok (.aload_n 0, 1) := by decide +kernel
theorem dX10_when_1 : decode cX10_when 1 = .ok (.getfield 18, 3) := by decide +kernel
theorem dX10_when_4 : decode cX10_when 4 = .ok (.iload_n 1, 1) := by decide +kernel
theorem dX10_when_5 : decode cX10_when 5 = .ok (.invokevirtual 144, 3) := by decide +kernel
theorem dX10_when_8 : decode cX10_when 8 = .ok (.ifCond .eq 13, 3) := by decide +kernel
theorem dX10_when_11 : decode cX10_when 11 = .ok (.iload_n 2, 1) := by decide +kernel
theorem dX10_when_12 : decode cX10_when 12 = .ok (.ifCond .lt 9, 3) := by decide +kernel
theorem dX10_when_15 : decode cX10_when 15 = .ok (.iload_n 2, 1) := by decide +kernel
theorem dX10_when_16 : decode cX10_when 16 = .ok (.bipush 63, 2) := by decide +kernel
theorem dX10_when_18 : decode cX10_when 18 = .ok (.if_icmp .le 10, 3) := by decide +kernel
theorem dX10_when_21 : decode cX10_when 21 = .ok (.aload_n 0, 1) := by decide +kernel
theorem dX10_when_22 : decode cX10_when 22 = .ok (.bipush (-2), 2) := by decide +kernel
theorem dX10_when_24 : decode cX10_when 24 = .ok (.invokevirtual 91, 3) := by decide +kernel
theorem dX10_when_27 : decode cX10_when 27 = .ok (.ireturn, 1) := by decide +kernel
theorem dX10_when_28 : decode cX10_when 28 = .ok (.iconst 0, 1) := by decide +kernel
theorem dX10_when_29 : decode cX10_when 29 = .ok (.istore_n 3, 1) := by decide +kernel
theorem dX10_when_30 : decode cX10_when 30 = .ok (.aload_n 0, 1) := by decide +kernel
theorem dX10_when_31 : decode cX10_when 31 = .ok (.iconst 0, 1) := by decide +kernel
theorem dX10_when_32 : decode cX10_when 32 = .ok (.invokevirtual 151, 3) := by decide +kernel
theorem dX10_when_35 : decode cX10_when 35 = .ok (.iconst 0, 1) := by decide +kernel
theorem dX10_when_36 : decode cX10_when 36 = .ok (.istore 4, 2) := by decide +kernel
theorem dX10_when_38 : decode cX10_when 38 = .ok (.iload 4, 2) := by decide +kernel
theorem dX10_when_40 : decode cX10_when 40 = .ok (.aload_n 0, 1) := by decide +kernel
theorem dX10_when_41 : decode cX10_when 41 = .ok (.getfield 18, 3) := by decide +kernel
theorem dX10_when_44 : decode cX10_when 44 = .ok (.invokevirtual 176, 3) := by decide +kernel
theorem dX10_when_47 : decode cX10_when 47 = .ok (.if_icmp .ge 50, 3) := by decide +kernel
theorem dX10_when_50 : decode cX10_when 50 = .ok (.aload_n 0, 1) := by decide +kernel
theorem dX10_when_51 : decode cX10_when 51 = .ok (.invokevirtual 205, 3) := by decide +kernel
theorem dX10_when_54 : decode cX10_when 54 = .ok (.ifCond .eq 30, 3) := by decide +kernel
theorem dX10_when_57 : decode cX10_when 57 = .ok (.aload_n 0, 1) := by decide +kernel
theorem dX10_when_58 : decode cX10_when 58 = .ok (.getfield 43, 3) := by decide +kernel
theorem dX10_when_61 : decode cX10_when 61 = .ok (.getfield 158, 3) := by decide +kernel
theorem dX10_when_64 : decode cX10_when 64 = .ok (.iload_n 1, 1) := by decide +kernel
theorem dX10_when_65 : decode cX10_when 65 = .ok (.iaload, 1) := by decide +kernel
theorem dX10_when_66 : decode cX10_when 66 = .ok (.iload_n 2, 1) := by decide +kernel
theorem dX10_when_67 : decode cX10_when 67 = .ok (.if_icmp .ne 17, 3) := by decide +kernel
theorem dX10_when_70 : decode cX10_when 70 = .ok (.iload_n 3, 1) := by decide +kernel
theorem dX10_when_71 : decode cX10_when 71 = .ok (.iconst 1, 1) := by decide +kernel
theorem dX10_when_72 : decode cX10_when 72 = .ok (.aload_n 0, 1) := by decide +kernel
theorem dX10_when_73 : decode cX10_when 73 = .ok (.getfield 43, 3) := by decide +kernel
theorem dX10_when_76 : decode cX10_when 76 = .ok (.getfield 212, 3) := by decide +kernel
theorem dX10_when_79 : decode cX10_when 79 = .ok (.iload_n 1, 1) := by decide +kernel
theorem dX10_when_80 : decode cX10_when 80 = .ok (.iaload, 1) := by decide +kernel
theorem dX10_when_81 : decode cX10_when 81 = .ok (.ishl, 1) := by decide +kernel
theorem dX10_when_82 : decode cX10_when 82 = .ok (.ior, 1) := by decide +kernel
theorem dX10_when_83 : decode cX10_when 83 = .ok (.istore_n 3, 1) := by decide +kernel
theorem dX10_when_84 : decode cX10_when 84 = .ok (.aload_n 0, 1) := by decide +kernel
theorem dX10_when_85 : decode cX10_when 85 = .ok (.getfield 43, 3) := by decide +kernel
theorem dX10_when_88 : decode cX10_when 88 = .ok (.invokevirtual 183, 3) := by decide +kernel
theorem dX10_when_91 : decode cX10_when 91 = .ok (.iinc 4 1, 3) := by decide +kernel
theorem dX10_when_94 : decode cX10_when 94 = .ok (.goto (-56), 3) := by decide +kernel
theorem dX10_when_97 : decode cX10_when 97 = .ok (.iload_n 3, 1) := by decide +kernel
theorem dX10_when_98 : decode cX10_when 98 = .ok (.ireturn, 1) := by decide +kernel
theorem dX10_diary_0 : decode cX10_diary 0 = .ok (.aload_n 0, 1) := by decide +kernel
theorem dX10_diary_1 : decode cX10_diary 1 = .ok (.getfield 18, 3) := by decide +kernel
theorem dX10_diary_4 : decode cX10_diary 4 = .ok (.iload_n 1, 1) := by decide +kernel
theorem dX10_diary_5 : decode cX10_diary 5 = .ok (.iload_n 2, 1) := by decide +kernel
theorem dX10_diary_6 : decode cX10_diary 6 = .ok (.invokevirtual 215, 3) := by decide +kernel
theorem dX10_diary_9 : decode cX10_diary 9 = .ok (.istore_n 3, 1) := by decide +kernel
theorem dX10_diary_10 : decode cX10_diary 10 = .ok (.iload_n 3, 1) := by decide +kernel
theorem dX10_diary_11 : decode cX10_diary 11 = .ok (.bipush (-2), 2) := by decide +kernel
theorem dX10_diary_13 : decode cX10_diary 13 = .ok (.if_icmp .ne 12, 3) := by decide +kernel
theorem dX10_diary_16 : decode cX10_diary 16 = .ok (.aload_n 0, 1) := by decide +kernel
theorem dX10_diary_17 : decode cX10_diary 17 = .ok (.bipush (-10), 2) := by decide +kernel
theorem dX10_diary_19 : decode cX10_diary 19 = .ok (.invokevirtual 111, 3) := by decide +kernel
theorem dX10_diary_22 : decode cX10_diary 22 = .ok (.goto 4, 3) := by decide +kernel
theorem dX10_diary_25 : decode cX10_diary 25 = .ok (.iload_n 3, 1) := by decide +kernel
theorem dX10_diary_26 : decode cX10_diary 26 = .ok (.ireturn, 1) := by decide +kernel
theorem dX10_torn_0 : decode cX10_torn 0 = .ok (.iload_n 1, 1) := by decide +kernel
theorem dX10_torn_1 : decode cX10_torn 1 = .ok (.ifCond .lt 8, 3) := by decide +kernel
theorem dX10_torn_4 : decode cX10_torn 4 = .ok (.iload_n 1, 1) := by decide +kernel
theorem dX10_torn_5 : decode cX10_torn 5 = .ok (.iconst 1, 1) := by decide +kernel
theorem dX10_torn_6 : decode cX10_torn 6 = .ok (.if_icmp .le 10, 3) := by decide +kernel
theorem dX10_torn_9 : decode cX10_torn 9 = .ok (.aload_n 0, 1) := by decide +kernel
theorem dX10_torn_10 : decode cX10_torn 10 = .ok (.bipush (-10), 2) := by decide +kernel
theorem dX10_torn_12 : decode cX10_torn 12 = .ok (.invokevirtual 111, 3) := by decide +kernel
theorem dX10_torn_15 : decode cX10_torn 15 = .ok (.ireturn, 1) := by decide +kernel
theorem dX10_torn_16 : decode cX10_torn 16 = .ok (.iconst 0, 1) := by decide +kernel
theorem dX10_torn_17 : decode cX10_torn 17 = .ok (.istore_n 2, 1) := by decide +kernel
theorem dX10_torn_18 : decode cX10_torn 18 = .ok (.iconst (-1), 1) := by decide +kernel
theorem dX10_torn_19 : decode cX10_torn 19 = .ok (.istore_n 3, 1) := by decide +kernel
theorem dX10_torn_20 : decode cX10_torn 20 = .ok (.aload_n 0, 1) := by decide +kernel
theorem dX10_torn_21 : decode cX10_torn 21 = .ok (.iconst 0, 1) := by decide +kernel
theorem dX10_torn_22 : decode cX10_torn 22 = .ok (.invokevirtual 151, 3) := by decide +kernel
theorem dX10_torn_25 : decode cX10_torn 25 = .ok (.iconst 0, 1) := by decide +kernel
theorem dX10_torn_26 : decode cX10_torn 26 = .ok (.istore 4, 2) := by decide +kernel
theorem dX10_torn_28 : decode cX10_torn 28 = .ok (.iload 4, 2) := by decide +kernel
theorem dX10_torn_30 : decode cX10_torn 30 = .ok (.aload_n 0, 1) := by decide +kernel
theorem dX10_torn_31 : decode cX10_torn 31 = .ok (.getfield 18, 3) := by decide +kernel
theorem dX10_torn_34 : decode cX10_torn 34 = .ok (.invokevirtual 176, 3) := by decide +kernel
theorem dX10_torn_37 : decode cX10_torn 37 = .ok (.if_icmp .ge 50, 3) := by decide +kernel
theorem dX10_torn_40 : decode cX10_torn 40 = .ok (.aload_n 0, 1) := by decide +kernel
theorem dX10_torn_41 : decode cX10_torn 41 = .ok (.invokevirtual 205, 3) := by decide +kernel
theorem dX10_torn_44 : decode cX10_torn 44 = .ok (.ifCond .eq 30, 3) := by decide +kernel
theorem dX10_torn_47 : decode cX10_torn 47 = .ok (.aload_n 0, 1) := by decide +kernel
theorem dX10_torn_48 : decode cX10_torn 48 = .ok (.getfield 43, 3) := by decide +kernel
theorem dX10_torn_51 : decode cX10_torn 51 = .ok (.aload_n 0, 1) := by decide +kernel
theorem dX10_torn_52 : decode cX10_torn 52 = .ok (.getfield 18, 3) := by decide +kernel
theorem dX10_torn_55 : decode cX10_torn 55 = .ok (.getfield 218, 3) := by decide +kernel
theorem dX10_torn_58 : decode cX10_torn 58 = .ok (.invokevirtual 221, 3) := by decide +kernel
theorem dX10_torn_61 : decode cX10_torn 61 = .ok (.ifCond .eq 13, 3) := by decide +kernel
theorem dX10_torn_64 : decode cX10_torn 64 = .ok (.iload_n 2, 1) := by decide +kernel
theorem dX10_torn_65 : decode cX10_torn 65 = .ok (.ifCond .ne 6, 3) := by decide +kernel
theorem dX10_torn_68 : decode cX10_torn 68 = .ok (.iload 4, 2) := by decide +kernel
theorem dX10_torn_70 : decode cX10_torn 70 = .ok (.istore_n 3, 1) := by decide +kernel
theorem dX10_torn_71 : decode cX10_torn 71 = .ok (.iinc 2 1, 3) := by decide +kernel
theorem dX10_torn_74 : decode cX10_torn 74 = .ok (.aload_n 0, 1) := by decide +kernel
theorem dX10_torn_75 : decode cX10_torn 75 = .ok (.getfield 43, 3) := by decide +kernel
theorem dX10_torn_78 : decode cX10_torn 78 = .ok (.invokevirtual 183, 3) := by decide +kernel
theorem dX10_torn_81 : decode cX10_torn 81 = .ok (.iinc 4 1, 3) := by decide +kernel
theorem dX10_torn_84 : decode cX10_torn 84 = .ok (.goto (-56), 3) := by decide +kernel
theorem dX10_torn_87 : decode cX10_torn 87 = .ok (.iload_n 1, 1) := by decide +kernel
theorem dX10_torn_88 : decode cX10_torn 88 = .ok (.ifCond .ne 7, 3) := by decide +kernel
theorem dX10_torn_91 : decode cX10_torn 91 = .ok (.iload_n 2, 1) := by decide +kernel
theorem dX10_torn_92 : decode cX10_torn 92 = .ok (.goto 4, 3) := by decide +kernel
theorem dX10_torn_95 : decode cX10_torn 95 = .ok (.iload_n 3, 1) := by decide +kernel
theorem dX10_torn_96 : decode cX10_torn 96 = .ok (.ireturn, 1) := by decide +kernel
theorem dX10_promise_0 : decode cX10_promise 0 = .ok (.iload_n 1, 1) := by decide +kernel
theorem dX10_promise_1 : decode cX10_promise 1 = .ok (.invokestatic 225, 3) := by decide +kernel
theorem dX10_promise_4 : decode cX10_promise 4 = .ok (.ifCond .eq 30, 3) := by decide +kernel
theorem dX10_promise_7 : decode cX10_promise 7 = .ok (.aload_n 0, 1) := by decide +kernel
theorem dX10_promise_8 : decode cX10_promise 8 = .ok (.getfield 18, 3) := by decide +kernel
theorem dX10_promise_11 : decode cX10_promise 11 = .ok (.iload_n 2, 1) := by decide +kernel
theorem dX10_promise_12 : decode cX10_promise 12 = .ok (.invokevirtual 144, 3) := by decide +kernel
theorem dX10_promise_15 : decode cX10_promise 15 = .ok (.ifCond .eq 19, 3) := by decide +kernel
theorem dX10_promise_18 : decode cX10_promise 18 = .ok (.aload_n 0, 1) := by decide +kernel
theorem dX10_promise_19 : decode cX10_promise 19 = .ok (.getfield 18, 3) := by decide +kernel
theorem dX10_promise_22 : decode cX10_promise 22 = .ok (.iload_n 3, 1) := by decide +kernel
theorem dX10_promise_23 : decode cX10_promise 23 = .ok (.invokevirtual 144, 3) := by decide +kernel
theorem dX10_promise_26 : decode cX10_promise 26 = .ok (.ifCond .eq 8, 3) := by decide +kernel
theorem dX10_promise_29 : decode cX10_promise 29 = .ok (.iload_n 2, 1) := by decide +kernel
theorem dX10_promise_30 : decode cX10_promise 30 = .ok (.iload_n 3, 1) := by decide +kernel
theorem dX10_promise_31 : decode cX10_promise 31 = .ok (.if_icmp .ne 10, 3) := by decide +kernel
theorem dX10_promise_34 : decode cX10_promise 34 = .ok (.aload_n 0, 1) := by decide +kernel
theorem dX10_promise_35 : decode cX10_promise 35 = .ok (.bipush (-2), 2) := by decide +kernel
theorem dX10_promise_37 : decode cX10_promise 37 = .ok (.invokevirtual 91, 3) := by decide +kernel
theorem dX10_promise_40 : decode cX10_promise 40 = .ok (.ireturn, 1) := by decide +kernel
theorem dX10_promise_41 : decode cX10_promise 41 = .ok (.aload_n 0, 1) := by decide +kernel
theorem dX10_promise_42 : decode cX10_promise 42 = .ok (.iconst 0, 1) := by decide +kernel
theorem dX10_promise_43 : decode cX10_promise 43 = .ok (.invokevirtual 151, 3) := by decide +kernel
theorem dX10_promise_46 : decode cX10_promise 46 = .ok (.aload_n 0, 1) := by decide +kernel
theorem dX10_promise_47 : decode cX10_promise 47 = .ok (.getfield 43, 3) := by decide +kernel
theorem dX10_promise_50 : decode cX10_promise 50 = .ok (.aload_n 0, 1) := by decide +kernel
theorem dX10_promise_51 : decode cX10_promise 51 = .ok (.getfield 18, 3) := by decide +kernel
theorem dX10_promise_54 : decode cX10_promise 54 = .ok (.aload_n 0, 1) := by decide +kernel
theorem dX10_promise_55 : decode cX10_promise 55 = .ok (.getfield 11, 3) := by decide +kernel
theorem dX10_promise_58 : decode cX10_promise 58 = .ok (.iload_n 2, 1) := by decide +kernel
theorem dX10_promise_59 : decode cX10_promise 59 = .ok (.iconst 1, 1) := by decide +kernel
theorem dX10_promise_60 : decode cX10_promise 60 = .ok (.iload_n 1, 1) := by decide +kernel
theorem dX10_promise_61 : decode cX10_promise 61 = .ok (.ishl, 1) := by decide +kernel
theorem dX10_promise_62 : decode cX10_promise 62 = .ok (.invokevirtual 228, 3) := by decide +kernel
theorem dX10_promise_65 : decode cX10_promise 65 = .ok (.iconst 0, 1) := by decide +kernel
theorem dX10_promise_66 : decode cX10_promise 66 = .ok (.istore 4, 2) := by decide +kernel
theorem dX10_promise_68 : decode cX10_promise 68 = .ok (.iconst 0, 1) := by decide +kernel
theorem dX10_promise_69 : decode cX10_promise 69 = .ok (.istore 5, 2) := by decide +kernel
theorem dX10_promise_71 : decode cX10_promise 71 = .ok (.iload 5, 2) := by decide +kernel
theorem dX10_promise_73 : decode cX10_promise 73 = .ok (.aload_n 0, 1) := by decide +kernel
theorem dX10_promise_74 : decode cX10_promise 74 = .ok (.getfield 18, 3) := by decide +kernel
theorem dX10_promise_77 : decode cX10_promise 77 = .ok (.invokevirtual 176, 3) := by decide +kernel
theorem dX10_promise_80 : decode cX10_promise 80 = .ok (.if_icmp .ge 41, 3) := by decide +kernel
theorem dX10_promise_83 : decode cX10_promise 83 = .ok (.aload_n 0, 1) := by decide +kernel
theorem dX10_promise_84 : decode cX10_promise 84 = .ok (.getfield 43, 3) := by decide +kernel
theorem dX10_promise_87 : decode cX10_promise 87 = .ok (.invokevirtual 232, 3) := by decide +kernel
theorem dX10_promise_90 : decode cX10_promise 90 = .ok (.iload 4, 2) := by decide +kernel
theorem dX10_promise_92 : decode cX10_promise 92 = .ok (.aload_n 0, 1) := by decide +kernel
theorem dX10_promise_93 : decode cX10_promise 93 = .ok (.getfield 43, 3) := by decide +kernel
theorem dX10_promise_96 : decode cX10_promise 96 = .ok (.getfield 158, 3) := by decide +kernel
theorem dX10_promise_99 : decode cX10_promise 99 = .ok (.iload_n 3, 1) := by decide +kernel
theorem dX10_promise_100 : decode cX10_promise 100 = .ok (.iaload, 1) := by decide +kernel
theorem dX10_promise_101 : decode cX10_promise 101 = .ok (.iload_n 1, 1) := by decide +kernel
theorem dX10_promise_102 : decode cX10_promise 102 = .ok (.ishr, 1) := by decide +kernel
theorem dX10_promise_103 : decode cX10_promise 103 = .ok (.iconst 1, 1) := by decide +kernel
theorem dX10_promise_104 : decode cX10_promise 104 = .ok (.iand, 1) := by decide +kernel
theorem dX10_promise_105 : decode cX10_promise 105 = .ok (.iadd, 1) := by decide +kernel
theorem dX10_promise_106 : decode cX10_promise 106 = .ok (.istore 4, 2) := by decide +kernel
theorem dX10_promise_108 : decode cX10_promise 108 = .ok (.aload_n 0, 1) := by decide +kernel
theorem dX10_promise_109 : decode cX10_promise 109 = .ok (.getfield 43, 3) := by decide +kernel
theorem dX10_promise_112 : decode cX10_promise 112 = .ok (.invokevirtual 183, 3) := by decide +kernel
theorem dX10_promise_115 : decode cX10_promise 115 = .ok (.iinc 5 1, 3) := by decide +kernel
theorem dX10_promise_118 : decode cX10_promise 118 = .ok (.goto (-47), 3) := by decide +kernel
theorem dX10_promise_121 : decode cX10_promise 121 = .ok (.aload_n 0, 1) := by decide +kernel
theorem dX10_promise_122 : decode cX10_promise 122 = .ok (.iload 4, 2) := by decide +kernel
theorem dX10_promise_124 : decode cX10_promise 124 = .ok (.i2l, 1) := by decide +kernel
theorem dX10_promise_125 : decode cX10_promise 125 = .ok (.aload_n 0, 1) := by decide +kernel
theorem dX10_promise_126 : decode cX10_promise 126 = .ok (.getfield 18, 3) := by decide +kernel
theorem dX10_promise_129 : decode cX10_promise 129 = .ok (.invokevirtual 176, 3) := by decide +kernel
theorem dX10_promise_132 : decode cX10_promise 132 = .ok (.i2l, 1) := by decide +kernel
theorem dX10_promise_133 : decode cX10_promise 133 = .ok (.invokevirtual 208, 3) := by decide +kernel
theorem dX10_promise_136 : decode cX10_promise 136 = .ok (.iconst 1, 1) := by decide +kernel
theorem dX10_promise_137 : decode cX10_promise 137 = .ok (.ireturn, 1) := by decide +kernel
theorem dX10_other_0 : decode cX10_other 0 = .ok (.aload_n 0, 1) := by decide +kernel
theorem dX10_other_1 : decode cX10_other 1 = .ok (.aload_n 0, 1) := by decide +kernel
theorem dX10_other_2 : decode cX10_other 2 = .ok (.getfield 18, 3) := by decide +kernel
theorem dX10_other_5 : decode cX10_other 5 = .ok (.iload_n 1, 1) := by decide +kernel
theorem dX10_other_6 : decode cX10_other 6 = .ok (.invokevirtual 235, 3) := by decide +kernel
theorem dX10_other_9 : decode cX10_other 9 = .ok (.invokevirtual 91, 3) := by decide +kernel
theorem dX10_other_12 : decode cX10_other 12 = .ok (.ireturn, 1) := by decide +kernel
theorem dX10_two_0 : decode cX10_two 0 = .ok (.aload_n 0, 1) := by decide +kernel
theorem dX10_two_1 : decode cX10_two 1 = .ok (.getfield 18, 3) := by decide +kernel
theorem dX10_two_4 : decode cX10_two 4 = .ok (.iload_n 1, 1) := by decide +kernel
theorem dX10_two_5 : decode cX10_two 5 = .ok (.invokevirtual 144, 3) := by decide +kernel
theorem dX10_two_8 : decode cX10_two 8 = .ok (.ifCond .ne 10, 3) := by decide +kernel
theorem dX10_two_11 : decode cX10_two 11 = .ok (.aload_n 0, 1) := by decide +kernel
theorem dX10_two_12 : decode cX10_two 12 = .ok (.bipush (-2), 2) := by decide +kernel
theorem dX10_two_14 : decode cX10_two 14 = .ok (.invokevirtual 91, 3) := by decide +kernel
theorem dX10_two_17 : decode cX10_two 17 = .ok (.ireturn, 1) := by decide +kernel
theorem dX10_two_18 : decode cX10_two 18 = .ok (.aload_n 0, 1) := by decide +kernel
theorem dX10_two_19 : decode cX10_two 19 = .ok (.invokevirtual 238, 3) := by decide +kernel
theorem dX10_two_22 : decode cX10_two 22 = .ok (.aload_n 0, 1) := by decide +kernel
theorem dX10_two_23 : decode cX10_two 23 = .ok (.getfield 54, 3) := by decide +kernel
theorem dX10_two_26 : decode cX10_two 26 = .ok (.iload_n 1, 1) := by decide +kernel
theorem dX10_two_27 : decode cX10_two 27 = .ok (.iaload, 1) := by decide +kernel
theorem dX10_two_28 : decode cX10_two 28 = .ok (.ireturn, 1) := by decide +kernel
theorem dX10_settle_0 : decode cX10_settle 0 = .ok (.iload_n 1, 1) := by decide +kernel
theorem dX10_settle_1 : decode cX10_settle 1 = .ok (.invokestatic 225, 3) := by decide +kernel
theorem dX10_settle_4 : decode cX10_settle 4 = .ok (.ifCond .eq 12, 3) := by decide +kernel
theorem dX10_settle_7 : decode cX10_settle 7 = .ok (.iload_n 2, 1) := by decide +kernel
theorem dX10_settle_8 : decode cX10_settle 8 = .ok (.ifCond .lt 8, 3) := by decide +kernel
theorem dX10_settle_11 : decode cX10_settle 11 = .ok (.iload_n 2, 1) := by decide +kernel
theorem dX10_settle_12 : decode cX10_settle 12 = .ok (.iconst 1, 1) := by decide +kernel
theorem dX10_settle_13 : decode cX10_settle 13 = .ok (.if_icmp .le 10, 3) := by decide +kernel
theorem dX10_settle_16 : decode cX10_settle 16 = .ok (.aload_n 0, 1) := by decide +kernel
theorem dX10_settle_17 : decode cX10_settle 17 = .ok (.bipush (-10), 2) := by decide +kernel
theorem dX10_settle_19 : decode cX10_settle 19 = .ok (.invokevirtual 111, 3) := by decide +kernel
theorem dX10_settle_22 : decode cX10_settle 22 = .ok (.ireturn, 1) := by decide +kernel
theorem dX10_settle_23 : decode cX10_settle 23 = .ok (.aload_n 0, 1) := by decide +kernel
theorem dX10_settle_24 : decode cX10_settle 24 = .ok (.invokevirtual 238, 3) := by decide +kernel
theorem dX10_settle_27 : decode cX10_settle 27 = .ok (.iconst 0, 1) := by decide +kernel
theorem dX10_settle_28 : decode cX10_settle 28 = .ok (.istore_n 3, 1) := by decide +kernel
theorem dX10_settle_29 : decode cX10_settle 29 = .ok (.iconst (-1), 1) := by decide +kernel
theorem dX10_settle_30 : decode cX10_settle 30 = .ok (.istore 4, 2) := by decide +kernel
theorem dX10_settle_32 : decode cX10_settle 32 = .ok (.aload_n 0, 1) := by decide +kernel
theorem dX10_settle_33 : decode cX10_settle 33 = .ok (.getfield 18, 3) := by decide +kernel
theorem dX10_settle_36 : decode cX10_settle 36 = .ok (.getfield 170, 3) := by decide +kernel
theorem dX10_settle_39 : decode cX10_settle 39 = .ok (.iconst 1, 1) := by decide +kernel
theorem dX10_settle_40 : decode cX10_settle 40 = .ok (.isub, 1) := by decide +kernel
theorem dX10_settle_41 : decode cX10_settle 41 = .ok (.istore 5, 2) := by decide +kernel
theorem dX10_settle_43 : decode cX10_settle 43 = .ok (.iload 5, 2) := by decide +kernel
theorem dX10_settle_45 : decode cX10_settle 45 = .ok (.ifCond .lt 30, 3) := by decide +kernel
theorem dX10_settle_48 : decode cX10_settle 48 = .ok (.aload_n 0, 1) := by decide +kernel
theorem dX10_settle_49 : decode cX10_settle 49 = .ok (.getfield 54, 3) := by decide +kernel
theorem dX10_settle_52 : decode cX10_settle 52 = .ok (.iload 5, 2) := by decide +kernel
theorem dX10_settle_54 : decode cX10_settle 54 = .ok (.iaload, 1) := by decide +kernel
theorem dX10_settle_55 : decode cX10_settle 55 = .ok (.iload_n 1, 1) := by decide +kernel
theorem dX10_settle_56 : decode cX10_settle 56 = .ok (.ishr, 1) := by decide +kernel
theorem dX10_settle_57 : decode cX10_settle 57 = .ok (.iconst 1, 1) := by decide +kernel
theorem dX10_settle_58 : decode cX10_settle 58 = .ok (.iand, 1) := by decide +kernel
theorem dX10_settle_59 : decode cX10_settle 59 = .ok (.ifCond .eq 10, 3) := by decide +kernel
theorem dX10_settle_62 : decode cX10_settle 62 = .ok (.iinc 3 1, 3) := by decide +kernel
theorem dX10_settle_65 : decode cX10_settle 65 = .ok (.iload 5, 2) := by decide +kernel
theorem dX10_settle_67 : decode cX10_settle 67 = .ok (.istore 4, 2) := by decide +kernel
theorem dX10_settle_69 : decode cX10_settle 69 = .ok (.iinc 5 (-1), 3) := by decide +kernel
theorem dX10_settle_72 : decode cX10_settle 72 = .ok (.goto (-29), 3) := by decide +kernel
theorem dX10_settle_75 : decode cX10_settle 75 = .ok (.iload_n 2, 1) := by decide +kernel
theorem dX10_settle_76 : decode cX10_settle 76 = .ok (.ifCond .ne 7, 3) := by decide +kernel
theorem dX10_settle_79 : decode cX10_settle 79 = .ok (.iload_n 3, 1) := by decide +kernel
theorem dX10_settle_80 : decode cX10_settle 80 = .ok (.goto 5, 3) := by decide +kernel
theorem dX10_settle_83 : decode cX10_settle 83 = .ok (.iload 4, 2) := by decide +kernel
theorem dX10_settle_85 : decode cX10_settle 85 = .ok (.ireturn, 1) := by decide +kernel
theorem dX10_game_0 : decode cX10_game 0 = .ok (.iload_n 1, 1) := by decide +kernel
theorem dX10_game_1 : decode cX10_game 1 = .ok (.ifCond .lt 8, 3) := by decide +kernel
theorem dX10_game_4 : decode cX10_game 4 = .ok (.iload_n 1, 1) := by decide +kernel
theorem dX10_game_5 : decode cX10_game 5 = .ok (.iconst 1, 1) := by decide +kernel
theorem dX10_game_6 : decode cX10_game 6 = .ok (.if_icmp .le 10, 3) := by decide +kernel
theorem dX10_game_9 : decode cX10_game 9 = .ok (.aload_n 0, 1) := by decide +kernel
theorem dX10_game_10 : decode cX10_game 10 = .ok (.bipush (-100), 2) := by decide +kernel
theorem dX10_game_12 : decode cX10_game 12 = .ok (.invokevirtual 111, 3) := by decide +kernel
theorem dX10_game_15 : decode cX10_game 15 = .ok (.ireturn, 1) := by decide +kernel
theorem dX10_game_16 : decode cX10_game 16 = .ok (.iconst (-1), 1) := by decide +kernel
theorem dX10_game_17 : decode cX10_game 17 = .ok (.istore_n 2, 1) := by decide +kernel
theorem dX10_game_18 : decode cX10_game 18 = .ok (.iconst 1, 1) := by decide +kernel
theorem dX10_game_19 : decode cX10_game 19 = .ok (.aload_n 0, 1) := by decide +kernel
theorem dX10_game_20 : decode cX10_game 20 = .ok (.getfield 18, 3) := by decide +kernel
theorem dX10_game_23 : decode cX10_game 23 = .ok (.getfield 170, 3) := by decide +kernel
theorem dX10_game_26 : decode cX10_game 26 = .ok (.ishl, 1) := by decide +kernel
theorem dX10_game_27 : decode cX10_game 27 = .ok (.iconst 1, 1) := by decide +kernel
theorem dX10_game_28 : decode cX10_game 28 = .ok (.isub, 1) := by decide +kernel
theorem dX10_game_29 : decode cX10_game 29 = .ok (.istore_n 3, 1) := by decide +kernel
theorem dX10_game_30 : decode cX10_game 30 = .ok (.aload_n 0, 1) := by decide +kernel
theorem dX10_game_31 : decode cX10_game 31 = .ok (.getfield 58, 3) := by decide +kernel
theorem dX10_game_34 : decode cX10_game 34 = .ok (.iload_n 3, 1) := by decide +kernel
theorem dX10_game_35 : decode cX10_game 35 = .ok (.iconst 0, 1) := by decide +kernel
theorem dX10_game_36 : decode cX10_game 36 = .ok (.iastore, 1) := by decide +kernel
theorem dX10_game_37 : decode cX10_game 37 = .ok (.iload_n 3, 1) := by decide +kernel
theorem dX10_game_38 : decode cX10_game 38 = .ok (.iconst 1, 1) := by decide +kernel
theorem dX10_game_39 : decode cX10_game 39 = .ok (.isub, 1) := by decide +kernel
theorem dX10_game_40 : decode cX10_game 40 = .ok (.istore 4, 2) := by decide +kernel
theorem dX10_game_42 : decode cX10_game 42 = .ok (.iload 4, 2) := by decide +kernel
theorem dX10_game_44 : decode cX10_game 44 = .ok (.ifCond .lt 30, 3) := by decide +kernel
theorem dX10_game_47 : decode cX10_game 47 = .ok (.aload_n 0, 1) := by decide +kernel
theorem dX10_game_48 : decode cX10_game 48 = .ok (.iload 4, 2) := by decide +kernel
theorem dX10_game_50 : decode cX10_game 50 = .ok (.invokevirtual 241, 3) := by decide +kernel
theorem dX10_game_53 : decode cX10_game 53 = .ok (.istore_n 2, 1) := by decide +kernel
theorem dX10_game_54 : decode cX10_game 54 = .ok (.aload_n 0, 1) := by decide +kernel
theorem dX10_game_55 : decode cX10_game 55 = .ok (.getfield 58, 3) := by decide +kernel
theorem dX10_game_58 : decode cX10_game 58 = .ok (.iload 4, 2) := by decide +kernel
theorem dX10_game_60 : decode cX10_game 60 = .ok (.aload_n 0, 1) := by decide +kernel
theorem dX10_game_61 : decode cX10_game 61 = .ok (.iload 4, 2) := by decide +kernel
theorem dX10_game_63 : decode cX10_game 63 = .ok (.iload_n 2, 1) := by decide +kernel
theorem dX10_game_64 : decode cX10_game 64 = .ok (.invokevirtual 244, 3) := by decide +kernel
theorem dX10_game_67 : decode cX10_game 67 = .ok (.iastore, 1) := by decide +kernel
theorem dX10_game_68 : decode cX10_game 68 = .ok (.iinc 4 (-1), 3) := by decide +kernel
theorem dX10_game_71 : decode cX10_game 71 = .ok (.goto (-29), 3) := by decide +kernel
theorem dX10_game_74 : decode cX10_game 74 = .ok (.iload_n 1, 1) := by decide +kernel
theorem dX10_game_75 : decode cX10_game 75 = .ok (.ifCond .ne 12, 3) := by decide +kernel
theorem dX10_game_78 : decode cX10_game 78 = .ok (.aload_n 0, 1) := by decide +kernel
theorem dX10_game_79 : decode cX10_game 79 = .ok (.getfield 58, 3) := by decide +kernel
theorem dX10_game_82 : decode cX10_game 82 = .ok (.iconst 0, 1) := by decide +kernel
theorem dX10_game_83 : decode cX10_game 83 = .ok (.iaload, 1) := by decide +kernel
theorem dX10_game_84 : decode cX10_game 84 = .ok (.goto 4, 3) := by decide +kernel
theorem dX10_game_87 : decode cX10_game 87 = .ok (.iload_n 2, 1) := by decide +kernel
theorem dX10_game_88 : decode cX10_game 88 = .ok (.ireturn, 1) := by decide +kernel
theorem dX10_live_0 : decode cX10_live 0 = .ok (.aload_n 0, 1) := by decide +kernel
theorem dX10_live_1 : decode cX10_live 1 = .ok (.getfield 18, 3) := by decide +kernel
theorem dX10_live_4 : decode cX10_live 4 = .ok (.getfield 247, 3) := by decide +kernel
theorem dX10_live_7 : decode cX10_live 7 = .ok (.aload_n 0, 1) := by decide +kernel
theorem dX10_live_8 : decode cX10_live 8 = .ok (.getfield 18, 3) := by decide +kernel
theorem dX10_live_11 : decode cX10_live 11 = .ok (.getfield 170, 3) := by decide +kernel
theorem dX10_live_14 : decode cX10_live 14 = .ok (.if_icmp .lt 10, 3) := by decide +kernel
theorem dX10_live_17 : decode cX10_live 17 = .ok (.aload_n 0, 1) := by decide +kernel
theorem dX10_live_18 : decode cX10_live 18 = .ok (.bipush (-3), 2) := by decide +kernel
theorem dX10_live_20 : decode cX10_live 20 = .ok (.invokevirtual 91, 3) := by decide +kernel
theorem dX10_live_23 : decode cX10_live 23 = .ok (.ireturn, 1) := by decide +kernel
theorem dX10_live_24 : decode cX10_live 24 = .ok (.aload_n 0, 1) := by decide +kernel
theorem dX10_live_25 : decode cX10_live 25 = .ok (.aload_n 0, 1) := by decide +kernel
theorem dX10_live_26 : decode cX10_live 26 = .ok (.getfield 18, 3) := by decide +kernel
theorem dX10_live_29 : decode cX10_live 29 = .ok (.getfield 148, 3) := by decide +kernel
theorem dX10_live_32 : decode cX10_live 32 = .ok (.invokevirtual 151, 3) := by decide +kernel
theorem dX10_live_35 : decode cX10_live 35 = .ok (.aload_n 0, 1) := by decide +kernel
theorem dX10_live_36 : decode cX10_live 36 = .ok (.getfield 43, 3) := by decide +kernel
theorem dX10_live_39 : decode cX10_live 39 = .ok (.getfield 155, 3) := by decide +kernel
theorem dX10_live_42 : decode cX10_live 42 = .ok (.aload_n 0, 1) := by decide +kernel
theorem dX10_live_43 : decode cX10_live 43 = .ok (.getfield 18, 3) := by decide +kernel
theorem dX10_live_46 : decode cX10_live 46 = .ok (.getfield 247, 3) := by decide +kernel
theorem dX10_live_49 : decode cX10_live 49 = .ok (.iaload, 1) := by decide +kernel
theorem dX10_live_50 : decode cX10_live 50 = .ok (.istore_n 1, 1) := by decide +kernel
theorem dX10_live_51 : decode cX10_live 51 = .ok (.aload_n 0, 1) := by decide +kernel
theorem dX10_live_52 : decode cX10_live 52 = .ok (.getfield 18, 3) := by decide +kernel
theorem dX10_live_55 : decode cX10_live 55 = .ok (.dup, 1) := by decide +kernel
theorem dX10_live_56 : decode cX10_live 56 = .ok (.getfield 247, 3) := by decide +kernel
theorem dX10_live_59 : decode cX10_live 59 = .ok (.iconst 1, 1) := by decide +kernel
theorem dX10_live_60 : decode cX10_live 60 = .ok (.iadd, 1) := by decide +kernel
theorem dX10_live_61 : decode cX10_live 61 = .ok (.putfield 247, 3) := by decide +kernel
theorem dX10_live_64 : decode cX10_live 64 = .ok (.aload_n 0, 1) := by decide +kernel
theorem dX10_live_65 : decode cX10_live 65 = .ok (.getfield 43, 3) := by decide +kernel
theorem dX10_live_68 : decode cX10_live 68 = .ok (.iload_n 1, 1) := by decide +kernel
theorem dX10_live_69 : decode cX10_live 69 = .ok (.invokevirtual 164, 3) := by decide +kernel
theorem dX10_live_72 : decode cX10_live 72 = .ok (.ifCond .ne 7, 3) := by decide +kernel
theorem dX10_live_75 : decode cX10_live 75 = .ok (.iconst 1, 1) := by decide +kernel
theorem dX10_live_76 : decode cX10_live 76 = .ok (.goto 4, 3) := by decide +kernel
theorem dX10_live_79 : decode cX10_live 79 = .ok (.iconst 0, 1) := by decide +kernel
theorem dX10_live_80 : decode cX10_live 80 = .ok (.ireturn, 1) := by decide +kernel
theorem dX10_undo_0 : decode cX10_undo 0 = .ok (.aload_n 0, 1) := by decide +kernel
theorem dX10_undo_1 : decode cX10_undo 1 = .ok (.getfield 18, 3) := by decide +kernel
theorem dX10_undo_4 : decode cX10_undo 4 = .ok (.getfield 247, 3) := by decide +kernel
theorem dX10_undo_7 : decode cX10_undo 7 = .ok (.ifCond .gt 10, 3) := by decide +kernel
theorem dX10_undo_10 : decode cX10_undo 10 = .ok (.aload_n 0, 1) := by decide +kernel
theorem dX10_undo_11 : decode cX10_undo 11 = .ok (.bipush (-3), 2) := by decide +kernel
theorem dX10_undo_13 : decode cX10_undo 13 = .ok (.invokevirtual 91, 3) := by decide +kernel
theorem dX10_undo_16 : decode cX10_undo 16 = .ok (.ireturn, 1) := by decide +kernel
theorem dX10_undo_17 : decode cX10_undo 17 = .ok (.aload_n 0, 1) := by decide +kernel
theorem dX10_undo_18 : decode cX10_undo 18 = .ok (.getfield 18, 3) := by decide +kernel
theorem dX10_undo_21 : decode cX10_undo 21 = .ok (.dup, 1) := by decide +kernel
theorem dX10_undo_22 : decode cX10_undo 22 = .ok (.getfield 247, 3) := by decide +kernel
theorem dX10_undo_25 : decode cX10_undo 25 = .ok (.iconst 1, 1) := by decide +kernel
theorem dX10_undo_26 : decode cX10_undo 26 = .ok (.isub, 1) := by decide +kernel
theorem dX10_undo_27 : decode cX10_undo 27 = .ok (.putfield 247, 3) := by decide +kernel
theorem dX10_undo_30 : decode cX10_undo 30 = .ok (.aload_n 0, 1) := by decide +kernel
theorem dX10_undo_31 : decode cX10_undo 31 = .ok (.getfield 18, 3) := by decide +kernel
theorem dX10_undo_34 : decode cX10_undo 34 = .ok (.getfield 247, 3) := by decide +kernel
theorem dX10_undo_37 : decode cX10_undo 37 = .ok (.ireturn, 1) := by decide +kernel
theorem dX10_sofar_0 : decode cX10_sofar 0 = .ok (.iload_n 1, 1) := by decide +kernel
theorem dX10_sofar_1 : decode cX10_sofar 1 = .ok (.ifCond .lt 8, 3) := by decide +kernel
theorem dX10_sofar_4 : decode cX10_sofar 4 = .ok (.iload_n 1, 1) := by decide +kernel
theorem dX10_sofar_5 : decode cX10_sofar 5 = .ok (.iconst 2, 1) := by decide +kernel
theorem dX10_sofar_6 : decode cX10_sofar 6 = .ok (.if_icmp .le 10, 3) := by decide +kernel
theorem dX10_sofar_9 : decode cX10_sofar 9 = .ok (.aload_n 0, 1) := by decide +kernel
theorem dX10_sofar_10 : decode cX10_sofar 10 = .ok (.bipush (-2), 2) := by decide +kernel
theorem dX10_sofar_12 : decode cX10_sofar 12 = .ok (.invokevirtual 91, 3) := by decide +kernel
theorem dX10_sofar_15 : decode cX10_sofar 15 = .ok (.ireturn, 1) := by decide +kernel
theorem dX10_sofar_16 : decode cX10_sofar 16 = .ok (.iload_n 1, 1) := by decide +kernel
theorem dX10_sofar_17 : decode cX10_sofar 17 = .ok (.ifCond .ne 11, 3) := by decide +kernel
theorem dX10_sofar_20 : decode cX10_sofar 20 = .ok (.aload_n 0, 1) := by decide +kernel
theorem dX10_sofar_21 : decode cX10_sofar 21 = .ok (.getfield 18, 3) := by decide +kernel
theorem dX10_sofar_24 : decode cX10_sofar 24 = .ok (.getfield 247, 3) := by decide +kernel
theorem dX10_sofar_27 : decode cX10_sofar 27 = .ok (.ireturn, 1) := by decide +kernel
theorem dX10_sofar_28 : decode cX10_sofar 28 = .ok (.aload_n 0, 1) := by decide +kernel
theorem dX10_sofar_29 : decode cX10_sofar 29 = .ok (.aload_n 0, 1) := by decide +kernel
theorem dX10_sofar_30 : decode cX10_sofar 30 = .ok (.getfield 18, 3) := by decide +kernel
theorem dX10_sofar_33 : decode cX10_sofar 33 = .ok (.getfield 148, 3) := by decide +kernel
theorem dX10_sofar_36 : decode cX10_sofar 36 = .ok (.invokevirtual 151, 3) := by decide +kernel
theorem dX10_sofar_39 : decode cX10_sofar 39 = .ok (.iload_n 1, 1) := by decide +kernel
theorem dX10_sofar_40 : decode cX10_sofar 40 = .ok (.iconst 1, 1) := by decide +kernel
theorem dX10_sofar_41 : decode cX10_sofar 41 = .ok (.if_icmp .ne 20, 3) := by decide +kernel
theorem dX10_sofar_44 : decode cX10_sofar 44 = .ok (.aload_n 0, 1) := by decide +kernel
theorem dX10_sofar_45 : decode cX10_sofar 45 = .ok (.getfield 43, 3) := by decide +kernel
theorem dX10_sofar_48 : decode cX10_sofar 48 = .ok (.aload_n 0, 1) := by decide +kernel
theorem dX10_sofar_49 : decode cX10_sofar 49 = .ok (.getfield 18, 3) := by decide +kernel
theorem dX10_sofar_52 : decode cX10_sofar 52 = .ok (.getfield 247, 3) := by decide +kernel
theorem dX10_sofar_55 : decode cX10_sofar 55 = .ok (.invokevirtual 173, 3) := by decide +kernel
theorem dX10_sofar_58 : decode cX10_sofar 58 = .ok (.goto 17, 3) := by decide +kernel
theorem dX10_sofar_61 : decode cX10_sofar 61 = .ok (.aload_n 0, 1) := by decide +kernel
theorem dX10_sofar_62 : decode cX10_sofar 62 = .ok (.getfield 43, 3) := by decide +kernel
theorem dX10_sofar_65 : decode cX10_sofar 65 = .ok (.aload_n 0, 1) := by decide +kernel
theorem dX10_sofar_66 : decode cX10_sofar 66 = .ok (.getfield 18, 3) := by decide +kernel
theorem dX10_sofar_69 : decode cX10_sofar 69 = .ok (.getfield 247, 3) := by decide +kernel
theorem dX10_sofar_72 : decode cX10_sofar 72 = .ok (.invokevirtual 250, 3) := by decide +kernel
theorem dX10_sofar_75 : decode cX10_sofar 75 = .ok (.ireturn, 1) := by decide +kernel
theorem dX10_part_0 : decode cX10_part 0 = .ok (.iload_n 1, 1) := by decide +kernel
theorem dX10_part_1 : decode cX10_part 1 = .ok (.ifCond .lt 8, 3) := by decide +kernel
theorem dX10_part_4 : decode cX10_part 4 = .ok (.iload_n 1, 1) := by decide +kernel
theorem dX10_part_5 : decode cX10_part 5 = .ok (.iconst 1, 1) := by decide +kernel
theorem dX10_part_6 : decode cX10_part 6 = .ok (.if_icmp .le 11, 3) := by decide +kernel
theorem dX10_part_9 : decode cX10_part 9 = .ok (.aload_n 0, 1) := by decide +kernel
theorem dX10_part_10 : decode cX10_part 10 = .ok (.bipush (-2), 2) := by decide +kernel
theorem dX10_part_12 : decode cX10_part 12 = .ok (.invokevirtual 91, 3) := by decide +kernel
theorem dX10_part_15 : decode cX10_part 15 = .ok (.i2l, 1) := by decide +kernel
theorem dX10_part_16 : decode cX10_part 16 = .ok (.lreturn, 1) := by decide +kernel
theorem dX10_part_17 : decode cX10_part 17 = .ok (.iload_n 1, 1) := by decide +kernel
theorem dX10_part_18 : decode cX10_part 18 = .ok (.ifCond .ne 10, 3) := by decide +kernel
theorem dX10_part_21 : decode cX10_part 21 = .ok (.aload_n 0, 1) := by decide +kernel
theorem dX10_part_22 : decode cX10_part 22 = .ok (.getfield 64, 3) := by decide +kernel
theorem dX10_part_25 : decode cX10_part 25 = .ok (.goto 7, 3) := by decide +kernel
theorem dX10_part_28 : decode cX10_part 28 = .ok (.aload_n 0, 1) := by decide +kernel
theorem dX10_part_29 : decode cX10_part 29 = .ok (.getfield 68, 3) := by decide +kernel
theorem dX10_part_32 : decode cX10_part 32 = .ok (.lreturn, 1) := by decide +kernel
theorem dX10_image_0 : decode cX10_image 0 = .ok (.iload_n 1, 1) := by decide +kernel
theorem dX10_image_1 : decode cX10_image 1 = .ok (.ifCond .lt 8, 3) := by decide +kernel
theorem dX10_image_4 : decode cX10_image 4 = .ok (.iload_n 1, 1) := by decide +kernel
theorem dX10_image_5 : decode cX10_image 5 = .ok (.iconst 2, 1) := by decide +kernel
theorem dX10_image_6 : decode cX10_image 6 = .ok (.if_icmp .lt 10, 3) := by decide +kernel
theorem dX10_image_9 : decode cX10_image 9 = .ok (.aload_n 0, 1) := by decide +kernel
theorem dX10_image_10 : decode cX10_image 10 = .ok (.bipush (-2), 2) := by decide +kernel
theorem dX10_image_12 : decode cX10_image 12 = .ok (.invokevirtual 91, 3) := by decide +kernel
theorem dX10_image_15 : decode cX10_image 15 = .ok (.ireturn, 1) := by decide +kernel
theorem dX10_image_16 : decode cX10_image 16 = .ok (.aload_n 0, 1) := by decide +kernel
theorem dX10_image_17 : decode cX10_image 17 = .ok (.getfield 25, 3) := by decide +kernel
theorem dX10_image_20 : decode cX10_image 20 = .ok (.iload_n 1, 1) := by decide +kernel
theorem dX10_image_21 : decode cX10_image 21 = .ok (.aaload, 1) := by decide +kernel
theorem dX10_image_22 : decode cX10_image 22 = .ok (.aload_n 0, 1) := by decide +kernel
theorem dX10_image_23 : decode cX10_image 23 = .ok (.getfield 18, 3) := by decide +kernel
theorem dX10_image_26 : decode cX10_image 26 = .ok (.invokevirtual 131, 3) := by decide +kernel
theorem dX10_image_29 : decode cX10_image 29 = .ok (.aload_n 0, 1) := by decide +kernel
theorem dX10_image_30 : decode cX10_image 30 = .ok (.getfield 29, 3) := by decide +kernel
theorem dX10_image_33 : decode cX10_image 33 = .ok (.iload_n 1, 1) := by decide +kernel
theorem dX10_image_34 : decode cX10_image 34 = .ok (.iconst 1, 1) := by decide +kernel
theorem dX10_image_35 : decode cX10_image 35 = .ok (.bastore, 1) := by decide +kernel
theorem dX10_image_36 : decode cX10_image 36 = .ok (.iconst 1, 1) := by decide +kernel
theorem dX10_image_37 : decode cX10_image 37 = .ok (.ireturn, 1) := by decide +kernel
theorem dX10_from_0 : decode cX10_from 0 = .ok (.iload_n 1, 1) := by decide +kernel
theorem dX10_from_1 : decode cX10_from 1 = .ok (.ifCond .lt 8, 3) := by decide +kernel
theorem dX10_from_4 : decode cX10_from 4 = .ok (.iload_n 1, 1) := by decide +kernel
theorem dX10_from_5 : decode cX10_from 5 = .ok (.iconst 2, 1) := by decide +kernel
theorem dX10_from_6 : decode cX10_from 6 = .ok (.if_icmp .lt 10, 3) := by decide +kernel
theorem dX10_from_9 : decode cX10_from 9 = .ok (.aload_n 0, 1) := by decide +kernel
theorem dX10_from_10 : decode cX10_from 10 = .ok (.bipush (-2), 2) := by decide +kernel
theorem dX10_from_12 : decode cX10_from 12 = .ok (.invokevirtual 91, 3) := by decide +kernel
theorem dX10_from_15 : decode cX10_from 15 = .ok (.ireturn, 1) := by decide +kernel
theorem dX10_from_16 : decode cX10_from 16 = .ok (.aload_n 0, 1) := by decide +kernel
theorem dX10_from_17 : decode cX10_from 17 = .ok (.getfield 29, 3) := by decide +kernel
theorem dX10_from_20 : decode cX10_from 20 = .ok (.iload_n 1, 1) := by decide +kernel
theorem dX10_from_21 : decode cX10_from 21 = .ok (.baload, 1) := by decide +kernel
theorem dX10_from_22 : decode cX10_from 22 = .ok (.ifCond .ne 10, 3) := by decide +kernel
theorem dX10_from_25 : decode cX10_from 25 = .ok (.aload_n 0, 1) := by decide +kernel
theorem dX10_from_26 : decode cX10_from 26 = .ok (.bipush (-3), 2) := by decide +kernel
theorem dX10_from_28 : decode cX10_from 28 = .ok (.invokevirtual 91, 3) := by decide +kernel
theorem dX10_from_31 : decode cX10_from 31 = .ok (.ireturn, 1) := by decide +kernel
theorem dX10_from_32 : decode cX10_from 32 = .ok (.aload_n 0, 1) := by decide +kernel
theorem dX10_from_33 : decode cX10_from 33 = .ok (.getfield 18, 3) := by decide +kernel
theorem dX10_from_36 : decode cX10_from 36 = .ok (.aload_n 0, 1) := by decide +kernel
theorem dX10_from_37 : decode cX10_from 37 = .ok (.getfield 25, 3) := by decide +kernel
theorem dX10_from_40 : decode cX10_from 40 = .ok (.iload_n 1, 1) := by decide +kernel
theorem dX10_from_41 : decode cX10_from 41 = .ok (.aaload, 1) := by decide +kernel
theorem dX10_from_42 : decode cX10_from 42 = .ok (.invokevirtual 131, 3) := by decide +kernel
theorem dX10_from_45 : decode cX10_from 45 = .ok (.iconst 1, 1) := by decide +kernel
theorem dX10_from_46 : decode cX10_from 46 = .ok (.ireturn, 1) := by decide +kernel
theorem dX10_status_0 : decode cX10_status 0 = .ok (.iload_n 1, 1) := by decide +kernel
theorem dX10_status_1 : decode cX10_status 1 = .ok (.ifCond .lt 12, 3) := by decide +kernel
theorem dX10_status_4 : decode cX10_status 4 = .ok (.iload_n 1, 1) := by decide +kernel
theorem dX10_status_5 : decode cX10_status 5 = .ok (.aload_n 0, 1) := by decide +kernel
theorem dX10_status_6 : decode cX10_status 6 = .ok (.getfield 61, 3) := by decide +kernel
theorem dX10_status_9 : decode cX10_status 9 = .ok (.arraylength, 1) := by decide +kernel
theorem dX10_status_10 : decode cX10_status 10 = .ok (.if_icmp .lt 9, 3) := by decide +kernel
theorem dX10_status_13 : decode cX10_status 13 = .ok (.aload_n 0, 1) := by decide +kernel
theorem dX10_status_14 : decode cX10_status 14 = .ok (.iconst (-1), 1) := by decide +kernel
theorem dX10_status_15 : decode cX10_status 15 = .ok (.invokevirtual 111, 3) := by decide +kernel
theorem dX10_status_18 : decode cX10_status 18 = .ok (.ireturn, 1) := by decide +kernel
theorem dX10_status_19 : decode cX10_status 19 = .ok (.aload_n 0, 1) := by decide +kernel
theorem dX10_status_20 : decode cX10_status 20 = .ok (.getfield 61, 3) := by decide +kernel
theorem dX10_status_23 : decode cX10_status 23 = .ok (.iload_n 1, 1) := by decide +kernel
theorem dX10_status_24 : decode cX10_status 24 = .ok (.iaload, 1) := by decide +kernel
theorem dX10_status_25 : decode cX10_status 25 = .ok (.ireturn, 1) := by decide +kernel
theorem dX10_count_0 : decode cX10_count 0 = .ok (.aload_n 0, 1) := by decide +kernel
theorem dX10_count_1 : decode cX10_count 1 = .ok (.aload_n 0, 1) := by decide +kernel
theorem dX10_count_2 : decode cX10_count 2 = .ok (.iload_n 1, 1) := by decide +kernel
theorem dX10_count_3 : decode cX10_count 3 = .ok (.invokevirtual 253, 3) := by decide +kernel
theorem dX10_count_6 : decode cX10_count 6 = .ok (.invokevirtual 91, 3) := by decide +kernel
theorem dX10_count_9 : decode cX10_count 9 = .ok (.ireturn, 1) := by decide +kernel
theorem dX10_digest_0 : decode cX10_digest 0 = .ok (.ldc2_w 256, 3) := by decide +kernel
theorem dX10_digest_3 : decode cX10_digest 3 = .ok (.lstore_n 1, 1) := by decide +kernel
theorem dX10_digest_4 : decode cX10_digest 4 = .ok (.iconst 0, 1) := by decide +kernel
theorem dX10_digest_5 : decode cX10_digest 5 = .ok (.istore_n 3, 1) := by decide +kernel
theorem dX10_digest_6 : decode cX10_digest 6 = .ok (.iload_n 3, 1) := by decide +kernel
theorem dX10_digest_7 : decode cX10_digest 7 = .ok (.bipush 6, 2) := by decide +kernel
theorem dX10_digest_9 : decode cX10_digest 9 = .ok (.if_icmp .gt 22, 3) := by decide +kernel
theorem dX10_digest_12 : decode cX10_digest 12 = .ok (.ldc2_w 258, 3) := by decide +kernel
theorem dX10_digest_15 : decode cX10_digest 15 = .ok (.lload_n 1, 1) := by decide +kernel
theorem dX10_digest_16 : decode cX10_digest 16 = .ok (.lmul, 1) := by decide +kernel
theorem dX10_digest_17 : decode cX10_digest 17 = .ok (.aload_n 0, 1) := by decide +kernel
theorem dX10_digest_18 : decode cX10_digest 18 = .ok (.iload_n 3, 1) := by decide +kernel
theorem dX10_digest_19 : decode cX10_digest 19 = .ok (.invokevirtual 253, 3) := by decide +kernel
theorem dX10_digest_22 : decode cX10_digest 22 = .ok (.i2l, 1) := by decide +kernel
theorem dX10_digest_23 : decode cX10_digest 23 = .ok (.ladd, 1) := by decide +kernel
theorem dX10_digest_24 : decode cX10_digest 24 = .ok (.lstore_n 1, 1) := by decide +kernel
theorem dX10_digest_25 : decode cX10_digest 25 = .ok (.iinc 3 1, 3) := by decide +kernel
theorem dX10_digest_28 : decode cX10_digest 28 = .ok (.goto (-22), 3) := by decide +kernel
theorem dX10_digest_31 : decode cX10_digest 31 = .ok (.aload_n 0, 1) := by decide +kernel
theorem dX10_digest_32 : decode cX10_digest 32 = .ok (.getfield 18, 3) := by decide +kernel
theorem dX10_digest_35 : decode cX10_digest 35 = .ok (.lload_n 1, 1) := by decide +kernel
theorem dX10_digest_36 : decode cX10_digest 36 = .ok (.invokevirtual 260, 3) := by decide +kernel
theorem dX10_digest_39 : decode cX10_digest 39 = .ok (.lstore_n 1, 1) := by decide +kernel
theorem dX10_digest_40 : decode cX10_digest 40 = .ok (.aload_n 0, 1) := by decide +kernel
theorem dX10_digest_41 : decode cX10_digest 41 = .ok (.getfield 18, 3) := by decide +kernel
theorem dX10_digest_44 : decode cX10_digest 44 = .ok (.lload_n 1, 1) := by decide +kernel
theorem dX10_digest_45 : decode cX10_digest 45 = .ok (.invokevirtual 264, 3) := by decide +kernel
theorem dX10_digest_48 : decode cX10_digest 48 = .ok (.lstore_n 1, 1) := by decide +kernel
theorem dX10_digest_49 : decode cX10_digest 49 = .ok (.ldc2_w 258, 3) := by decide +kernel
theorem dX10_digest_52 : decode cX10_digest 52 = .ok (.lload_n 1, 1) := by decide +kernel
theorem dX10_digest_53 : decode cX10_digest 53 = .ok (.lmul, 1) := by decide +kernel
theorem dX10_digest_54 : decode cX10_digest 54 = .ok (.aload_n 0, 1) := by decide +kernel
theorem dX10_digest_55 : decode cX10_digest 55 = .ok (.getfield 64, 3) := by decide +kernel
theorem dX10_digest_58 : decode cX10_digest 58 = .ok (.ladd, 1) := by decide +kernel
theorem dX10_digest_59 : decode cX10_digest 59 = .ok (.lstore_n 1, 1) := by decide +kernel
theorem dX10_digest_60 : decode cX10_digest 60 = .ok (.ldc2_w 258, 3) := by decide +kernel
theorem dX10_digest_63 : decode cX10_digest 63 = .ok (.lload_n 1, 1) := by decide +kernel
theorem dX10_digest_64 : decode cX10_digest 64 = .ok (.lmul, 1) := by decide +kernel
theorem dX10_digest_65 : decode cX10_digest 65 = .ok (.aload_n 0, 1) := by decide +kernel
theorem dX10_digest_66 : decode cX10_digest 66 = .ok (.getfield 68, 3) := by decide +kernel
theorem dX10_digest_69 : decode cX10_digest 69 = .ok (.ladd, 1) := by decide +kernel
theorem dX10_digest_70 : decode cX10_digest 70 = .ok (.lreturn, 1) := by decide +kernel
theorem dX10_counted_0 : decode cX10_counted 0 = .ok (.iload_n 1, 1) := by decide +kernel
theorem dX10_counted_1 : decode cX10_counted 1 = .ok (.bipush (-2), 2) := by decide +kernel
theorem dX10_counted_3 : decode cX10_counted 3 = .ok (.if_icmp .gt 22, 3) := by decide +kernel
theorem dX10_counted_6 : decode cX10_counted 6 = .ok (.iload_n 1, 1) := by decide +kernel
theorem dX10_counted_7 : decode cX10_counted 7 = .ok (.bipush (-4), 2) := by decide +kernel
theorem dX10_counted_9 : decode cX10_counted 9 = .ok (.if_icmp .lt 16, 3) := by decide +kernel
theorem dX10_counted_12 : decode cX10_counted 12 = .ok (.aload_n 0, 1) := by decide +kernel
theorem dX10_counted_13 : decode cX10_counted 13 = .ok (.getfield 61, 3) := by decide +kernel
theorem dX10_counted_16 : decode cX10_counted 16 = .ok (.bipush (-2), 2) := by decide +kernel
theorem dX10_counted_18 : decode cX10_counted 18 = .ok (.iload_n 1, 1) := by decide +kernel
theorem dX10_counted_19 : decode cX10_counted 19 = .ok (.isub, 1) := by decide +kernel
theorem dX10_counted_20 : decode cX10_counted 20 = .ok (.dup2, 1) := by decide +kernel
theorem dX10_counted_21 : decode cX10_counted 21 = .ok (.iaload, 1) := by decide +kernel
theorem dX10_counted_22 : decode cX10_counted 22 = .ok (.iconst 1, 1) := by decide +kernel
theorem dX10_counted_23 : decode cX10_counted 23 = .ok (.iadd, 1) := by decide +kernel
theorem dX10_counted_24 : decode cX10_counted 24 = .ok (.iastore, 1) := by decide +kernel
theorem dX10_counted_25 : decode cX10_counted 25 = .ok (.iload_n 1, 1) := by decide +kernel
theorem dX10_counted_26 : decode cX10_counted 26 = .ok (.ireturn, 1) := by decide +kernel
theorem dX10_badAs_0 : decode cX10_badAs 0 = .ok (.aload_n 0, 1) := by decide +kernel
theorem dX10_badAs_1 : decode cX10_badAs 1 = .ok (.getfield 61, 3) := by decide +kernel
theorem dX10_badAs_4 : decode cX10_badAs 4 = .ok (.iconst 0, 1) := by decide +kernel
theorem dX10_badAs_5 : decode cX10_badAs 5 = .ok (.dup2, 1) := by decide +kernel
theorem dX10_badAs_6 : decode cX10_badAs 6 = .ok (.iaload, 1) := by decide +kernel
theorem dX10_badAs_7 : decode cX10_badAs 7 = .ok (.iconst 1, 1) := by decide +kernel
theorem dX10_badAs_8 : decode cX10_badAs 8 = .ok (.iadd, 1) := by decide +kernel
theorem dX10_badAs_9 : decode cX10_badAs 9 = .ok (.iastore, 1) := by decide +kernel
theorem dX10_badAs_10 : decode cX10_badAs 10 = .ok (.iload_n 1, 1) := by decide +kernel
theorem dX10_badAs_11 : decode cX10_badAs 11 = .ok (.ireturn, 1) := by decide +kernel
theorem dX10_countOf_0 : decode cX10_countOf 0 = .ok (.iload_n 1, 1) := by decide +kernel
theorem dX10_countOf_1 : decode cX10_countOf 1 = .ok (.iconst 5, 1) := by decide +kernel
theorem dX10_countOf_2 : decode cX10_countOf 2 = .ok (.if_icmp .ne 13, 3) := by decide +kernel
theorem dX10_countOf_5 : decode cX10_countOf 5 = .ok (.aload_n 0, 1) := by decide +kernel
theorem dX10_countOf_6 : decode cX10_countOf 6 = .ok (.getfield 36, 3) := by decide +kernel
theorem dX10_countOf_9 : decode cX10_countOf 9 = .ok (.getfield 123, 3) := by decide +kernel
theorem dX10_countOf_12 : decode cX10_countOf 12 = .ok (.goto 11, 3) := by decide +kernel
theorem dX10_countOf_15 : decode cX10_countOf 15 = .ok (.aload_n 0, 1) := by decide +kernel
theorem dX10_countOf_16 : decode cX10_countOf 16 = .ok (.getfield 18, 3) := by decide +kernel
theorem dX10_countOf_19 : decode cX10_countOf 19 = .ok (.iload_n 1, 1) := by decide +kernel
theorem dX10_countOf_20 : decode cX10_countOf 20 = .ok (.invokevirtual 267, 3) := by decide +kernel
theorem dX10_countOf_23 : decode cX10_countOf 23 = .ok (.ireturn, 1) := by decide +kernel
theorem dX10_isFact_0 : decode cX10_isFact 0 = .ok (.iload_n 0, 1) := by decide +kernel
theorem dX10_isFact_1 : decode cX10_isFact 1 = .ok (.ifCond .lt 13, 3) := by decide +kernel
theorem dX10_isFact_4 : decode cX10_isFact 4 = .ok (.iload_n 0, 1) := by decide +kernel
theorem dX10_isFact_5 : decode cX10_isFact 5 = .ok (.bipush 6, 2) := by decide +kernel
theorem dX10_isFact_7 : decode cX10_isFact 7 = .ok (.if_icmp .ge 7, 3) := by decide +kernel
theorem dX10_isFact_10 : decode cX10_isFact 10 = .ok (.iconst 1, 1) := by decide +kernel
theorem dX10_isFact_11 : decode cX10_isFact 11 = .ok (.goto 4, 3) := by decide +kernel
theorem dX10_isFact_14 : decode cX10_isFact 14 = .ok (.iconst 0, 1) := by decide +kernel
theorem dX10_isFact_15 : decode cX10_isFact 15 = .ok (.ireturn, 1) := by decide +kernel
theorem dX10_follow_0 : decode cX10_follow 0 = .ok (.aload_n 0, 1) := by decide +kernel
theorem dX10_follow_1 : decode cX10_follow 1 = .ok (.getfield 43, 3) := by decide +kernel
theorem dX10_follow_4 : decode cX10_follow 4 = .ok (.aload_n 0, 1) := by decide +kernel
theorem dX10_follow_5 : decode cX10_follow 5 = .ok (.getfield 18, 3) := by decide +kernel
theorem dX10_follow_8 : decode cX10_follow 8 = .ok (.aload_n 0, 1) := by decide +kernel
theorem dX10_follow_9 : decode cX10_follow 9 = .ok (.getfield 11, 3) := by decide +kernel
theorem dX10_follow_12 : decode cX10_follow 12 = .ok (.invokevirtual 270, 3) := by decide +kernel
theorem dX10_follow_15 : decode cX10_follow 15 = .ok (.aload_n 0, 1) := by decide +kernel
theorem dX10_follow_16 : decode cX10_follow 16 = .ok (.getfield 43, 3) := by decide +kernel
theorem dX10_follow_19 : decode cX10_follow 19 = .ok (.iload_n 1, 1) := by decide +kernel
theorem dX10_follow_20 : decode cX10_follow 20 = .ok (.invokevirtual 274, 3) := by decide +kernel
theorem dX10_follow_23 : decode cX10_follow 23 = .ok (.aload_n 0, 1) := by decide +kernel
theorem dX10_follow_24 : decode cX10_follow 24 = .ok (.getfield 43, 3) := by decide +kernel
theorem dX10_follow_27 : decode cX10_follow 27 = .ok (.invokevirtual 232, 3) := by decide +kernel
theorem dX10_follow_30 : decode cX10_follow 30 = .ok (.return_, 1) := by decide +kernel
theorem dX10_livesAsTold_0 : decode cX10_livesAsTold 0 = .ok (.aload_n 0, 1) := by decide +kernel
theorem dX10_livesAsTold_1 : decode cX10_livesAsTold 1 = .ok (.getfield 43, 3) := by decide +kernel
theorem dX10_livesAsTold_4 : decode cX10_livesAsTold 4 = .ok (.aload_n 0, 1) := by decide +kernel
theorem dX10_livesAsTold_5 : decode cX10_livesAsTold 5 = .ok (.getfield 18, 3) := by decide +kernel
theorem dX10_livesAsTold_8 : decode cX10_livesAsTold 8 = .ok (.invokevirtual 277, 3) := by decide +kernel
theorem dX10_livesAsTold_11 : decode cX10_livesAsTold 11 = .ok (.ifCond .ne 5, 3) := by decide +kernel
theorem dX10_livesAsTold_14 : decode cX10_livesAsTold 14 = .ok (.iconst 0, 1) := by decide +kernel
theorem dX10_livesAsTold_15 : decode cX10_livesAsTold 15 = .ok (.ireturn, 1) := by decide +kernel
theorem dX10_livesAsTold_16 : decode cX10_livesAsTold 16 = .ok (.aload_n 0, 1) := by decide +kernel
theorem dX10_livesAsTold_17 : decode cX10_livesAsTold 17 = .ok (.getfield 43, 3) := by decide +kernel
theorem dX10_livesAsTold_20 : decode cX10_livesAsTold 20 = .ok (.invokevirtual 232, 3) := by decide +kernel
theorem dX10_livesAsTold_23 : decode cX10_livesAsTold 23 = .ok (.iconst 1, 1) := by decide +kernel
theorem dX10_livesAsTold_24 : decode cX10_livesAsTold 24 = .ok (.ireturn, 1) := by decide +kernel
theorem dX10_hangsTogether_0 : decode cX10_hangsTogether 0 = .ok (.aload_n 0, 1) := by decide +kernel
theorem dX10_hangsTogether_1 : decode cX10_hangsTogether 1 = .ok (.invokevirtual 205, 3) := by decide +kernel
theorem dX10_hangsTogether_4 : decode cX10_hangsTogether 4 = .ok (.ifCond .eq 31, 3) := by decide +kernel
theorem dX10_hangsTogether_7 : decode cX10_hangsTogether 7 = .ok (.aload_n 0, 1) := by decide +kernel
theorem dX10_hangsTogether_8 : decode cX10_hangsTogether 8 = .ok (.getfield 43, 3) := by decide +kernel
theorem dX10_hangsTogether_11 : decode cX10_hangsTogether 11 = .ok (.aload_n 0, 1) := by decide +kernel
theorem dX10_hangsTogether_12 : decode cX10_hangsTogether 12 = .ok (.getfield 18, 3) := by decide +kernel
theorem dX10_hangsTogether_15 : decode cX10_hangsTogether 15 = .ok (.getfield 170, 3) := by decide +kernel
theorem dX10_hangsTogether_18 : decode cX10_hangsTogether 18 = .ok (.invokevirtual 173, 3) := by decide +kernel
theorem dX10_hangsTogether_21 : decode cX10_hangsTogether 21 = .ok (.aload_n 0, 1) := by decide +kernel
theorem dX10_hangsTogether_22 : decode cX10_hangsTogether 22 = .ok (.getfield 18, 3) := by decide +kernel
theorem dX10_hangsTogether_25 : decode cX10_hangsTogether 25 = .ok (.getfield 170, 3) := by decide +kernel
theorem dX10_hangsTogether_28 : decode cX10_hangsTogether 28 = .ok (.if_icmp .ne 7, 3) := by decide +kernel
theorem dX10_hangsTogether_31 : decode cX10_hangsTogether 31 = .ok (.iconst 1, 1) := by decide +kernel
theorem dX10_hangsTogether_32 : decode cX10_hangsTogether 32 = .ok (.goto 4, 3) := by decide +kernel
theorem dX10_hangsTogether_35 : decode cX10_hangsTogether 35 = .ok (.iconst 0, 1) := by decide +kernel
theorem dX10_hangsTogether_36 : decode cX10_hangsTogether 36 = .ok (.ireturn, 1) := by decide +kernel
theorem dX10_shareKnown_0 : decode cX10_shareKnown 0 = .ok (.aload_n 0, 1) := by decide +kernel
theorem dX10_shareKnown_1 : decode cX10_shareKnown 1 = .ok (.aload_n 0, 1) := by decide +kernel
theorem dX10_shareKnown_2 : decode cX10_shareKnown 2 = .ok (.getfield 18, 3) := by decide +kernel
theorem dX10_shareKnown_5 : decode cX10_shareKnown 5 = .ok (.getfield 148, 3) := by decide +kernel
theorem dX10_shareKnown_8 : decode cX10_shareKnown 8 = .ok (.invokevirtual 151, 3) := by decide +kernel
theorem dX10_shareKnown_11 : decode cX10_shareKnown 11 = .ok (.aload_n 0, 1) := by decide +kernel
theorem dX10_shareKnown_12 : decode cX10_shareKnown 12 = .ok (.getfield 43, 3) := by decide +kernel
theorem dX10_shareKnown_15 : decode cX10_shareKnown 15 = .ok (.getfield 158, 3) := by decide +kernel
theorem dX10_shareKnown_18 : decode cX10_shareKnown 18 = .ok (.iconst 0, 1) := by decide +kernel
theorem dX10_shareKnown_19 : decode cX10_shareKnown 19 = .ok (.aload_n 0, 1) := by decide +kernel
theorem dX10_shareKnown_20 : decode cX10_shareKnown 20 = .ok (.getfield 54, 3) := by decide +kernel
theorem dX10_shareKnown_23 : decode cX10_shareKnown 23 = .ok (.iconst 0, 1) := by decide +kernel
theorem dX10_shareKnown_24 : decode cX10_shareKnown 24 = .ok (.bipush 7, 2) := by decide +kernel
theorem dX10_shareKnown_26 : decode cX10_shareKnown 26 = .ok (.invokestatic 281, 3) := by decide +kernel
theorem dX10_shareKnown_29 : decode cX10_shareKnown 29 = .ok (.aload_n 0, 1) := by decide +kernel
theorem dX10_shareKnown_30 : decode cX10_shareKnown 30 = .ok (.aload_n 0, 1) := by decide +kernel
theorem dX10_shareKnown_31 : decode cX10_shareKnown 31 = .ok (.getfield 18, 3) := by decide +kernel
theorem dX10_shareKnown_34 : decode cX10_shareKnown 34 = .ok (.getfield 287, 3) := by decide +kernel
theorem dX10_shareKnown_37 : decode cX10_shareKnown 37 = .ok (.invokevirtual 151, 3) := by decide +kernel
theorem dX10_shareKnown_40 : decode cX10_shareKnown 40 = .ok (.iconst 0, 1) := by decide +kernel
theorem dX10_shareKnown_41 : decode cX10_shareKnown 41 = .ok (.istore_n 1, 1) := by decide +kernel
theorem dX10_shareKnown_42 : decode cX10_shareKnown 42 = .ok (.iload_n 1, 1) := by decide +kernel
theorem dX10_shareKnown_43 : decode cX10_shareKnown 43 = .ok (.aload_n 0, 1) := by decide +kernel
theorem dX10_shareKnown_44 : decode cX10_shareKnown 44 = .ok (.getfield 18, 3) := by decide +kernel
theorem dX10_shareKnown_47 : decode cX10_shareKnown 47 = .ok (.getfield 170, 3) := by decide +kernel
theorem dX10_shareKnown_50 : decode cX10_shareKnown 50 = .ok (.if_icmp .ge 27, 3) := by decide +kernel
theorem dX10_shareKnown_53 : decode cX10_shareKnown 53 = .ok (.aload_n 0, 1) := by decide +kernel
theorem dX10_shareKnown_54 : decode cX10_shareKnown 54 = .ok (.getfield 54, 3) := by decide +kernel
theorem dX10_shareKnown_57 : decode cX10_shareKnown 57 = .ok (.iload_n 1, 1) := by decide +kernel
theorem dX10_shareKnown_58 : decode cX10_shareKnown 58 = .ok (.dup2, 1) := by decide +kernel
theorem dX10_shareKnown_59 : decode cX10_shareKnown 59 = .ok (.iaload, 1) := by decide +kernel
theorem dX10_shareKnown_60 : decode cX10_shareKnown 60 = .ok (.aload_n 0, 1) := by decide +kernel
theorem dX10_shareKnown_61 : decode cX10_shareKnown 61 = .ok (.getfield 43, 3) := by decide +kernel
theorem dX10_shareKnown_64 : decode cX10_shareKnown 64 = .ok (.getfield 158, 3) := by decide +kernel
theorem dX10_shareKnown_67 : decode cX10_shareKnown 67 = .ok (.iload_n 1, 1) := by decide +kernel
theorem dX10_shareKnown_68 : decode cX10_shareKnown 68 = .ok (.iaload, 1) := by decide +kernel
theorem dX10_shareKnown_69 : decode cX10_shareKnown 69 = .ok (.iand, 1) := by decide +kernel
theorem dX10_shareKnown_70 : decode cX10_shareKnown 70 = .ok (.iastore, 1) := by decide +kernel
theorem dX10_shareKnown_71 : decode cX10_shareKnown 71 = .ok (.iinc 1 1, 3) := by decide +kernel
theorem dX10_shareKnown_74 : decode cX10_shareKnown 74 = .ok (.goto (-32), 3) := by decide +kernel
theorem dX10_shareKnown_77 : decode cX10_shareKnown 77 = .ok (.return_, 1) := by decide +kernel
theorem dX10_leadByNaming_0 : decode cX10_leadByNaming 0 = .ok (.aload_n 0, 1) := by decide +kernel
theorem dX10_leadByNaming_1 : decode cX10_leadByNaming 1 = .ok (.getfield 18, 3) := by decide +kernel
theorem dX10_leadByNaming_4 : decode cX10_leadByNaming 4 = .ok (.getfield 290, 3) := by decide +kernel
theorem dX10_leadByNaming_7 : decode cX10_leadByNaming 7 = .ok (.iload_n 2, 1) := by decide +kernel
theorem dX10_leadByNaming_8 : decode cX10_leadByNaming 8 = .ok (.iaload, 1) := by decide +kernel
theorem dX10_leadByNaming_9 : decode cX10_leadByNaming 9 = .ok (.aload_n 0, 1) := by decide +kernel
theorem dX10_leadByNaming_10 : decode cX10_leadByNaming 10 = .ok (.getfield 18, 3) := by decide +kernel
theorem dX10_leadByNaming_13 : decode cX10_leadByNaming 13 = .ok (.iload_n 1, 1) := by decide +kernel
theorem dX10_leadByNaming_14 : decode cX10_leadByNaming 14 = .ok (.invokevirtual 293, 3) := by decide +kernel
theorem dX10_leadByNaming_17 : decode cX10_leadByNaming 17 = .ok (.iconst (-1), 1) := by decide +kernel
theorem dX10_leadByNaming_18 : decode cX10_leadByNaming 18 = .ok (.ixor, 1) := by decide +kernel
theorem dX10_leadByNaming_19 : decode cX10_leadByNaming 19 = .ok (.iand, 1) := by decide +kernel
theorem dX10_leadByNaming_20 : decode cX10_leadByNaming 20 = .ok (.istore_n 3, 1) := by decide +kernel
theorem dX10_leadByNaming_21 : decode cX10_leadByNaming 21 = .ok (.iload_n 3, 1) := by decide +kernel
theorem dX10_leadByNaming_22 : decode cX10_leadByNaming 22 = .ok (.invokestatic 296, 3) := by decide +kernel
theorem dX10_leadByNaming_25 : decode cX10_leadByNaming 25 = .ok (.aload_n 0, 1) := by decide +kernel
theorem dX10_leadByNaming_26 : decode cX10_leadByNaming 26 = .ok (.getfield 58, 3) := by decide +kernel
theorem dX10_leadByNaming_29 : decode cX10_leadByNaming 29 = .ok (.iload_n 1, 1) := by decide +kernel
theorem dX10_leadByNaming_30 : decode cX10_leadByNaming 30 = .ok (.iconst 1, 1) := by decide +kernel
theorem dX10_leadByNaming_31 : decode cX10_leadByNaming 31 = .ok (.iload_n 2, 1) := by decide +kernel
theorem dX10_leadByNaming_32 : decode cX10_leadByNaming 32 = .ok (.ishl, 1) := by decide +kernel
theorem dX10_leadByNaming_33 : decode cX10_leadByNaming 33 = .ok (.ior, 1) := by decide +kernel
theorem dX10_leadByNaming_34 : decode cX10_leadByNaming 34 = .ok (.iaload, 1) := by decide +kernel
theorem dX10_leadByNaming_35 : decode cX10_leadByNaming 35 = .ok (.isub, 1) := by decide +kernel
theorem dX10_leadByNaming_36 : decode cX10_leadByNaming 36 = .ok (.ireturn, 1) := by decide +kernel
theorem dX10_bestNaming_0 : decode cX10_bestNaming 0 = .ok (.iconst 0, 1) := by decide +kernel
theorem dX10_bestNaming_1 : decode cX10_bestNaming 1 = .ok (.istore_n 2, 1) := by decide +kernel
theorem dX10_bestNaming_2 : decode cX10_bestNaming 2 = .ok (.bipush (-42), 2) := by decide +kernel
theorem dX10_bestNaming_4 : decode cX10_bestNaming 4 = .ok (.istore_n 3, 1) := by decide +kernel
theorem dX10_bestNaming_5 : decode cX10_bestNaming 5 = .ok (.iconst 0, 1) := by decide +kernel
theorem dX10_bestNaming_6 : decode cX10_bestNaming 6 = .ok (.istore 4, 2) := by decide +kernel
theorem dX10_bestNaming_8 : decode cX10_bestNaming 8 = .ok (.iload 4, 2) := by decide +kernel
theorem dX10_bestNaming_10 : decode cX10_bestNaming 10 = .ok (.aload_n 0, 1) := by decide +kernel
theorem dX10_bestNaming_11 : decode cX10_bestNaming 11 = .ok (.getfield 18, 3) := by decide +kernel
theorem dX10_bestNaming_14 : decode cX10_bestNaming 14 = .ok (.getfield 170, 3) := by decide +kernel
theorem dX10_bestNaming_17 : decode cX10_bestNaming 17 = .ok (.if_icmp .ge 39, 3) := by decide +kernel
theorem dX10_bestNaming_20 : decode cX10_bestNaming 20 = .ok (.iload_n 1, 1) := by decide +kernel
theorem dX10_bestNaming_21 : decode cX10_bestNaming 21 = .ok (.iload 4, 2) := by decide +kernel
theorem dX10_bestNaming_23 : decode cX10_bestNaming 23 = .ok (.ishr, 1) := by decide +kernel
theorem dX10_bestNaming_24 : decode cX10_bestNaming 24 = .ok (.iconst 1, 1) := by decide +kernel
theorem dX10_bestNaming_25 : decode cX10_bestNaming 25 = .ok (.iand, 1) := by decide +kernel
theorem dX10_bestNaming_26 : decode cX10_bestNaming 26 = .ok (.ifCond .ne 24, 3) := by decide +kernel
theorem dX10_bestNaming_29 : decode cX10_bestNaming 29 = .ok (.aload_n 0, 1) := by decide +kernel
theorem dX10_bestNaming_30 : decode cX10_bestNaming 30 = .ok (.iload_n 1, 1) := by decide +kernel
theorem dX10_bestNaming_31 : decode cX10_bestNaming 31 = .ok (.iload 4, 2) := by decide +kernel
theorem dX10_bestNaming_33 : decode cX10_bestNaming 33 = .ok (.invokevirtual 244, 3) := by decide +kernel
theorem dX10_bestNaming_36 : decode cX10_bestNaming 36 = .ok (.istore 5, 2) := by decide +kernel
theorem dX10_bestNaming_38 : decode cX10_bestNaming 38 = .ok (.iload 5, 2) := by decide +kernel
theorem dX10_bestNaming_40 : decode cX10_bestNaming 40 = .ok (.iload_n 3, 1) := by decide +kernel
theorem dX10_bestNaming_41 : decode cX10_bestNaming 41 = .ok (.if_icmp .le 9, 3) := by decide +kernel
theorem dX10_bestNaming_44 : decode cX10_bestNaming 44 = .ok (.iload 5, 2) := by decide +kernel
theorem dX10_bestNaming_46 : decode cX10_bestNaming 46 = .ok (.istore_n 3, 1) := by decide +kernel
theorem dX10_bestNaming_47 : decode cX10_bestNaming 47 = .ok (.iload 4, 2) := by decide +kernel
theorem dX10_bestNaming_49 : decode cX10_bestNaming 49 = .ok (.istore_n 2, 1) := by decide +kernel
theorem dX10_bestNaming_50 : decode cX10_bestNaming 50 = .ok (.iinc 4 1, 3) := by decide +kernel
theorem dX10_bestNaming_53 : decode cX10_bestNaming 53 = .ok (.goto (-45), 3) := by decide +kernel
theorem dX10_bestNaming_56 : decode cX10_bestNaming 56 = .ok (.iload_n 2, 1) := by decide +kernel
theorem dX10_bestNaming_57 : decode cX10_bestNaming 57 = .ok (.ireturn, 1) := by decide +kernel
theorem dX10_setFraction_0 : decode cX10_setFraction 0 = .ok (.lload_n 1, 1) := by decide +kernel
theorem dX10_setFraction_1 : decode cX10_setFraction 1 = .ok (.lload_n 3, 1) := by decide +kernel
theorem dX10_setFraction_2 : decode cX10_setFraction 2 = .ok (.invokestatic 301, 3) := by decide +kernel
theorem dX10_setFraction_5 : decode cX10_setFraction 5 = .ok (.lstore 5, 2) := by decide +kernel
theorem dX10_setFraction_7 : decode cX10_setFraction 7 = .ok (.lload 5, 2) := by decide +kernel
theorem dX10_setFraction_9 : decode cX10_setFraction 9 = .ok (.lconst 0, 1) := by decide +kernel
theorem dX10_setFraction_10 : decode cX10_setFraction 10 = .ok (.lcmp, 1) := by decide +kernel
theorem dX10_setFraction_11 : decode cX10_setFraction 11 = .ok (.ifCond .le 19, 3) := by decide +kernel
theorem dX10_setFraction_14 : decode cX10_setFraction 14 = .ok (.aload_n 0, 1) := by decide +kernel
theorem dX10_setFraction_15 : decode cX10_setFraction 15 = .ok (.lload_n 1, 1) := by decide +kernel
theorem dX10_setFraction_16 : decode cX10_setFraction 16 = .ok (.lload 5, 2) := by decide +kernel
theorem dX10_setFraction_18 : decode cX10_setFraction 18 = .ok (.ldiv, 1) := by decide +kernel
theorem dX10_setFraction_19 : decode cX10_setFraction 19 = .ok (.putfield 64, 3) := by decide +kernel
theorem dX10_setFraction_22 : decode cX10_setFraction 22 = .ok (.aload_n 0, 1) := by decide +kernel
theorem dX10_setFraction_23 : decode cX10_setFraction 23 = .ok (.lload_n 3, 1) := by decide +kernel
theorem dX10_setFraction_24 : decode cX10_setFraction 24 = .ok (.lload 5, 2) := by decide +kernel
theorem dX10_setFraction_26 : decode cX10_setFraction 26 = .ok (.ldiv, 1) := by decide +kernel
theorem dX10_setFraction_27 : decode cX10_setFraction 27 = .ok (.putfield 68, 3) := by decide +kernel
theorem dX10_setFraction_30 : decode cX10_setFraction 30 = .ok (.return_, 1) := by decide +kernel
theorem dX10_commonDivisor_0 : decode cX10_commonDivisor 0 = .ok (.lload_n 0, 1) := by decide +kernel
theorem dX10_commonDivisor_1 : decode cX10_commonDivisor 1 = .ok (.lstore 4, 2) := by decide +kernel
theorem dX10_commonDivisor_3 : decode cX10_commonDivisor 3 = .ok (.lload_n 2, 1) := by decide +kernel
theorem dX10_commonDivisor_4 : decode cX10_commonDivisor 4 = .ok (.lstore 6, 2) := by decide +kernel
theorem dX10_commonDivisor_6 : decode cX10_commonDivisor 6 = .ok (.iconst 0, 1) := by decide +kernel
theorem dX10_commonDivisor_7 : decode cX10_commonDivisor 7 = .ok (.istore 8, 2) := by decide +kernel
theorem dX10_commonDivisor_9 : decode cX10_commonDivisor 9 = .ok (.iload 8, 2) := by decide +kernel
theorem dX10_commonDivisor_11 : decode cX10_commonDivisor 11 = .ok (.bipush 100, 2) := by decide +kernel
theorem dX10_commonDivisor_13 : decode cX10_commonDivisor 13 = .ok (.if_icmp .ge 31, 3) := by decide +kernel
theorem dX10_commonDivisor_16 : decode cX10_commonDivisor 16 = .ok (.lload 6, 2) := by decide +kernel
theorem dX10_commonDivisor_18 : decode cX10_commonDivisor 18 = .ok (.lconst 0, 1) := by decide +kernel
theorem dX10_commonDivisor_19 : decode cX10_commonDivisor 19 = .ok (.lcmp, 1) := by decide +kernel
theorem dX10_commonDivisor_20 : decode cX10_commonDivisor 20 = .ok (.ifCond .eq 24, 3) := by decide +kernel
theorem dX10_commonDivisor_23 : decode cX10_commonDivisor 23 = .ok (.lload 4, 2) := by decide +kernel
theorem dX10_commonDivisor_25 : decode cX10_commonDivisor 25 = .ok (.lload 6, 2) := by decide +kernel
theorem dX10_commonDivisor_27 : decode cX10_commonDivisor 27 = .ok (.lrem, 1) := by decide +kernel
theorem dX10_commonDivisor_28 : decode cX10_commonDivisor 28 = .ok (.lstore 9, 2) := by decide +kernel
theorem dX10_commonDivisor_30 : decode cX10_commonDivisor 30 = .ok (.lload 6, 2) := by decide +kernel
theorem dX10_commonDivisor_32 : decode cX10_commonDivisor 32 = .ok (.lstore 4, 2) := by decide +kernel
theorem dX10_commonDivisor_34 : decode cX10_commonDivisor 34 = .ok (.lload 9, 2) := by decide +kernel
theorem dX10_commonDivisor_36 : decode cX10_commonDivisor 36 = .ok (.lstore 6, 2) := by decide +kernel
theorem dX10_commonDivisor_38 : decode cX10_commonDivisor 38 = .ok (.iinc 8 1, 3) := by decide +kernel
theorem dX10_commonDivisor_41 : decode cX10_commonDivisor 41 = .ok (.goto (-32), 3) := by decide +kernel
theorem dX10_commonDivisor_44 : decode cX10_commonDivisor 44 = .ok (.lload 4, 2) := by decide +kernel
theorem dX10_commonDivisor_46 : decode cX10_commonDivisor 46 = .ok (.lreturn, 1) := by decide +kernel
theorem dJ6_bitCount_0f7a4_0 : decode cJ6_bitCount_0f7a4 0 = .ok (.iload_n 0, 1) := by decide +kernel
theorem dJ6_bitCount_0f7a4_1 : decode cJ6_bitCount_0f7a4 1 = .ok (.iload_n 0, 1) := by decide +kernel
theorem dJ6_bitCount_0f7a4_2 : decode cJ6_bitCount_0f7a4 2 = .ok (.iconst 1, 1) := by decide +kernel
theorem dJ6_bitCount_0f7a4_3 : decode cJ6_bitCount_0f7a4 3 = .ok (.iushr, 1) := by decide +kernel
theorem dJ6_bitCount_0f7a4_4 : decode cJ6_bitCount_0f7a4 4 = .ok (.ldc_w 265, 3) := by decide +kernel
theorem dJ6_bitCount_0f7a4_7 : decode cJ6_bitCount_0f7a4 7 = .ok (.iand, 1) := by decide +kernel
theorem dJ6_bitCount_0f7a4_8 : decode cJ6_bitCount_0f7a4 8 = .ok (.isub, 1) := by decide +kernel
theorem dJ6_bitCount_0f7a4_9 : decode cJ6_bitCount_0f7a4 9 = .ok (.istore_n 0, 1) := by decide +kernel
theorem dJ6_bitCount_0f7a4_10 : decode cJ6_bitCount_0f7a4 10 = .ok (.iload_n 0, 1) := by decide +kernel
theorem dJ6_bitCount_0f7a4_11 : decode cJ6_bitCount_0f7a4 11 = .ok (.ldc_w 266, 3) := by decide +kernel
theorem dJ6_bitCount_0f7a4_14 : decode cJ6_bitCount_0f7a4 14 = .ok (.iand, 1) := by decide +kernel
theorem dJ6_bitCount_0f7a4_15 : decode cJ6_bitCount_0f7a4 15 = .ok (.iload_n 0, 1) := by decide +kernel
theorem dJ6_bitCount_0f7a4_16 : decode cJ6_bitCount_0f7a4 16 = .ok (.iconst 2, 1) := by decide +kernel
theorem dJ6_bitCount_0f7a4_17 : decode cJ6_bitCount_0f7a4 17 = .ok (.iushr, 1) := by decide +kernel
theorem dJ6_bitCount_0f7a4_18 : decode cJ6_bitCount_0f7a4 18 = .ok (.ldc_w 266, 3) := by decide +kernel
theorem dJ6_bitCount_0f7a4_21 : decode cJ6_bitCount_0f7a4 21 = .ok (.iand, 1) := by decide +kernel
theorem dJ6_bitCount_0f7a4_22 : decode cJ6_bitCount_0f7a4 22 = .ok (.iadd, 1) := by decide +kernel
theorem dJ6_bitCount_0f7a4_23 : decode cJ6_bitCount_0f7a4 23 = .ok (.istore_n 0, 1) := by decide +kernel
theorem dJ6_bitCount_0f7a4_24 : decode cJ6_bitCount_0f7a4 24 = .ok (.iload_n 0, 1) := by decide +kernel
theorem dJ6_bitCount_0f7a4_25 : decode cJ6_bitCount_0f7a4 25 = .ok (.iload_n 0, 1) := by decide +kernel
theorem dJ6_bitCount_0f7a4_26 : decode cJ6_bitCount_0f7a4 26 = .ok (.iconst 4, 1) := by decide +kernel
theorem dJ6_bitCount_0f7a4_27 : decode cJ6_bitCount_0f7a4 27 = .ok (.iushr, 1) := by decide +kernel
theorem dJ6_bitCount_0f7a4_28 : decode cJ6_bitCount_0f7a4 28 = .ok (.iadd, 1) := by decide +kernel
theorem dJ6_bitCount_0f7a4_29 : decode cJ6_bitCount_0f7a4 29 = .ok (.ldc_w 267, 3) := by decide +kernel
theorem dJ6_bitCount_0f7a4_32 : decode cJ6_bitCount_0f7a4 32 = .ok (.iand, 1) := by decide +kernel
theorem dJ6_bitCount_0f7a4_33 : decode cJ6_bitCount_0f7a4 33 = .ok (.istore_n 0, 1) := by decide +kernel
theorem dJ6_bitCount_0f7a4_34 : decode cJ6_bitCount_0f7a4 34 = .ok (.iload_n 0, 1) := by decide +kernel
theorem dJ6_bitCount_0f7a4_35 : decode cJ6_bitCount_0f7a4 35 = .ok (.iload_n 0, 1) := by decide +kernel
theorem dJ6_bitCount_0f7a4_36 : decode cJ6_bitCount_0f7a4 36 = .ok (.bipush 8, 2) := by decide +kernel
theorem dJ6_bitCount_0f7a4_38 : decode cJ6_bitCount_0f7a4 38 = .ok (.iushr, 1) := by decide +kernel
theorem dJ6_bitCount_0f7a4_39 : decode cJ6_bitCount_0f7a4 39 = .ok (.iadd, 1) := by decide +kernel
theorem dJ6_bitCount_0f7a4_40 : decode cJ6_bitCount_0f7a4 40 = .ok (.istore_n 0, 1) := by decide +kernel
theorem dJ6_bitCount_0f7a4_41 : decode cJ6_bitCount_0f7a4 41 = .ok (.iload_n 0, 1) := by decide +kernel
theorem dJ6_bitCount_0f7a4_42 : decode cJ6_bitCount_0f7a4 42 = .ok (.iload_n 0, 1) := by decide +kernel
theorem dJ6_bitCount_0f7a4_43 : decode cJ6_bitCount_0f7a4 43 = .ok (.bipush 16, 2) := by decide +kernel
theorem dJ6_bitCount_0f7a4_45 : decode cJ6_bitCount_0f7a4 45 = .ok (.iushr, 1) := by decide +kernel
theorem dJ6_bitCount_0f7a4_46 : decode cJ6_bitCount_0f7a4 46 = .ok (.iadd, 1) := by decide +kernel
theorem dJ6_bitCount_0f7a4_47 : decode cJ6_bitCount_0f7a4 47 = .ok (.istore_n 0, 1) := by decide +kernel
theorem dJ6_bitCount_0f7a4_48 : decode cJ6_bitCount_0f7a4 48 = .ok (.iload_n 0, 1) := by decide +kernel
theorem dJ6_bitCount_0f7a4_49 : decode cJ6_bitCount_0f7a4 49 = .ok (.bipush 63, 2) := by decide +kernel
theorem dJ6_bitCount_0f7a4_51 : decode cJ6_bitCount_0f7a4 51 = .ok (.iand, 1) := by decide +kernel
theorem dJ6_bitCount_0f7a4_52 : decode cJ6_bitCount_0f7a4 52 = .ok (.ireturn, 1) := by decide +kernel
theorem dJ0_length_8abf5_0 : decode cJ0_length_8abf5 0 = .ok (.aload_n 0, 1) := by decide +kernel
theorem dJ0_length_8abf5_1 : decode cJ0_length_8abf5 1 = .ok (.getfield 9, 3) := by decide +kernel
theorem dJ0_length_8abf5_4 : decode cJ0_length_8abf5 4 = .ok (.arraylength, 1) := by decide +kernel
theorem dJ0_length_8abf5_5 : decode cJ0_length_8abf5 5 = .ok (.aload_n 0, 1) := by decide +kernel
theorem dJ0_length_8abf5_6 : decode cJ0_length_8abf5 6 = .ok (.invokevirtual 335, 3) := by decide +kernel
theorem dJ0_length_8abf5_9 : decode cJ0_length_8abf5 9 = .ok (.ishr, 1) := by decide +kernel
theorem dJ0_length_8abf5_10 : decode cJ0_length_8abf5 10 = .ok (.ireturn, 1) := by decide +kernel
theorem dJ0_charAt_5068e_0 : decode cJ0_charAt_5068e 0 = .ok (.aload_n 0, 1) := by decide +kernel
theorem dJ0_charAt_5068e_1 : decode cJ0_charAt_5068e 1 = .ok (.invokevirtual 492, 3) := by decide +kernel
theorem dJ0_charAt_5068e_4 : decode cJ0_charAt_5068e 4 = .ok (.ifCond .eq 12, 3) := by decide +kernel
theorem dJ0_charAt_5068e_7 : decode cJ0_charAt_5068e 7 = .ok (.aload_n 0, 1) := by decide +kernel
theorem dJ0_charAt_5068e_8 : decode cJ0_charAt_5068e 8 = .ok (.getfield 9, 3) := by decide +kernel
theorem dJ0_charAt_5068e_11 : decode cJ0_charAt_5068e 11 = .ok (.iload_n 1, 1) := by decide +kernel
theorem dJ0_charAt_5068e_12 : decode cJ0_charAt_5068e 12 = .ok (.invokestatic 495, 3) := by decide +kernel
theorem dJ0_charAt_5068e_15 : decode cJ0_charAt_5068e 15 = .ok (.ireturn, 1) := by decide +kernel
theorem dJ0_charAt_5068e_16 : decode cJ0_charAt_5068e 16 = .ok (.aload_n 0, 1) := by decide +kernel
theorem dJ0_charAt_5068e_17 : decode cJ0_charAt_5068e 17 = .ok (.getfield 9, 3) := by decide +kernel
theorem dJ0_charAt_5068e_20 : decode cJ0_charAt_5068e 20 = .ok (.iload_n 1, 1) := by decide +kernel
theorem dJ0_charAt_5068e_21 : decode cJ0_charAt_5068e 21 = .ok (.invokestatic 498, 3) := by decide +kernel
theorem dJ0_charAt_5068e_24 : decode cJ0_charAt_5068e 24 = .ok (.ireturn, 1) := by decide +kernel
theorem dJ0_coder_7d493_0 : decode cJ0_coder_7d493 0 = .ok (.getstatic 38, 3) := by decide +kernel
theorem dJ0_coder_7d493_3 : decode cJ0_coder_7d493 3 = .ok (.ifCond .eq 10, 3) := by decide +kernel
theorem dJ0_coder_7d493_6 : decode cJ0_coder_7d493 6 = .ok (.aload_n 0, 1) := by decide +kernel
theorem dJ0_coder_7d493_7 : decode cJ0_coder_7d493 7 = .ok (.getfield 15, 3) := by decide +kernel
theorem dJ0_coder_7d493_10 : decode cJ0_coder_7d493 10 = .ok (.goto 4, 3) := by decide +kernel
theorem dJ0_coder_7d493_13 : decode cJ0_coder_7d493 13 = .ok (.iconst 1, 1) := by decide +kernel
theorem dJ0_coder_7d493_14 : decode cJ0_coder_7d493 14 = .ok (.ireturn, 1) := by decide +kernel
theorem dJ0_isLatin1_aae02_0 : decode cJ0_isLatin1_aae02 0 = .ok (.getstatic 38, 3) := by decide +kernel
theorem dJ0_isLatin1_aae02_3 : decode cJ0_isLatin1_aae02 3 = .ok (.ifCond .eq 14, 3) := by decide +kernel
theorem dJ0_isLatin1_aae02_6 : decode cJ0_isLatin1_aae02 6 = .ok (.aload_n 0, 1) := by decide +kernel
theorem dJ0_isLatin1_aae02_7 : decode cJ0_isLatin1_aae02 7 = .ok (.getfield 15, 3) := by decide +kernel
theorem dJ0_isLatin1_aae02_10 : decode cJ0_isLatin1_aae02 10 = .ok (.ifCond .ne 7, 3) := by decide +kernel
theorem dJ0_isLatin1_aae02_13 : decode cJ0_isLatin1_aae02 13 = .ok (.iconst 1, 1) := by decide +kernel
theorem dJ0_isLatin1_aae02_14 : decode cJ0_isLatin1_aae02 14 = .ok (.goto 4, 3) := by decide +kernel
theorem dJ0_isLatin1_aae02_17 : decode cJ0_isLatin1_aae02 17 = .ok (.iconst 0, 1) := by decide +kernel
theorem dJ0_isLatin1_aae02_18 : decode cJ0_isLatin1_aae02 18 = .ok (.ireturn, 1) := by decide +kernel
theorem dJ0_checkIndex_df160_0 : decode cJ0_checkIndex_df160 0 = .ok (.iload_n 0, 1) := by decide +kernel
theorem dJ0_checkIndex_df160_1 : decode cJ0_checkIndex_df160 1 = .ok (.iload_n 1, 1) := by decide +kernel
theorem dJ0_checkIndex_df160_2 : decode cJ0_checkIndex_df160 2 = .ok (.getstatic 1053, 3) := by decide +kernel
theorem dJ0_checkIndex_df160_5 : decode cJ0_checkIndex_df160 5 = .ok (.invokestatic 1059, 3) := by decide +kernel
theorem dJ0_checkIndex_df160_8 : decode cJ0_checkIndex_df160 8 = .ok (.pop, 1) := by decide +kernel
theorem dJ0_checkIndex_df160_9 : decode cJ0_checkIndex_df160 9 = .ok (.return_, 1) := by decide +kernel
theorem dJ1_charAt_3b067_0 : decode cJ1_charAt_3b067 0 = .ok (.iload_n 1, 1) := by decide +kernel
theorem dJ1_charAt_3b067_1 : decode cJ1_charAt_3b067 1 = .ok (.aload_n 0, 1) := by decide +kernel
theorem dJ1_charAt_3b067_2 : decode cJ1_charAt_3b067 2 = .ok (.arraylength, 1) := by decide +kernel
theorem dJ1_charAt_3b067_3 : decode cJ1_charAt_3b067 3 = .ok (.invokestatic 9, 3) := by decide +kernel
theorem dJ1_charAt_3b067_6 : decode cJ1_charAt_3b067 6 = .ok (.aload_n 0, 1) := by decide +kernel
theorem dJ1_charAt_3b067_7 : decode cJ1_charAt_3b067 7 = .ok (.iload_n 1, 1) := by decide +kernel
theorem dJ1_charAt_3b067_8 : decode cJ1_charAt_3b067 8 = .ok (.baload, 1) := by decide +kernel
theorem dJ1_charAt_3b067_9 : decode cJ1_charAt_3b067 9 = .ok (.sipush 255, 3) := by decide +kernel
theorem dJ1_charAt_3b067_12 : decode cJ1_charAt_3b067 12 = .ok (.iand, 1) := by decide +kernel
theorem dJ1_charAt_3b067_13 : decode cJ1_charAt_3b067 13 = .ok (.i2c, 1) := by decide +kernel
theorem dJ1_charAt_3b067_14 : decode cJ1_charAt_3b067 14 = .ok (.ireturn, 1) := by decide +kernel
theorem dJ2_getChar_3b067_0 : decode cJ2_getChar_3b067 0 = .ok (.getstatic 44, 3) := by decide +kernel
theorem dJ2_getChar_3b067_3 : decode cJ2_getChar_3b067 3 = .ok (.ifCond .ne 25, 3) := by decide +kernel
theorem dJ2_getChar_3b067_6 : decode cJ2_getChar_3b067 6 = .ok (.iload_n 1, 1) := by decide +kernel
theorem dJ2_getChar_3b067_7 : decode cJ2_getChar_3b067 7 = .ok (.ifCond .lt 11, 3) := by decide +kernel
theorem dJ2_getChar_3b067_10 : decode cJ2_getChar_3b067 10 = .ok (.iload_n 1, 1) := by decide +kernel
theorem dJ2_getChar_3b067_11 : decode cJ2_getChar_3b067 11 = .ok (.aload_n 0, 1) := by decide +kernel
theorem dJ2_getChar_3b067_12 : decode cJ2_getChar_3b067 12 = .ok (.invokestatic 48, 3) := by decide +kernel
theorem dJ2_getChar_3b067_15 : decode cJ2_getChar_3b067 15 = .ok (.if_icmp .lt 13, 3) := by decide +kernel
theorem dJ2_getChar_3b067_18 : decode cJ2_getChar_3b067 18 = .ok (.new 52, 3) := by decide +kernel
theorem dJ2_getChar_3b067_21 : decode cJ2_getChar_3b067 21 = .ok (.dup, 1) := by decide +kernel
theorem dJ2_getChar_3b067_22 : decode cJ2_getChar_3b067 22 = .ok (.ldc 54, 2) := by decide +kernel
theorem dJ2_getChar_3b067_24 : decode cJ2_getChar_3b067 24 = .ok (.invokespecial 56, 3) := by decide +kernel
theorem dJ2_getChar_3b067_27 : decode cJ2_getChar_3b067 27 = .ok (.athrow, 1) := by decide +kernel
theorem dJ2_getChar_3b067_28 : decode cJ2_getChar_3b067 28 = .ok (.iload_n 1, 1) := by decide +kernel
theorem dJ2_getChar_3b067_29 : decode cJ2_getChar_3b067 29 = .ok (.iconst 1, 1) := by decide +kernel
theorem dJ2_getChar_3b067_30 : decode cJ2_getChar_3b067 30 = .ok (.ishl, 1) := by decide +kernel
theorem dJ2_getChar_3b067_31 : decode cJ2_getChar_3b067 31 = .ok (.istore_n 1, 1) := by decide +kernel
theorem dJ2_getChar_3b067_32 : decode cJ2_getChar_3b067 32 = .ok (.aload_n 0, 1) := by decide +kernel
theorem dJ2_getChar_3b067_33 : decode cJ2_getChar_3b067 33 = .ok (.iload_n 1, 1) := by decide +kernel
theorem dJ2_getChar_3b067_34 : decode cJ2_getChar_3b067 34 = .ok (.iinc 1 1, 3) := by decide +kernel
theorem dJ2_getChar_3b067_37 : decode cJ2_getChar_3b067 37 = .ok (.baload, 1) := by decide +kernel
theorem dJ2_getChar_3b067_38 : decode cJ2_getChar_3b067 38 = .ok (.sipush 255, 3) := by decide +kernel
theorem dJ2_getChar_3b067_41 : decode cJ2_getChar_3b067 41 = .ok (.iand, 1) := by decide +kernel
theorem dJ2_getChar_3b067_42 : decode cJ2_getChar_3b067 42 = .ok (.getstatic 59, 3) := by decide +kernel
theorem dJ2_getChar_3b067_45 : decode cJ2_getChar_3b067 45 = .ok (.ishl, 1) := by decide +kernel
theorem dJ2_getChar_3b067_46 : decode cJ2_getChar_3b067 46 = .ok (.aload_n 0, 1) := by decide +kernel
theorem dJ2_getChar_3b067_47 : decode cJ2_getChar_3b067 47 = .ok (.iload_n 1, 1) := by decide +kernel
theorem dJ2_getChar_3b067_48 : decode cJ2_getChar_3b067 48 = .ok (.baload, 1) := by decide +kernel
theorem dJ2_getChar_3b067_49 : decode cJ2_getChar_3b067 49 = .ok (.sipush 255, 3) := by decide +kernel
theorem dJ2_getChar_3b067_52 : decode cJ2_getChar_3b067 52 = .ok (.iand, 1) := by decide +kernel
theorem dJ2_getChar_3b067_53 : decode cJ2_getChar_3b067 53 = .ok (.getstatic 63, 3) := by decide +kernel
theorem dJ2_getChar_3b067_56 : decode cJ2_getChar_3b067 56 = .ok (.ishl, 1) := by decide +kernel
theorem dJ2_getChar_3b067_57 : decode cJ2_getChar_3b067 57 = .ok (.ior, 1) := by decide +kernel
theorem dJ2_getChar_3b067_58 : decode cJ2_getChar_3b067 58 = .ok (.i2c, 1) := by decide +kernel
theorem dJ2_getChar_3b067_59 : decode cJ2_getChar_3b067 59 = .ok (.ireturn, 1) := by decide +kernel
theorem dJ2_length_9d52b_0 : decode cJ2_length_9d52b 0 = .ok (.aload_n 0, 1) := by decide +kernel
theorem dJ2_length_9d52b_1 : decode cJ2_length_9d52b 1 = .ok (.arraylength, 1) := by decide +kernel
theorem dJ2_length_9d52b_2 : decode cJ2_length_9d52b 2 = .ok (.iconst 1, 1) := by decide +kernel
theorem dJ2_length_9d52b_3 : decode cJ2_length_9d52b 3 = .ok (.ishr, 1) := by decide +kernel
theorem dJ2_length_9d52b_4 : decode cJ2_length_9d52b 4 = .ok (.ireturn, 1) := by decide +kernel
theorem dJ2_charAt_3b067_0 : decode cJ2_charAt_3b067 0 = .ok (.iload_n 1, 1) := by decide +kernel
theorem dJ2_charAt_3b067_1 : decode cJ2_charAt_3b067 1 = .ok (.aload_n 0, 1) := by decide +kernel
theorem dJ2_charAt_3b067_2 : decode cJ2_charAt_3b067 2 = .ok (.invokestatic 67, 3) := by decide +kernel
theorem dJ2_charAt_3b067_5 : decode cJ2_charAt_3b067 5 = .ok (.aload_n 0, 1) := by decide +kernel
theorem dJ2_charAt_3b067_6 : decode cJ2_charAt_3b067 6 = .ok (.iload_n 1, 1) := by decide +kernel
theorem dJ2_charAt_3b067_7 : decode cJ2_charAt_3b067 7 = .ok (.invokestatic 71, 3) := by decide +kernel
theorem dJ2_charAt_3b067_10 : decode cJ2_charAt_3b067 10 = .ok (.ireturn, 1) := by decide +kernel
theorem dJ2_checkIndex_2214a_0 : decode cJ2_checkIndex_2214a 0 = .ok (.iload_n 0, 1) := by decide +kernel
theorem dJ2_checkIndex_2214a_1 : decode cJ2_checkIndex_2214a 1 = .ok (.aload_n 1, 1) := by decide +kernel
theorem dJ2_checkIndex_2214a_2 : decode cJ2_checkIndex_2214a 2 = .ok (.invokestatic 48, 3) := by decide +kernel
theorem dJ2_checkIndex_2214a_5 : decode cJ2_checkIndex_2214a 5 = .ok (.invokestatic 414, 3) := by decide +kernel
theorem dJ2_checkIndex_2214a_8 : decode cJ2_checkIndex_2214a 8 = .ok (.return_, 1) := by decide +kernel
theorem dJ3_checkIndex_8e157_0 : decode cJ3_checkIndex_8e157 0 = .ok (.iload_n 0, 1) := by decide +kernel
theorem dJ3_checkIndex_8e157_1 : decode cJ3_checkIndex_8e157 1 = .ok (.ifCond .lt 8, 3) := by decide +kernel
theorem dJ3_checkIndex_8e157_4 : decode cJ3_checkIndex_8e157 4 = .ok (.iload_n 0, 1) := by decide +kernel
theorem dJ3_checkIndex_8e157_5 : decode cJ3_checkIndex_8e157 5 = .ok (.iload_n 1, 1) := by decide +kernel
theorem dJ3_checkIndex_8e157_6 : decode cJ3_checkIndex_8e157 6 = .ok (.if_icmp .lt 10, 3) := by decide +kernel
theorem dJ3_checkIndex_8e157_9 : decode cJ3_checkIndex_8e157 9 = .ok (.aload_n 2, 1) := by decide +kernel
theorem dJ3_checkIndex_8e157_10 : decode cJ3_checkIndex_8e157 10 = .ok (.iload_n 0, 1) := by decide +kernel
theorem dJ3_checkIndex_8e157_11 : decode cJ3_checkIndex_8e157 11 = .ok (.iload_n 1, 1) := by decide +kernel
theorem dJ3_checkIndex_8e157_12 : decode cJ3_checkIndex_8e157 12 = .ok (.invokestatic 95, 3) := by decide +kernel
theorem dJ3_checkIndex_8e157_15 : decode cJ3_checkIndex_8e157 15 = .ok (.athrow, 1) := by decide +kernel
theorem dJ3_checkIndex_8e157_16 : decode cJ3_checkIndex_8e157 16 = .ok (.iload_n 0, 1) := by decide +kernel
theorem dJ3_checkIndex_8e157_17 : decode cJ3_checkIndex_8e157 17 = .ok (.ireturn, 1) := by decide +kernel
end
section
/-! calls by what the callee's contract says of its answer -/
def fd_is (r : Option Value) (I0 : fdI) (L0 : fdL) : Option Value → fdI → fdL → Prop := fun rv I' L' => rv = r ∧ I' = I0 ∧ L' = L0
theorem fd_isI {r rv : Option Value} {I0 I' : fdI} {L0 L' : fdL} (h : rv = r) (h1 : I' = I0) (h2 : L' = L0) : fd_is r I0 L0 rv I' L' := ⟨h, h1, h2⟩
theorem fd_isi {a b : Int32} {I0 I' : fdI} {L0 L' : fdL} (h : a = b) (h1 : I' = I0) (h2 : L' = L0) : fd_is (some (.int b)) I0 L0 (some (.int a)) I' L' := ⟨by rw [h], h1, h2⟩
def fd_ip (P : Value → fdI → fdL → Prop) : Option Value → fdI → fdL → Prop := fun rv I' L' => ∃ v, rv = some v ∧ P v I' L'
def fd_vp (P : fdI → fdL → Prop) : Option Value → fdI → fdL → Prop := fun rv I' L' => rv = none ∧ P I' L'
def fd_b (c : Prop) [Decidable c] : Int32 := if c then 1 else 0
theorem fd_b01 (c : Prop) [Decidable c] : fd_b c = 0 ∨ fd_b c = 1 := by unfold fd_b; split <;> simp
theorem fd_b_t {c : Prop} [Decidable c] (h : c) : fd_b c = 1 := if_pos h
theorem fd_b_f {c : Prop} [Decidable c] (h : ¬ c) : fd_b c = 0 := if_neg h
theorem fd_b0 {c : Prop} [Decidable c] : fd_b c = 0 ↔ ¬ c := by unfold fd_b; split <;> simp_all
theorem fd_b1 {c : Prop} [Decidable c] : fd_b c = 1 ↔ c := by unfold fd_b; split <;> simp_all
theorem fd_bn {c : Prop} [Decidable c] : ¬ fd_b c = 0 ↔ c := by unfold fd_b; split <;> simp_all
section FDW
variable {S : List fdE} {α : Nat → Nat} {y mz : fdM} {z x : MethodName} {pc idx n : Nat} {lv lv' : List (Nat × Value)} {st st0 av As : List Value} {I I' : fdI} {L L' : fdL} {Q Qz : Option Value → fdI → fdL → Prop}
theorem r_cVr {k ci : Nat} {ks : List Nat} {r : Value} (hc : Con S α z mz (.ref (α k) :: As) I L (fd_is (some r) I' L')) (hlk : fd_lkV y.2.2.1 idx z mz n) (hS0 : S[k]? = some (.inl (ci, ks))) (hcl : (vwCl[ci]?).map (fun r => r.1) = some z.cls) (hd : mz.2.2.2.2 + 1 ≤ y.2.2.2.2) (hm : mz.2.1 ≤ 17) (hn : As.length = n) (hst : As.reverse ++ .ref (α k) :: st = st0) (hcat : (st.map fun v => v.category).sum ≤ 8) (hdg : decode y.1 pc = .ok (.invokevirtual idx, 3)) (K : Rn S α y (pc + 3) lv (r :: st) I' L' Q) : Rn S α y pc lv st0 I L Q := by
  subst hst
  refine r_callV hc hlk hS0 hcl hd hm hn hcat hdg (fun rv J M hq => ?_)
  obtain ⟨rfl, rfl, rfl⟩ := hq
  exact K
theorem r_cVn {k ci : Nat} {ks : List Nat} (hc : Con S α z mz (.ref (α k) :: As) I L (fd_is none I' L')) (hlk : fd_lkV y.2.2.1 idx z mz n) (hS0 : S[k]? = some (.inl (ci, ks))) (hcl : (vwCl[ci]?).map (fun r => r.1) = some z.cls) (hd : mz.2.2.2.2 + 1 ≤ y.2.2.2.2) (hm : mz.2.1 ≤ 17) (hn : As.length = n) (hst : As.reverse ++ .ref (α k) :: st = st0) (hcat : (st.map fun v => v.category).sum ≤ 8) (hdg : decode y.1 pc = .ok (.invokevirtual idx, 3)) (K : Rn S α y (pc + 3) lv st I' L' Q) : Rn S α y pc lv st0 I L Q := by
  subst hst
  refine r_callV hc hlk hS0 hcl hd hm hn hcat hdg (fun rv J M hq => ?_)
  obtain ⟨rfl, rfl, rfl⟩ := hq
  exact K
theorem r_cVp {k ci : Nat} {ks : List Nat} {P : Value → fdI → fdL → Prop} (hc : Con S α z mz (.ref (α k) :: As) I L (fd_ip P)) (hlk : fd_lkV y.2.2.1 idx z mz n) (hS0 : S[k]? = some (.inl (ci, ks))) (hcl : (vwCl[ci]?).map (fun r => r.1) = some z.cls) (hd : mz.2.2.2.2 + 1 ≤ y.2.2.2.2) (hm : mz.2.1 ≤ 17) (hn : As.length = n) (hst : As.reverse ++ .ref (α k) :: st = st0) (hcat : (st.map fun v => v.category).sum ≤ 8) (hdg : decode y.1 pc = .ok (.invokevirtual idx, 3)) (K : ∀ v I' L', P v I' L' → Rn S α y (pc + 3) lv (v :: st) I' L' Q) : Rn S α y pc lv st0 I L Q := by
  subst hst
  refine r_callV hc hlk hS0 hcl hd hm hn hcat hdg (fun rv J M hq => ?_)
  obtain ⟨v, rfl, hq⟩ := hq
  exact K v J M hq
theorem r_cVq {k ci : Nat} {ks : List Nat} {P : fdI → fdL → Prop} (hc : Con S α z mz (.ref (α k) :: As) I L (fd_vp P)) (hlk : fd_lkV y.2.2.1 idx z mz n) (hS0 : S[k]? = some (.inl (ci, ks))) (hcl : (vwCl[ci]?).map (fun r => r.1) = some z.cls) (hd : mz.2.2.2.2 + 1 ≤ y.2.2.2.2) (hm : mz.2.1 ≤ 17) (hn : As.length = n) (hst : As.reverse ++ .ref (α k) :: st = st0) (hcat : (st.map fun v => v.category).sum ≤ 8) (hdg : decode y.1 pc = .ok (.invokevirtual idx, 3)) (K : ∀ I' L', P I' L' → Rn S α y (pc + 3) lv st I' L' Q) : Rn S α y pc lv st0 I L Q := by
  subst hst
  refine r_callV hc hlk hS0 hcl hd hm hn hcat hdg (fun rv J M hq => ?_)
  obtain ⟨rfl, hq⟩ := hq
  exact K J M hq
theorem r_cSr  {r : Value} (hc : Con S α z mz As I L (fd_is (some r) I' L')) (hlk : fd_lkS y.2.2.1 idx z mz n) (hd : mz.2.2.2.2 + 1 ≤ y.2.2.2.2) (hm : mz.2.1 ≤ 17) (hn : As.length = n) (hst : As.reverse ++ st = st0) (hcat : (st.map fun v => v.category).sum ≤ 8) (hdg : decode y.1 pc = .ok (.invokestatic idx, 3)) (K : Rn S α y (pc + 3) lv (r :: st) I' L' Q) : Rn S α y pc lv st0 I L Q := by
  subst hst
  refine r_callS hc hlk hd hm hn hcat hdg (fun rv J M hq => ?_)
  obtain ⟨rfl, rfl, rfl⟩ := hq
  exact K
theorem r_cSn  (hc : Con S α z mz As I L (fd_is none I' L')) (hlk : fd_lkS y.2.2.1 idx z mz n) (hd : mz.2.2.2.2 + 1 ≤ y.2.2.2.2) (hm : mz.2.1 ≤ 17) (hn : As.length = n) (hst : As.reverse ++ st = st0) (hcat : (st.map fun v => v.category).sum ≤ 8) (hdg : decode y.1 pc = .ok (.invokestatic idx, 3)) (K : Rn S α y (pc + 3) lv st I' L' Q) : Rn S α y pc lv st0 I L Q := by
  subst hst
  refine r_callS hc hlk hd hm hn hcat hdg (fun rv J M hq => ?_)
  obtain ⟨rfl, rfl, rfl⟩ := hq
  exact K
theorem r_cSp  {P : Value → fdI → fdL → Prop} (hc : Con S α z mz As I L (fd_ip P)) (hlk : fd_lkS y.2.2.1 idx z mz n) (hd : mz.2.2.2.2 + 1 ≤ y.2.2.2.2) (hm : mz.2.1 ≤ 17) (hn : As.length = n) (hst : As.reverse ++ st = st0) (hcat : (st.map fun v => v.category).sum ≤ 8) (hdg : decode y.1 pc = .ok (.invokestatic idx, 3)) (K : ∀ v I' L', P v I' L' → Rn S α y (pc + 3) lv (v :: st) I' L' Q) : Rn S α y pc lv st0 I L Q := by
  subst hst
  refine r_callS hc hlk hd hm hn hcat hdg (fun rv J M hq => ?_)
  obtain ⟨v, rfl, hq⟩ := hq
  exact K v J M hq
theorem r_cSq  {P : fdI → fdL → Prop} (hc : Con S α z mz As I L (fd_vp P)) (hlk : fd_lkS y.2.2.1 idx z mz n) (hd : mz.2.2.2.2 + 1 ≤ y.2.2.2.2) (hm : mz.2.1 ≤ 17) (hn : As.length = n) (hst : As.reverse ++ st = st0) (hcat : (st.map fun v => v.category).sum ≤ 8) (hdg : decode y.1 pc = .ok (.invokestatic idx, 3)) (K : ∀ I' L', P I' L' → Rn S α y (pc + 3) lv st I' L' Q) : Rn S α y pc lv st0 I L Q := by
  subst hst
  refine r_callS hc hlk hd hm hn hcat hdg (fun rv J M hq => ?_)
  obtain ⟨rfl, hq⟩ := hq
  exact K J M hq
theorem r_cOr {C : String} {k ci : Nat} {ks : List Nat} {r : Value} (hc : Con S α z mz (.ref (α k) :: As) I L (fd_is (some r) I' L')) (hlk : fd_lkO y.2.2.1 idx C x z mz n) (hS0 : S[k]? = some (.inl (ci, ks))) (hcl : (vwCl[ci]?).map (fun r => r.1) = some C) (hd : mz.2.2.2.2 + 1 ≤ y.2.2.2.2) (hm : mz.2.1 ≤ 17) (hn : As.length = n) (hst : As.reverse ++ .ref (α k) :: st = st0) (hcat : (st.map fun v => v.category).sum ≤ 8) (hdg : decode y.1 pc = .ok (.invokevirtual idx, 3)) (K : Rn S α y (pc + 3) lv (r :: st) I' L' Q) : Rn S α y pc lv st0 I L Q := by
  subst hst
  refine r_callO hc hlk hS0 hcl hd hm hn hcat hdg (fun rv J M hq => ?_)
  obtain ⟨rfl, rfl, rfl⟩ := hq
  exact K
theorem r_cOn {C : String} {k ci : Nat} {ks : List Nat} (hc : Con S α z mz (.ref (α k) :: As) I L (fd_is none I' L')) (hlk : fd_lkO y.2.2.1 idx C x z mz n) (hS0 : S[k]? = some (.inl (ci, ks))) (hcl : (vwCl[ci]?).map (fun r => r.1) = some C) (hd : mz.2.2.2.2 + 1 ≤ y.2.2.2.2) (hm : mz.2.1 ≤ 17) (hn : As.length = n) (hst : As.reverse ++ .ref (α k) :: st = st0) (hcat : (st.map fun v => v.category).sum ≤ 8) (hdg : decode y.1 pc = .ok (.invokevirtual idx, 3)) (K : Rn S α y (pc + 3) lv st I' L' Q) : Rn S α y pc lv st0 I L Q := by
  subst hst
  refine r_callO hc hlk hS0 hcl hd hm hn hcat hdg (fun rv J M hq => ?_)
  obtain ⟨rfl, rfl, rfl⟩ := hq
  exact K
theorem r_cOp {C : String} {k ci : Nat} {ks : List Nat} {P : Value → fdI → fdL → Prop} (hc : Con S α z mz (.ref (α k) :: As) I L (fd_ip P)) (hlk : fd_lkO y.2.2.1 idx C x z mz n) (hS0 : S[k]? = some (.inl (ci, ks))) (hcl : (vwCl[ci]?).map (fun r => r.1) = some C) (hd : mz.2.2.2.2 + 1 ≤ y.2.2.2.2) (hm : mz.2.1 ≤ 17) (hn : As.length = n) (hst : As.reverse ++ .ref (α k) :: st = st0) (hcat : (st.map fun v => v.category).sum ≤ 8) (hdg : decode y.1 pc = .ok (.invokevirtual idx, 3)) (K : ∀ v I' L', P v I' L' → Rn S α y (pc + 3) lv (v :: st) I' L' Q) : Rn S α y pc lv st0 I L Q := by
  subst hst
  refine r_callO hc hlk hS0 hcl hd hm hn hcat hdg (fun rv J M hq => ?_)
  obtain ⟨v, rfl, hq⟩ := hq
  exact K v J M hq
theorem r_cOq {C : String} {k ci : Nat} {ks : List Nat} {P : fdI → fdL → Prop} (hc : Con S α z mz (.ref (α k) :: As) I L (fd_vp P)) (hlk : fd_lkO y.2.2.1 idx C x z mz n) (hS0 : S[k]? = some (.inl (ci, ks))) (hcl : (vwCl[ci]?).map (fun r => r.1) = some C) (hd : mz.2.2.2.2 + 1 ≤ y.2.2.2.2) (hm : mz.2.1 ≤ 17) (hn : As.length = n) (hst : As.reverse ++ .ref (α k) :: st = st0) (hcat : (st.map fun v => v.category).sum ≤ 8) (hdg : decode y.1 pc = .ok (.invokevirtual idx, 3)) (K : ∀ I' L', P I' L' → Rn S α y (pc + 3) lv st I' L' Q) : Rn S α y pc lv st0 I L Q := by
  subst hst
  refine r_callO hc hlk hS0 hcl hd hm hn hcat hdg (fun rv J M hq => ?_)
  obtain ⟨rfl, hq⟩ := hq
  exact K J M hq
theorem r_cNr {r : Value} (hc : Con S α yX10_isFact mX10_isFact As I L (fd_is (some r) I' L')) (ho : y.2.2.1 = RX5) (hd : mX10_isFact.2.2.2.2 + 1 ≤ y.2.2.2.2) (hn : As.length = 1) (hst : As.reverse ++ st = st0) (hcat : (st.map fun v => v.category).sum ≤ 8) (hdg : decode y.1 pc = .ok (.invokestatic 85, 3)) (K : Rn S α y (pc + 3) lv (r :: st) I' L' Q) : Rn S α y pc lv st0 I L Q := by
  subst hst
  refine r_callN ho hc (by decide) (fd_in 394 (by decide +kernel) (by decide +kernel)) (fd_in 61 (by decide +kernel) (by decide +kernel)) (fd_in 395 (by decide +kernel) (by decide +kernel)) (by decide +kernel) hd (by decide) hn hcat hdg (fun rv J M hq => ?_)
  obtain ⟨rfl, rfl, rfl⟩ := hq
  exact K
theorem r_getV {k ci j idx : Nat} {ks : List Nat} {v : Int32} (hS : S[k]? = some (.inl (ci, ks))) (hj : ks[j]? = some (0)) (hfl : fd_fl y.2.2.1 idx ci j) (hdg : decode y.1 pc = .ok (.getfield idx, 3)) (hv : I k j = v) (K : Rn S α y (pc + 3) lv (.int v :: st) I L Q) : Rn S α y pc lv (.ref (α k) :: st) I L Q := by
  subst hv
  exact r_getI hS hj hfl hdg K
theorem r_ialdN {k n j : Nat} {v : Int32} (hS0 : S[k]? = some (.inr (.inl (0, n)))) (hdg : decode y.1 pc = .ok (.iaload, 1)) (hj : j < n) (hn : n < 2 ^ 31) (hv : I k j = v) (K : Rn S α y (pc + 1) lv (.int v :: st) I L Q) : Rn S α y pc lv (.int (nI j) :: .ref (α k) :: st) I L Q := by
  subst hv
  refine r_iald hS0 hdg (vp_in_nI hj hn) ?_
  rw [nI_clamp (by omega)]
  exact K
theorem r_iastN {k n j : Nat} {x : Int32} (hS0 : S[k]? = some (.inr (.inl (0, n)))) (hdg : decode y.1 pc = .ok (.iastore, 1)) (hj : j < n) (hn : n < 2 ^ 31) (K : Rn S α y (pc + 1) lv st (fd_up I k j x) L Q) : Rn S α y pc lv (.int x :: .int (nI j) :: .ref (α k) :: st) I L Q := by
  refine r_iast hS0 hdg (vp_in_nI hj hn) ?_
  rw [nI_clamp (by omega)]
  exact K
theorem r_zaldN {k n j : Nat} {v : Int32} (hS0 : S[k]? = some (.inr (.inl (1, n)))) (hdg : decode y.1 pc = .ok (.baload, 1)) (hj : j < n) (hn : n < 2 ^ 31) (hv : I k j = v) (K : Rn S α y (pc + 1) lv (.int v :: st) I L Q) : Rn S α y pc lv (.int (nI j) :: .ref (α k) :: st) I L Q := by
  subst hv
  refine r_zald hS0 hdg (vp_in_nI hj hn) ?_
  rw [nI_clamp (by omega)]
  exact K
theorem r_zastN {k n j : Nat} {x : Int32} (hS0 : S[k]? = some (.inr (.inl (1, n)))) (hx : x = 0 ∨ x = 1) (hdg : decode y.1 pc = .ok (.bastore, 1)) (hj : j < n) (hn : n < 2 ^ 31) (K : Rn S α y (pc + 1) lv st (fd_up I k j x) L Q) : Rn S α y pc lv (.int x :: .int (nI j) :: .ref (α k) :: st) I L Q := by
  refine r_zast hS0 hx hdg (vp_in_nI hj hn) ?_
  rw [nI_clamp (by omega)]
  exact K
theorem r_baldN {k n j : Nat} {v : Int32} (hS0 : S[k]? = some (.inr (.inl (2, n)))) (hdg : decode y.1 pc = .ok (.baload, 1)) (hj : j < n) (hn : n < 2 ^ 31) (hv : I k j = v) (K : Rn S α y (pc + 1) lv (.int v :: st) I L Q) : Rn S α y pc lv (.int (nI j) :: .ref (α k) :: st) I L Q := by
  subst hv
  refine r_bald hS0 hdg (vp_in_nI hj hn) ?_
  rw [nI_clamp (by omega)]
  exact K
theorem r_bastN {k n j : Nat} {x : Int32} (hS0 : S[k]? = some (.inr (.inl (2, n)))) (hx : x.toInt8.toInt32 = x) (hdg : decode y.1 pc = .ok (.bastore, 1)) (hj : j < n) (hn : n < 2 ^ 31) (K : Rn S α y (pc + 1) lv st (fd_up I k j x) L Q) : Rn S α y pc lv (.int x :: .int (nI j) :: .ref (α k) :: st) I L Q := by
  refine r_bast hS0 hx hdg (vp_in_nI hj hn) ?_
  rw [nI_clamp (by omega)]
  exact K
end FDW
theorem fd_down {P : Nat → Prop} {n : Nat} (h : ∀ k, k ≤ n → (k < n → P (k + 1)) → P k) : ∀ k, k ≤ n → P k := by
  have : ∀ m k, m + k = n → P k := by
    intro m
    induction m with
    | zero => intro k hk; exact h k (by omega) (fun q => by omega)
    | succ m ih => intro k hk; exact h k (by omega) (fun _ => ih (k + 1) (by omega))
  intro k hk
  exact this (n - k) k (by omega)
end
section
/-! the pure picture: what the days are, by numbers -/
abbrev pV : Type := Nat → Nat → Int32
abbrev dayP (d : Int32) (n : Nat) : Prop := 0 ≤ d.toInt ∧ d.toInt < (n : Int)
theorem dayP_in {d : Int32} {n : Nat} (h : dayP d n) : vp_in d n := vp_in_iff.mpr h
theorem dayP_of {d : Int32} {n : Nat} (h : vp_in d n) : dayP d n := vp_in_iff.mp h
theorem dayP_nI {d : Int32} {n : Nat} (h : dayP d n) : ∃ j : Nat, j < n ∧ d = nI j := by
  refine ⟨d.toInt.toNat, by omega, ?_⟩
  apply Int32.toInt_inj.mp
  have h2 := Int32.toInt_lt d
  rw [nI_toInt (by omega)]
  omega
theorem nI_dayP {j n : Nat} (h : j < n) (hn : n < 2 ^ 31) : dayP (nI j) n := by
  show 0 ≤ (nI j).toInt ∧ (nI j).toInt < (n : Int)
  rw [nI_toInt (by omega)]
  omega
theorem i64_in {v a b : Int32} : (a.toInt64 ≤ v.toInt64 ∧ v.toInt64 ≤ b.toInt64) ↔ (a.toInt ≤ v.toInt ∧ v.toInt ≤ b.toInt) := by
  rw [Int64.le_iff_toInt_le, Int64.le_iff_toInt_le, Int32.toInt_toInt64, Int32.toInt_toInt64, Int32.toInt_toInt64]
/-- the or of the first k -/
def orN (f : Nat → Int32) : Nat → Int32
  | 0 => 0
  | k + 1 => orN f k ||| f k
/-- how many of the first k -/
def cnN (f : Nat → Bool) : Nat → Nat
  | 0 => 0
  | k + 1 => cnN f k + (if f k then 1 else 0)
theorem cnN_le (f : Nat → Bool) (k : Nat) : cnN f k ≤ k := by
  induction k with
  | zero => exact Nat.le_refl 0
  | succ k ih => unfold cnN; split <;> omega
theorem orN_congr {f g : Nat → Int32} {k : Nat} (h : ∀ i, i < k → f i = g i) : orN f k = orN g k := by
  induction k with
  | zero => rfl
  | succ k ih => unfold orN; rw [ih (fun i hi => h i (by omega)), h k (by omega)]
theorem cnN_congr {f g : Nat → Bool} {k : Nat} (h : ∀ i, i < k → f i = g i) : cnN f k = cnN g k := by
  induction k with
  | zero => rfl
  | succ k ih => unfold cnN; rw [ih (fun i hi => h i (by omega)), h k (by omega)]
/-- what is learnt by a day, what it needs, whether it reads, whether it writes -/
def lnV (V : pV) (d : Nat) : Int32 := if V 1 d = 2 ∨ V 1 d = 5 then 0 else if V 1 d = 4 then V 3 d ||| V 2 d else V 3 d
def akV (V : pV) (d : Nat) : Int32 := if V 1 d = 5 then 0 else V 2 d
def rdB (V : pV) (d : Nat) : Bool := !(V 1 d = 1 || V 1 d = 4)
def wrB (V : pV) (d : Nat) : Bool := !(V 1 d = 3 || V 1 d = 5)
/-- what is learnt on the first k days of the order p -/
def ahV (V : pV) (p : Nat → Nat) (k : Nat) : Int32 := orN (fun i => lnV V (p i)) k
/-- what the k-th note gives to a day d, if K is known by date -/
def ntV (V : pV) (K : Nat → Int32) (d k : Nat) : Int32 := if (V 6 k).toNatClampNeg < d ∧ wrB V (V 6 k).toNatClampNeg = true then K (V 6 k).toNatClampNeg &&& 1 <<< (V 7 k &&& 31) else 0
def rdV (V : pV) (nn : Nat) (K : Nat → Int32) (d : Nat) : Int32 := if rdB V d then orN (ntV V K d) nn else 0
/-- what she knows by date, if B is what she has learnt ahead of each -/
def ktV (V : pV) (nn : Nat) (B : Nat → Int32) : Nat → Nat → Int32
  | 0 => fun _ => 0
  | d + 1 => fun e => if e = d then B d ||| rdV V nn (ktV V nn B d) d else ktV V nn B d e
theorem ktV_lt {V : pV} {nn : Nat} {B : Nat → Int32} {m e : Nat} (h : e < m) : ktV V nn B m e = ktV V nn B (e + 1) e := by
  induction m with
  | zero => omega
  | succ m ih =>
    by_cases he : e = m
    · subst he; rfl
    · have : e < m := by omega
      show (if e = m then _ else ktV V nn B m e) = _
      rw [if_neg he, ih this]
theorem ktV_eq {V : pV} {nn : Nat} {B : Nat → Int32} {m k e : Nat} (h : e < m) (h2 : e < k) : ktV V nn B m e = ktV V nn B k e := by rw [ktV_lt h, ktV_lt h2]
theorem ntV_congr {V : pV} {K K' : Nat → Int32} {d k : Nat} (h : ∀ e, e < d → K e = K' e) : ntV V K d k = ntV V K' d k := by
  unfold ntV
  split
  · next h1 => rw [h _ h1.1]
  · rfl
theorem rdV_congr {V : pV} {nn : Nat} {K K' : Nat → Int32} {d : Nat} (h : ∀ e, e < d → K e = K' e) : rdV V nn K d = rdV V nn K' d := by
  unfold rdV
  split
  · exact orN_congr fun k _ => ntV_congr h
  · rfl
/-- whether a day goes well -/
def wlB (V : pV) (K : Nat → Int32) (d : Nat) : Bool := akV V d &&& (K d ^^^ -1) = 0
/-- a row that holds each of 0 .. n less 1 once -/
def isP (p : Nat → Nat) (n : Nat) : Prop := (∀ k, k < n → p k < n) ∧ ∀ i j, i < n → j < n → p i = p j → i = j
theorem xor_neg1 (x : Int32) : x ^^^ -1 = ~~~x := by
  apply Int32.toBitVec_inj.mp
  show x.toBitVec ^^^ (-1 : Int32).toBitVec = ~~~ x.toBitVec
  rw [show (-1 : Int32).toBitVec = BitVec.allOnes 32 from by decide]
  exact BitVec.xor_allOnes
/-- the model's cells as a life -/
def mV (I : fdI) : pV := fun c => match c with
  | 1 => I 2
  | 2 => I 3
  | 3 => I 4
  | 4 => I 5
  | 5 => I 12
  | 6 => I 7
  | 7 => I 8
  | 8 => I 9
  | 9 => I 10
  | 10 => I 11
  | _ => fun j => match j with
    | 0 => I 0 1
    | 1 => I 0 7
    | 2 => I 0 10
    | 3 => I 0 13
    | 5 => I 0 16
    | 6 => I 0 17
    | _ => 0
/-- how many days, notes, pairs, orders told there are, and that all numbers are what they may be -/
def okC (V : pV) (n nn np nt : Nat) : Prop := V 0 0 = nI n ∧ (1 ≤ n ∧ n ≤ 7) ∧ V 0 1 = nI nn ∧ nn ≤ 6 ∧ V 0 2 = nI np ∧ np ≤ 6 ∧ V 0 3 = nI nt ∧ nt ≤ 3
def okD (V : pV) (n nn np : Nat) : Prop := (∀ d, d < 7 → dayP (V 1 d) 6 ∧ dayP (V 2 d) 64 ∧ dayP (V 3 d) 64 ∧ (V 4 d = -1 ∨ dayP (V 4 d) n) ∧ (V 5 d = -1 ∨ dayP (V 5 d) 64)) ∧ (∀ k, k < nn → dayP (V 6 k) n ∧ dayP (V 7 k) 6) ∧ ∀ k, k < np → dayP (V 8 k) n ∧ dayP (V 9 k) n
def fac : Nat → Nat
  | 0 => 1
  | k + 1 => fac k * (k + 1)
theorem fac_le {n : Nat} (h : n ≤ 7) : fac n ≤ 5040 := by
  match n, h with
  | 0, _ => decide
  | 1, _ => decide
  | 2, _ => decide
  | 3, _ => decide
  | 4, _ => decide
  | 5, _ => decide
  | 6, _ => decide
  | 7, _ => decide
theorem fac_pos (n : Nat) : 0 < fac n := by
  induction n with
  | zero => decide
  | succ n ih => exact Nat.mul_pos ih (Nat.succ_pos n)
theorem ktV_n {V : pV} {nn : Nat} {B : Nat → Int32} {n d : Nat} (h : d < n) : ktV V nn B n d = B d ||| rdV V nn (ktV V nn B n) d := by
  rw [ktV_lt h]
  show (if d = d then _ else _) = _
  rw [if_pos rfl]
  congr 1
  exact rdV_congr fun e he => ktV_eq (by omega) (by omega)
theorem lnV_congr {V V' : pV} {d : Nat} (h1 : V' 1 d = V 1 d) (h2 : V' 2 d = V 2 d) (h3 : V' 3 d = V 3 d) : lnV V' d = lnV V d := by simp only [lnV, h1, h2, h3]
theorem akV_congr {V V' : pV} {d : Nat} (h1 : V' 1 d = V 1 d) (h2 : V' 2 d = V 2 d) : akV V' d = akV V d := by simp only [akV, h1, h2]
/-- whether one of the first k -/
def orB (f : Nat → Bool) : Nat → Bool
  | 0 => false
  | k + 1 => orB f k || f k
def anB (f : Nat → Bool) : Nat → Bool
  | 0 => true
  | k + 1 => anB f k && f k
theorem orB_congr {f g : Nat → Bool} {k : Nat} (h : ∀ i, i < k → f i = g i) : orB f k = orB g k := by
  induction k with
  | zero => rfl
  | succ k ih => unfold orB; rw [ih (fun i hi => h i (by omega)), h k (by omega)]
theorem anB_congr {f g : Nat → Bool} {k : Nat} (h : ∀ i, i < k → f i = g i) : anB f k = anB g k := by
  induction k with
  | zero => rfl
  | succ k ih => unfold anB; rw [ih (fun i hi => h i (by omega)), h k (by omega)]
theorem anB_iff {f : Nat → Bool} {k : Nat} : anB f k = true ↔ ∀ i, i < k → f i = true := by
  induction k with
  | zero => simp [anB]
  | succ k ih =>
    unfold anB
    rw [Bool.and_eq_true, ih]
    constructor
    · intro h i hi
      by_cases q : i = k
      · rw [q]; exact h.2
      · exact h.1 i (by omega)
    · intro h
      exact ⟨fun i hi => h i (by omega), h k (by omega)⟩
theorem orB_iff {f : Nat → Bool} {k : Nat} : orB f k = true ↔ ∃ i, i < k ∧ f i = true := by
  induction k with
  | zero => simp [orB]
  | succ k ih =>
    unfold orB
    rw [Bool.or_eq_true, ih]
    constructor
    · intro h
      rcases h with ⟨i, hi, h⟩ | h
      · exact ⟨i, by omega, h⟩
      · exact ⟨k, by omega, h⟩
    · intro ⟨i, hi, h⟩
      by_cases q : i = k
      · rw [q] at h; exact Or.inr h
      · exact Or.inl ⟨i, by omega, h⟩
end
section
/-! the orders of the days, by ranks: how the model makes the row of a rank, the next row, the rank of a row -/
/-- the day that is found: behind so many that are left over -/
def rwI (met : Nat) : Nat → Nat → Nat → Nat
  | 0, _, d => d
  | f + 1, skip, d => bif Nat.beq (met / 2 ^ d % 2) 1 then rwI met f skip (d + 1) else bif Nat.ble 1 skip then rwI met f (skip - 1) (d + 1) else d
def rwG (met : Nat) : Nat → Nat → Nat → Bool
  | 0, _, _ => false
  | f + 1, skip, d => Nat.ble d 6 && bif Nat.beq (met / 2 ^ d % 2) 1 then rwG met f skip (d + 1) else bif Nat.ble 1 skip then rwG met f (skip - 1) (d + 1) else true
/-- the rest of the row, m days of it -/
def rwP : Nat → Nat → Nat → Nat → List Nat
  | 0, _, _, _ => []
  | m + 1, left, size, met => rwI met 8 (left / (size / (m + 1))) 0 :: rwP m (left % (size / (m + 1))) (size / (m + 1)) (met ||| 2 ^ rwI met 8 (left / (size / (m + 1))) 0)
def rwGd : Nat → Nat → Nat → Nat → Bool
  | 0, _, _, _ => true
  | m + 1, left, size, met => Nat.ble 1 (size / (m + 1)) && (Nat.ble met 127 && (Nat.ble left 5039 && (Nat.ble size 5040 && (rwG met 8 (left / (size / (m + 1))) 0 && rwGd m (left % (size / (m + 1))) (size / (m + 1)) (met ||| 2 ^ rwI met 8 (left / (size / (m + 1))) 0)))))
def prL (n r : Nat) : List Nat := rwP n r (fac n) 0
def gtL : List Nat → Nat → Nat
  | [], _ => 0
  | a :: _, 0 => a
  | _ :: l, k + 1 => gtL l k
def prm (n r : Nat) : Nat → Nat := gtL (prL n r)
/-- the place behind which the row falls to its end -/
def nxA (p : Nat → Nat) : Nat → Nat
  | 0 => 0
  | i + 1 => bif Nat.ble (p (i + 1) + 1) (p i) then nxA p i else i + 1
def nxB (p : Nat → Nat) (x : Nat) : Nat → Nat
  | 0 => 0
  | b + 1 => bif Nat.ble (p (b + 1) + 1) x then nxB p x b else b + 1
def nxS (p : Nat → Nat) (a b : Nat) : Nat → Nat := fun k => bif Nat.beq k b then p a else bif Nat.beq k a then p b else p k
def nxR (p : Nat → Nat) (i j : Nat) : Nat → Nat := fun k => bif Nat.ble i k && Nat.ble k j then p (i + j - k) else p k
def nxQ (p : Nat → Nat) (n : Nat) : Nat → Nat := bif Nat.beq (nxA p (n - 1)) 0 then p else nxS p (nxA p (n - 1) - 1) (nxB p (p (nxA p (n - 1) - 1)) (n - 1))
def nxP (p : Nat → Nat) (n : Nat) : Nat → Nat := nxR (nxQ p n) (nxA p (n - 1)) (n - 1)
/-- how many of the next m are less -/
def lsF (p : Nat → Nat) (k : Nat) : Nat → Nat
  | 0 => 0
  | m + 1 => bif Nat.ble (p (k + 1 + m) + 1) (p k) then lsF p k m + 1 else lsF p k m
def rkF (p : Nat → Nat) (n : Nat) : Nat → Nat
  | 0 => 0
  | k + 1 => rkF p n k * (n - k) + lsF p k (n - 1 - k)
def nodupL : List Nat → Bool
  | [] => true
  | a :: l => l.all (fun b => !(Nat.beq a b)) && nodupL l
def eqL : List Nat → List Nat → Bool
  | [], [] => true
  | a :: l, b :: m => Nat.beq a b && eqL l m
  | _, _ => false
def eqP : Nat → (Nat → Nat) → (Nat → Nat) → Bool
  | 0, _, _ => true
  | k + 1, f, g => Nat.beq (f k) (g k) && eqP k f g
def gdR (n r : Nat) : Bool :=
  rwGd n r (fac n) 0 && ((prL n r).all (fun a => Nat.ble (a + 1) n) && (nodupL (prL n r) && (Nat.beq (rkF (prm n r) n n) r && (Nat.beq (r + 1) (fac n) || (eqP n (nxP (prm n r) n) (prm n (r + 1)) && !(Nat.beq (nxA (prm n r) (n - 1)) 0))))))
def alN (f : Nat → Bool) : Nat → Bool
  | 0 => true
  | k + 1 => f k && alN f k
theorem alN_at {f : Nat → Bool} {m : Nat} (h : alN f m = true) : ∀ k, k < m → f k = true := by
  induction m with
  | zero => intro k hk; omega
  | succ m ih =>
    intro k hk
    unfold alN at h
    rw [Bool.and_eq_true] at h
    by_cases q : k = m
    · rw [q]; exact h.1
    · exact ih h.2 k (by omega)
theorem gd1 : alN (gdR 1) 1 = true := by decide +kernel
theorem gd2 : alN (gdR 2) 2 = true := by decide +kernel
theorem gd3 : alN (gdR 3) 6 = true := by decide +kernel
theorem gd4 : alN (gdR 4) 24 = true := by decide +kernel
theorem gd5 : alN (gdR 5) 120 = true := by decide +kernel
theorem gd6 : alN (gdR 6) 720 = true := by decide +kernel
end
section
/-! seven days -/
theorem gd7_0 : alN (fun k => gdR 7 (0 + k)) 360 = true := by decide +kernel
theorem gd7_1 : alN (fun k => gdR 7 (360 + k)) 360 = true := by decide +kernel
theorem gd7_2 : alN (fun k => gdR 7 (720 + k)) 360 = true := by decide +kernel
theorem gd7_3 : alN (fun k => gdR 7 (1080 + k)) 360 = true := by decide +kernel
theorem gd7_4 : alN (fun k => gdR 7 (1440 + k)) 360 = true := by decide +kernel
theorem gd7_5 : alN (fun k => gdR 7 (1800 + k)) 360 = true := by decide +kernel
theorem gd7_6 : alN (fun k => gdR 7 (2160 + k)) 360 = true := by decide +kernel
theorem gd7_7 : alN (fun k => gdR 7 (2520 + k)) 360 = true := by decide +kernel
theorem gd7_8 : alN (fun k => gdR 7 (2880 + k)) 360 = true := by decide +kernel
theorem gd7_9 : alN (fun k => gdR 7 (3240 + k)) 360 = true := by decide +kernel
theorem gd7_10 : alN (fun k => gdR 7 (3600 + k)) 360 = true := by decide +kernel
theorem gd7_11 : alN (fun k => gdR 7 (3960 + k)) 360 = true := by decide +kernel
theorem gd7_12 : alN (fun k => gdR 7 (4320 + k)) 360 = true := by decide +kernel
theorem gd7_13 : alN (fun k => gdR 7 (4680 + k)) 360 = true := by decide +kernel
end
section
/-! the orders by ranks: what is so -/
theorem gd7 {r : Nat} (hr : r < 5040) : gdR 7 r = true := by
  by_cases h0 : r < 360
  · have h := alN_at gd7_0 (r - 0) (by omega)
    rwa [show 0 + (r - 0) = r by omega] at h
  by_cases h1 : r < 720
  · have h := alN_at gd7_1 (r - 360) (by omega)
    rwa [show 360 + (r - 360) = r by omega] at h
  by_cases h2 : r < 1080
  · have h := alN_at gd7_2 (r - 720) (by omega)
    rwa [show 720 + (r - 720) = r by omega] at h
  by_cases h3 : r < 1440
  · have h := alN_at gd7_3 (r - 1080) (by omega)
    rwa [show 1080 + (r - 1080) = r by omega] at h
  by_cases h4 : r < 1800
  · have h := alN_at gd7_4 (r - 1440) (by omega)
    rwa [show 1440 + (r - 1440) = r by omega] at h
  by_cases h5 : r < 2160
  · have h := alN_at gd7_5 (r - 1800) (by omega)
    rwa [show 1800 + (r - 1800) = r by omega] at h
  by_cases h6 : r < 2520
  · have h := alN_at gd7_6 (r - 2160) (by omega)
    rwa [show 2160 + (r - 2160) = r by omega] at h
  by_cases h7 : r < 2880
  · have h := alN_at gd7_7 (r - 2520) (by omega)
    rwa [show 2520 + (r - 2520) = r by omega] at h
  by_cases h8 : r < 3240
  · have h := alN_at gd7_8 (r - 2880) (by omega)
    rwa [show 2880 + (r - 2880) = r by omega] at h
  by_cases h9 : r < 3600
  · have h := alN_at gd7_9 (r - 3240) (by omega)
    rwa [show 3240 + (r - 3240) = r by omega] at h
  by_cases h10 : r < 3960
  · have h := alN_at gd7_10 (r - 3600) (by omega)
    rwa [show 3600 + (r - 3600) = r by omega] at h
  by_cases h11 : r < 4320
  · have h := alN_at gd7_11 (r - 3960) (by omega)
    rwa [show 3960 + (r - 3960) = r by omega] at h
  by_cases h12 : r < 4680
  · have h := alN_at gd7_12 (r - 4320) (by omega)
    rwa [show 4320 + (r - 4320) = r by omega] at h
  by_cases h13 : r < 5040
  · have h := alN_at gd7_13 (r - 4680) (by omega)
    rwa [show 4680 + (r - 4680) = r by omega] at h
  omega
theorem gdA {n r : Nat} (h : 1 ≤ n ∧ n ≤ 7) (hr : r < fac n) : gdR n r = true := by
  match n, h, hr with
  | 1, _, hr => exact alN_at gd1 r hr
  | 2, _, hr => exact alN_at gd2 r hr
  | 3, _, hr => exact alN_at gd3 r hr
  | 4, _, hr => exact alN_at gd4 r hr
  | 5, _, hr => exact alN_at gd5 r hr
  | 6, _, hr => exact alN_at gd6 r hr
  | 7, _, hr => exact gd7 hr
  | 0, h, _ => exact absurd h.1 (by decide)
  | k + 8, h, _ => exact absurd h.2 (by omega)
theorem rwP_length {m left size met : Nat} : (rwP m left size met).length = m := by
  induction m generalizing left size met with
  | zero => rfl
  | succ m ih => show (_ :: rwP m _ _ _).length = _; rw [List.length_cons, ih]
theorem gtL_eq {l : List Nat} {k : Nat} : gtL l k = (l[k]?).getD 0 := by
  induction l generalizing k with
  | nil => simp [gtL]
  | cons a l ih =>
    cases k with
    | zero => simp [gtL]
    | succ k => simp [gtL, ih]
theorem gtL_mem {l : List Nat} {k : Nat} (h : k < l.length) : gtL l k ∈ l := by
  rw [gtL_eq, List.getElem?_eq_getElem h]
  exact List.getElem_mem h
theorem nodupL_inj {l : List Nat} (h : nodupL l = true) : ∀ i j, i < l.length → j < l.length → gtL l i = gtL l j → i = j := by
  induction l with
  | nil => intro i j hi; cases hi
  | cons a l ih =>
    unfold nodupL at h
    rw [Bool.and_eq_true, List.all_eq_true] at h
    have hne : ∀ b ∈ l, a ≠ b := by
      intro b hb q
      have := h.1 b hb
      subst q
      simp at this
    intro i j hi hj e
    cases i with
    | zero =>
      cases j with
      | zero => rfl
      | succ j =>
        have hj' : j < l.length := by simpa using hj
        exact absurd e (hne _ (gtL_mem hj'))
    | succ i =>
      cases j with
      | zero =>
        have hi' : i < l.length := by simpa using hi
        exact absurd e.symm (hne _ (gtL_mem hi'))
      | succ j => rw [ih h.2 i j (by simpa using hi) (by simpa using hj) e]
theorem eqP_at {k : Nat} {f g : Nat → Nat} (h : eqP k f g = true) : ∀ i, i < k → f i = g i := by
  induction k with
  | zero => intro i hi; omega
  | succ k ih =>
    unfold eqP at h
    rw [Bool.and_eq_true] at h
    intro i hi
    by_cases q : i = k
    · subst q; exact Nat.eq_of_beq_eq_true h.1
    · exact ih h.2 i (by omega)
theorem gdB {n r : Nat} (h : 1 ≤ n ∧ n ≤ 7) (hr : r < fac n) : rwGd n r (fac n) 0 = true ∧ isP (prm n r) n ∧ rkF (prm n r) n n = r ∧ (r + 1 < fac n → (∀ k, k < n → nxP (prm n r) n k = prm n (r + 1) k) ∧ nxA (prm n r) (n - 1) ≠ 0) := by
  have hg := gdA h hr
  unfold gdR at hg
  simp only [Bool.and_eq_true, Bool.or_eq_true] at hg
  obtain ⟨h1, h2, h3, h4, h5⟩ := hg
  have hl : (prL n r).length = n := rwP_length
  refine ⟨h1, ⟨fun k hk => ?_, fun i j hi hj e => nodupL_inj h3 i j (by omega) (by omega) e⟩, Nat.eq_of_beq_eq_true h4, fun hr1 => ?_⟩
  · have := List.all_eq_true.mp h2 _ (gtL_mem (k := k) (by omega))
    exact Nat.le_of_ble_eq_true this
  · rcases h5 with h5 | ⟨h5, h6⟩
    · have := Nat.eq_of_beq_eq_true h5
      omega
    · exact ⟨eqP_at h5, fun q => by rw [q] at h6; cases h6⟩
theorem prm_P {n r : Nat} (h : 1 ≤ n ∧ n ≤ 7) (hr : r < fac n) : isP (prm n r) n := (gdB h hr).2.1
theorem prm_rank {n r : Nat} (h : 1 ≤ n ∧ n ≤ 7) (hr : r < fac n) : rkF (prm n r) n n = r := (gdB h hr).2.2.1
theorem prm_next {n r : Nat} (h : 1 ≤ n ∧ n ≤ 7) (hr : r + 1 < fac n) : ∀ k, k < n → nxP (prm n r) n k = prm n (r + 1) k := ((gdB h (by omega)).2.2.2 hr).1
theorem prm_more {n r : Nat} (h : 1 ≤ n ∧ n ≤ 7) (hr : r + 1 < fac n) : nxA (prm n r) (n - 1) ≠ 0 := ((gdB h (by omega)).2.2.2 hr).2
theorem prm_0 {n : Nat} (h : 1 ≤ n ∧ n ≤ 7) : ∀ k, k < n → prm n 0 k = k := by
  have a : ∀ n, n < 8 → 1 ≤ n → eqP n (prm n 0) id = true := by decide +kernel
  exact eqP_at (a n (by omega) h.1)
theorem isP_sur {p : Nat → Nat} {n : Nat} (h : isP p n) : ∀ d, d < n → ∃ k, k < n ∧ p k = d := by
  -- by counting: the first n values are n different ones under n
  have aux : ∀ m : Nat, ∀ q : Nat → Nat, (∀ k, k < m → q k < m) → (∀ i j, i < m → j < m → q i = q j → i = j) → ∀ d, d < m → ∃ k, k < m ∧ q k = d := by
    intro m
    induction m with
    | zero => intro q _ _ d hd; omega
    | succ m ih =>
      intro q h1 h2 d hd
      by_cases e : q m = d
      · exact ⟨m, by omega, e⟩
      · -- put what q m is into the place of the last value
        have hm := h1 m (by omega)
        obtain ⟨k, hk, ek⟩ := ih (fun k => if q k = m then q m else q k) (fun k hk => by
          show (if q k = m then q m else q k) < m
          have a := h1 k (by omega)
          split
          · next e1 =>
            have : q m ≠ m := fun z => by
              have := h2 k m (by omega) (by omega) (by rw [e1, z])
              omega
            omega
          · next e1 => omega) (fun i j hi hj e2 => by
          have e3 : (if q i = m then q m else q i) = (if q j = m then q m else q j) := e2
          by_cases a : q i = m
          · by_cases b : q j = m
            · exact h2 i j (by omega) (by omega) (by rw [a, b])
            · rw [if_pos a, if_neg b] at e3
              have := h2 m j (by omega) (by omega) e3
              omega
          · by_cases b : q j = m
            · rw [if_neg a, if_pos b] at e3
              have := h2 i m (by omega) (by omega) e3
              omega
            · rw [if_neg a, if_neg b] at e3
              exact h2 i j (by omega) (by omega) e3) (if d = m then q m else d) (by
          split
          · next e1 => 
            have : q m ≠ m := fun z => e (by rw [z, e1])
            omega
          · omega)
        have ek : (if q k = m then q m else q k) = (if d = m then q m else d) := ek
        refine ⟨k, by omega, ?_⟩
        by_cases a : q k = m
        · by_cases b : d = m
          · rw [a, b]
          · rw [if_pos a, if_neg b] at ek
            exact absurd ek e
        · by_cases b : d = m
          · rw [if_neg a, if_pos b] at ek
            have := h2 k m (by omega) (by omega) ek
            omega
          · rw [if_neg a, if_neg b] at ek
            exact ek
  exact aux n p h.1 h.2
end
