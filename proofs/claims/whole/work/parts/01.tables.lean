-- ===== PART A: goes FIRST, ahead of the names: the tables' words, and 'selects' of the private methods out of them =====
/-- a private method of a class that the tables say can be made, by its rows of tables_1 -/
def lw_okq (q : MethodName × Nat) : Prop := (q.1.cls ≠ "java/lang/invoke/MethodHandle" ∧ q.1.cls ≠ "java/lang/invoke/VarHandle") ∧ Cond.instantiable q.1.cls q.2 ∈ tables_1 ∧ Cond.privateMethod q.1 ∈ tables_1 ∧ Cond.instanceMethod q.1 ∈ tables_1
theorem lw_p0 : lw_okq (⟨"PictureReader", "pictureAt", "(I)LPictureReader$Picture;"⟩, 3) := ⟨⟨by decide +kernel, by decide +kernel⟩, List.mem_of_getElem? (i := 16) (by decide +kernel), List.mem_of_getElem? (i := 334) (by decide +kernel), List.mem_of_getElem? (i := 335) (by decide +kernel)⟩
theorem lw_p1 : lw_okq (⟨"PictureReader$Picture", "take", "(LPictureReader$Tape;I)I"⟩, 12) := ⟨⟨by decide +kernel, by decide +kernel⟩, List.mem_of_getElem? (i := 53) (by decide +kernel), List.mem_of_getElem? (i := 359) (by decide +kernel), List.mem_of_getElem? (i := 360) (by decide +kernel)⟩
theorem lw_p2 : lw_okq (⟨"PictureReader$Picture", "takeKind", "(LPictureReader$Tape;I)I"⟩, 12) := ⟨⟨by decide +kernel, by decide +kernel⟩, List.mem_of_getElem? (i := 53) (by decide +kernel), List.mem_of_getElem? (i := 367) (by decide +kernel), List.mem_of_getElem? (i := 368) (by decide +kernel)⟩
theorem lw_p3 : lw_okq (⟨"PictureReader$Picture", "takeThing", "(LPictureReader$Tape;I)I"⟩, 12) := ⟨⟨by decide +kernel, by decide +kernel⟩, List.mem_of_getElem? (i := 53) (by decide +kernel), List.mem_of_getElem? (i := 402) (by decide +kernel), List.mem_of_getElem? (i := 403) (by decide +kernel)⟩
theorem lw_p4 : lw_okq (⟨"PictureReader$Things", "countBelow", "(I)I"⟩, 18) := ⟨⟨by decide +kernel, by decide +kernel⟩, List.mem_of_getElem? (i := 88) (by decide +kernel), List.mem_of_getElem? (i := 423) (by decide +kernel), List.mem_of_getElem? (i := 424) (by decide +kernel)⟩
theorem lw_p5 : lw_okq (⟨"PictureReader$Things", "countSet", "(II)I"⟩, 18) := ⟨⟨by decide +kernel, by decide +kernel⟩, List.mem_of_getElem? (i := 88) (by decide +kernel), List.mem_of_getElem? (i := 467) (by decide +kernel), List.mem_of_getElem? (i := 468) (by decide +kernel)⟩
theorem lw_p6 : lw_okq (⟨"PictureReader$Things", "enlist", "(I)V"⟩, 18) := ⟨⟨by decide +kernel, by decide +kernel⟩, List.mem_of_getElem? (i := 88) (by decide +kernel), List.mem_of_getElem? (i := 471) (by decide +kernel), List.mem_of_getElem? (i := 472) (by decide +kernel)⟩
theorem lw_p7 : lw_okq (⟨"PictureReader$Picture", "takeRow", "(LPictureReader$Tape;I)I"⟩, 12) := ⟨⟨by decide +kernel, by decide +kernel⟩, List.mem_of_getElem? (i := 53) (by decide +kernel), List.mem_of_getElem? (i := 478) (by decide +kernel), List.mem_of_getElem? (i := 479) (by decide +kernel)⟩
theorem lw_p8 : lw_okq (⟨"PictureReader$Picture", "takeSoft", "(LPictureReader$Tape;I)I"⟩, 12) := ⟨⟨by decide +kernel, by decide +kernel⟩, List.mem_of_getElem? (i := 53) (by decide +kernel), List.mem_of_getElem? (i := 482) (by decide +kernel), List.mem_of_getElem? (i := 483) (by decide +kernel)⟩
theorem lw_p9 : lw_okq (⟨"PictureReader$Picture", "takeRoot", "(LPictureReader$Tape;I)I"⟩, 12) := ⟨⟨by decide +kernel, by decide +kernel⟩, List.mem_of_getElem? (i := 53) (by decide +kernel), List.mem_of_getElem? (i := 486) (by decide +kernel), List.mem_of_getElem? (i := 487) (by decide +kernel)⟩
theorem lw_p10 : lw_okq (⟨"PictureReader$Picture", "passOver", "(LPictureReader$Tape;I)I"⟩, 12) := ⟨⟨by decide +kernel, by decide +kernel⟩, List.mem_of_getElem? (i := 53) (by decide +kernel), List.mem_of_getElem? (i := 498) (by decide +kernel), List.mem_of_getElem? (i := 499) (by decide +kernel)⟩
theorem lw_p11 : lw_okq (⟨"PictureReader$Spread", "enter", "(LPictureReader$Things;III)V"⟩, 4) := ⟨⟨by decide +kernel, by decide +kernel⟩, List.mem_of_getElem? (i := 188) (by decide +kernel), List.mem_of_getElem? (i := 534) (by decide +kernel), List.mem_of_getElem? (i := 535) (by decide +kernel)⟩
theorem lw_p12 : lw_okq (⟨"PictureReader$Spread", "leave", "(LPictureReader$Things;I)V"⟩, 4) := ⟨⟨by decide +kernel, by decide +kernel⟩, List.mem_of_getElem? (i := 188) (by decide +kernel), List.mem_of_getElem? (i := 550) (by decide +kernel), List.mem_of_getElem? (i := 551) (by decide +kernel)⟩
theorem lw_p13 : lw_okq (⟨"PictureReader$Life", "moveKeepers", "(LPictureReader$Things;LPictureReader$Spread;)Z"⟩, 6) := ⟨⟨by decide +kernel, by decide +kernel⟩, List.mem_of_getElem? (i := 207) (by decide +kernel), List.mem_of_getElem? (i := 576) (by decide +kernel), List.mem_of_getElem? (i := 577) (by decide +kernel)⟩
theorem lw_p14 : lw_okq (⟨"PictureReader$Life", "keeperIdOf", "(I)I"⟩, 6) := ⟨⟨by decide +kernel, by decide +kernel⟩, List.mem_of_getElem? (i := 207) (by decide +kernel), List.mem_of_getElem? (i := 591) (by decide +kernel), List.mem_of_getElem? (i := 592) (by decide +kernel)⟩
theorem lw_p15 : lw_okq (⟨"PictureReader$Life", "lastShared", "(LPictureReader$Spread;II)I"⟩, 6) := ⟨⟨by decide +kernel, by decide +kernel⟩, List.mem_of_getElem? (i := 207) (by decide +kernel), List.mem_of_getElem? (i := 596) (by decide +kernel), List.mem_of_getElem? (i := 597) (by decide +kernel)⟩
def lw_privs_1 : List (MethodName × Nat) := [(⟨"PictureReader", "pictureAt", "(I)LPictureReader$Picture;"⟩, 3), (⟨"PictureReader$Picture", "take", "(LPictureReader$Tape;I)I"⟩, 12), (⟨"PictureReader$Picture", "takeKind", "(LPictureReader$Tape;I)I"⟩, 12), (⟨"PictureReader$Picture", "takeThing", "(LPictureReader$Tape;I)I"⟩, 12), (⟨"PictureReader$Things", "countBelow", "(I)I"⟩, 18), (⟨"PictureReader$Things", "countSet", "(II)I"⟩, 18), (⟨"PictureReader$Things", "enlist", "(I)V"⟩, 18), (⟨"PictureReader$Picture", "takeRow", "(LPictureReader$Tape;I)I"⟩, 12), (⟨"PictureReader$Picture", "takeSoft", "(LPictureReader$Tape;I)I"⟩, 12), (⟨"PictureReader$Picture", "takeRoot", "(LPictureReader$Tape;I)I"⟩, 12), (⟨"PictureReader$Picture", "passOver", "(LPictureReader$Tape;I)I"⟩, 12), (⟨"PictureReader$Spread", "enter", "(LPictureReader$Things;III)V"⟩, 4), (⟨"PictureReader$Spread", "leave", "(LPictureReader$Things;I)V"⟩, 4), (⟨"PictureReader$Life", "moveKeepers", "(LPictureReader$Things;LPictureReader$Spread;)Z"⟩, 6), (⟨"PictureReader$Life", "keeperIdOf", "(I)I"⟩, 6), (⟨"PictureReader$Life", "lastShared", "(LPictureReader$Spread;II)I"⟩, 6)]
theorem lw_r1 : ∀ q ∈ lw_privs_1, lw_okq q := List.forall_mem_cons.mpr ⟨lw_p0, List.forall_mem_cons.mpr ⟨lw_p1, List.forall_mem_cons.mpr ⟨lw_p2, List.forall_mem_cons.mpr ⟨lw_p3, List.forall_mem_cons.mpr ⟨lw_p4, List.forall_mem_cons.mpr ⟨lw_p5, List.forall_mem_cons.mpr ⟨lw_p6, List.forall_mem_cons.mpr ⟨lw_p7, List.forall_mem_cons.mpr ⟨lw_p8, List.forall_mem_cons.mpr ⟨lw_p9, List.forall_mem_cons.mpr ⟨lw_p10, List.forall_mem_cons.mpr ⟨lw_p11, List.forall_mem_cons.mpr ⟨lw_p12, List.forall_mem_cons.mpr ⟨lw_p13, List.forall_mem_cons.mpr ⟨lw_p14, List.forall_mem_cons.mpr ⟨lw_p15, fun _ h => absurd h List.not_mem_nil⟩⟩⟩⟩⟩⟩⟩⟩⟩⟩⟩⟩⟩⟩⟩⟩
theorem lw_p16 : lw_okq (⟨"PictureReader$Life", "measure", "(LPictureReader$Things;LPictureReader$Spread;)V"⟩, 6) := ⟨⟨by decide +kernel, by decide +kernel⟩, List.mem_of_getElem? (i := 207) (by decide +kernel), List.mem_of_getElem? (i := 601) (by decide +kernel), List.mem_of_getElem? (i := 602) (by decide +kernel)⟩
theorem lw_p17 : lw_okq (⟨"PictureReader$Life", "rank", "(LPictureReader$Things;)V"⟩, 6) := ⟨⟨by decide +kernel, by decide +kernel⟩, List.mem_of_getElem? (i := 207) (by decide +kernel), List.mem_of_getElem? (i := 613) (by decide +kernel), List.mem_of_getElem? (i := 614) (by decide +kernel)⟩
theorem lw_p18 : lw_okq (⟨"PictureReader$Twins", "join", "(LPictureReader$Things;I)V"⟩, 4) := ⟨⟨by decide +kernel, by decide +kernel⟩, List.mem_of_getElem? (i := 232) (by decide +kernel), List.mem_of_getElem? (i := 631) (by decide +kernel), List.mem_of_getElem? (i := 632) (by decide +kernel)⟩
theorem lw_p19 : lw_okq (⟨"PictureReader$Twins", "dropLone", "()V"⟩, 4) := ⟨⟨by decide +kernel, by decide +kernel⟩, List.mem_of_getElem? (i := 232) (by decide +kernel), List.mem_of_getElem? (i := 656) (by decide +kernel), List.mem_of_getElem? (i := 657) (by decide +kernel)⟩
theorem lw_p20 : lw_okq (⟨"PictureReaderModel", "numberOf", "(II)I"⟩, 28) := ⟨⟨by decide +kernel, by decide +kernel⟩, List.mem_of_getElem? (i := 847) (by decide +kernel), List.mem_of_getElem? (i := 955) (by decide +kernel), List.mem_of_getElem? (i := 956) (by decide +kernel)⟩
theorem lw_p21 : lw_okq (⟨"PictureReaderModel", "two", "(II)I"⟩, 28) := ⟨⟨by decide +kernel, by decide +kernel⟩, List.mem_of_getElem? (i := 847) (by decide +kernel), List.mem_of_getElem? (i := 959) (by decide +kernel), List.mem_of_getElem? (i := 960) (by decide +kernel)⟩
theorem lw_p22 : lw_okq (⟨"PictureReaderModel", "at", "(II)I"⟩, 28) := ⟨⟨by decide +kernel, by decide +kernel⟩, List.mem_of_getElem? (i := 847) (by decide +kernel), List.mem_of_getElem? (i := 963) (by decide +kernel), List.mem_of_getElem? (i := 964) (by decide +kernel)⟩
theorem lw_p23 : lw_okq (⟨"PictureReaderModel", "record", "(II)I"⟩, 28) := ⟨⟨by decide +kernel, by decide +kernel⟩, List.mem_of_getElem? (i := 847) (by decide +kernel), List.mem_of_getElem? (i := 967) (by decide +kernel), List.mem_of_getElem? (i := 968) (by decide +kernel)⟩
theorem lw_p24 : lw_okq (⟨"PictureReaderModel", "kindRecord", "(II)I"⟩, 28) := ⟨⟨by decide +kernel, by decide +kernel⟩, List.mem_of_getElem? (i := 847) (by decide +kernel), List.mem_of_getElem? (i := 971) (by decide +kernel), List.mem_of_getElem? (i := 972) (by decide +kernel)⟩
theorem lw_p25 : lw_okq (⟨"PictureReaderModel", "has", "(III)Z"⟩, 28) := ⟨⟨by decide +kernel, by decide +kernel⟩, List.mem_of_getElem? (i := 847) (by decide +kernel), List.mem_of_getElem? (i := 975) (by decide +kernel), List.mem_of_getElem? (i := 976) (by decide +kernel)⟩
theorem lw_p26 : lw_okq (⟨"PictureReaderModel", "kindPlace", "(II)I"⟩, 28) := ⟨⟨by decide +kernel, by decide +kernel⟩, List.mem_of_getElem? (i := 847) (by decide +kernel), List.mem_of_getElem? (i := 979) (by decide +kernel), List.mem_of_getElem? (i := 980) (by decide +kernel)⟩
theorem lw_p27 : lw_okq (⟨"PictureReaderModel", "isEnd", "(II)Z"⟩, 28) := ⟨⟨by decide +kernel, by decide +kernel⟩, List.mem_of_getElem? (i := 847) (by decide +kernel), List.mem_of_getElem? (i := 983) (by decide +kernel), List.mem_of_getElem? (i := 984) (by decide +kernel)⟩
theorem lw_p28 : lw_okq (⟨"PictureReaderModel", "valuesAt", "(II)I"⟩, 28) := ⟨⟨by decide +kernel, by decide +kernel⟩, List.mem_of_getElem? (i := 847) (by decide +kernel), List.mem_of_getElem? (i := 987) (by decide +kernel), List.mem_of_getElem? (i := 988) (by decide +kernel)⟩
theorem lw_p29 : lw_okq (⟨"PictureReaderModel", "fieldsOf", "(II)I"⟩, 28) := ⟨⟨by decide +kernel, by decide +kernel⟩, List.mem_of_getElem? (i := 847) (by decide +kernel), List.mem_of_getElem? (i := 991) (by decide +kernel), List.mem_of_getElem? (i := 992) (by decide +kernel)⟩
theorem lw_p30 : lw_okq (⟨"PictureReaderModel", "above", "(II)I"⟩, 28) := ⟨⟨by decide +kernel, by decide +kernel⟩, List.mem_of_getElem? (i := 847) (by decide +kernel), List.mem_of_getElem? (i := 995) (by decide +kernel), List.mem_of_getElem? (i := 996) (by decide +kernel)⟩
theorem lw_p31 : lw_okq (⟨"PictureReaderModel", "valuePlace", "(III)I"⟩, 28) := ⟨⟨by decide +kernel, by decide +kernel⟩, List.mem_of_getElem? (i := 847) (by decide +kernel), List.mem_of_getElem? (i := 999) (by decide +kernel), List.mem_of_getElem? (i := 1000) (by decide +kernel)⟩
def lw_privs_2 : List (MethodName × Nat) := [(⟨"PictureReader$Life", "measure", "(LPictureReader$Things;LPictureReader$Spread;)V"⟩, 6), (⟨"PictureReader$Life", "rank", "(LPictureReader$Things;)V"⟩, 6), (⟨"PictureReader$Twins", "join", "(LPictureReader$Things;I)V"⟩, 4), (⟨"PictureReader$Twins", "dropLone", "()V"⟩, 4), (⟨"PictureReaderModel", "numberOf", "(II)I"⟩, 28), (⟨"PictureReaderModel", "two", "(II)I"⟩, 28), (⟨"PictureReaderModel", "at", "(II)I"⟩, 28), (⟨"PictureReaderModel", "record", "(II)I"⟩, 28), (⟨"PictureReaderModel", "kindRecord", "(II)I"⟩, 28), (⟨"PictureReaderModel", "has", "(III)Z"⟩, 28), (⟨"PictureReaderModel", "kindPlace", "(II)I"⟩, 28), (⟨"PictureReaderModel", "isEnd", "(II)Z"⟩, 28), (⟨"PictureReaderModel", "valuesAt", "(II)I"⟩, 28), (⟨"PictureReaderModel", "fieldsOf", "(II)I"⟩, 28), (⟨"PictureReaderModel", "above", "(II)I"⟩, 28), (⟨"PictureReaderModel", "valuePlace", "(III)I"⟩, 28)]
theorem lw_r2 : ∀ q ∈ lw_privs_2, lw_okq q := List.forall_mem_cons.mpr ⟨lw_p16, List.forall_mem_cons.mpr ⟨lw_p17, List.forall_mem_cons.mpr ⟨lw_p18, List.forall_mem_cons.mpr ⟨lw_p19, List.forall_mem_cons.mpr ⟨lw_p20, List.forall_mem_cons.mpr ⟨lw_p21, List.forall_mem_cons.mpr ⟨lw_p22, List.forall_mem_cons.mpr ⟨lw_p23, List.forall_mem_cons.mpr ⟨lw_p24, List.forall_mem_cons.mpr ⟨lw_p25, List.forall_mem_cons.mpr ⟨lw_p26, List.forall_mem_cons.mpr ⟨lw_p27, List.forall_mem_cons.mpr ⟨lw_p28, List.forall_mem_cons.mpr ⟨lw_p29, List.forall_mem_cons.mpr ⟨lw_p30, List.forall_mem_cons.mpr ⟨lw_p31, fun _ h => absurd h List.not_mem_nil⟩⟩⟩⟩⟩⟩⟩⟩⟩⟩⟩⟩⟩⟩⟩⟩
theorem lw_p32 : lw_okq (⟨"PictureReaderModel", "sortAt", "(III)I"⟩, 28) := ⟨⟨by decide +kernel, by decide +kernel⟩, List.mem_of_getElem? (i := 847) (by decide +kernel), List.mem_of_getElem? (i := 1006) (by decide +kernel), List.mem_of_getElem? (i := 1007) (by decide +kernel)⟩
theorem lw_p33 : lw_okq (⟨"PictureReaderModel", "sortOf", "(III)I"⟩, 28) := ⟨⟨by decide +kernel, by decide +kernel⟩, List.mem_of_getElem? (i := 847) (by decide +kernel), List.mem_of_getElem? (i := 1010) (by decide +kernel), List.mem_of_getElem? (i := 1011) (by decide +kernel)⟩
theorem lw_p34 : lw_okq (⟨"PictureReaderModel", "find", "(II)I"⟩, 28) := ⟨⟨by decide +kernel, by decide +kernel⟩, List.mem_of_getElem? (i := 847) (by decide +kernel), List.mem_of_getElem? (i := 1014) (by decide +kernel), List.mem_of_getElem? (i := 1015) (by decide +kernel)⟩
theorem lw_p35 : lw_okq (⟨"PictureReaderModel", "truthsAreRight", "(II)Z"⟩, 28) := ⟨⟨by decide +kernel, by decide +kernel⟩, List.mem_of_getElem? (i := 847) (by decide +kernel), List.mem_of_getElem? (i := 1019) (by decide +kernel), List.mem_of_getElem? (i := 1020) (by decide +kernel)⟩
theorem lw_p36 : lw_okq (⟨"PictureReaderModel", "valueAt", "(III)J"⟩, 28) := ⟨⟨by decide +kernel, by decide +kernel⟩, List.mem_of_getElem? (i := 847) (by decide +kernel), List.mem_of_getElem? (i := 1023) (by decide +kernel), List.mem_of_getElem? (i := 1024) (by decide +kernel)⟩
theorem lw_p37 : lw_okq (⟨"PictureReaderModel", "refsNotZero", "(II)I"⟩, 28) := ⟨⟨by decide +kernel, by decide +kernel⟩, List.mem_of_getElem? (i := 847) (by decide +kernel), List.mem_of_getElem? (i := 1029) (by decide +kernel), List.mem_of_getElem? (i := 1030) (by decide +kernel)⟩
theorem lw_p38 : lw_okq (⟨"PictureReaderModel", "take", "(II)V"⟩, 28) := ⟨⟨by decide +kernel, by decide +kernel⟩, List.mem_of_getElem? (i := 847) (by decide +kernel), List.mem_of_getElem? (i := 1033) (by decide +kernel), List.mem_of_getElem? (i := 1034) (by decide +kernel)⟩
theorem lw_p39 : lw_okq (⟨"PictureReaderModel", "livingPlace", "(II)I"⟩, 28) := ⟨⟨by decide +kernel, by decide +kernel⟩, List.mem_of_getElem? (i := 847) (by decide +kernel), List.mem_of_getElem? (i := 1041) (by decide +kernel), List.mem_of_getElem? (i := 1042) (by decide +kernel)⟩
theorem lw_p40 : lw_okq (⟨"PictureReaderModel", "live", "(II[ZZ)V"⟩, 28) := ⟨⟨by decide +kernel, by decide +kernel⟩, List.mem_of_getElem? (i := 847) (by decide +kernel), List.mem_of_getElem? (i := 1045) (by decide +kernel), List.mem_of_getElem? (i := 1046) (by decide +kernel)⟩
theorem lw_p41 : lw_okq (⟨"PictureReaderModel", "sort", "(II)I"⟩, 28) := ⟨⟨by decide +kernel, by decide +kernel⟩, List.mem_of_getElem? (i := 847) (by decide +kernel), List.mem_of_getElem? (i := 1049) (by decide +kernel), List.mem_of_getElem? (i := 1050) (by decide +kernel)⟩
theorem lw_p42 : lw_okq (⟨"PictureReaderModel", "target", "(III)I"⟩, 28) := ⟨⟨by decide +kernel, by decide +kernel⟩, List.mem_of_getElem? (i := 847) (by decide +kernel), List.mem_of_getElem? (i := 1053) (by decide +kernel), List.mem_of_getElem? (i := 1054) (by decide +kernel)⟩
theorem lw_p43 : lw_okq (⟨"PictureReaderModel", "weigh", "(I)V"⟩, 28) := ⟨⟨by decide +kernel, by decide +kernel⟩, List.mem_of_getElem? (i := 847) (by decide +kernel), List.mem_of_getElem? (i := 1061) (by decide +kernel), List.mem_of_getElem? (i := 1062) (by decide +kernel)⟩
theorem lw_p44 : lw_okq (⟨"PictureReaderModel", "sizeOf", "(II)I"⟩, 28) := ⟨⟨by decide +kernel, by decide +kernel⟩, List.mem_of_getElem? (i := 847) (by decide +kernel), List.mem_of_getElem? (i := 1065) (by decide +kernel), List.mem_of_getElem? (i := 1066) (by decide +kernel)⟩
theorem lw_p45 : lw_okq (⟨"PictureReaderModel", "measure", "(IIZ)V"⟩, 28) := ⟨⟨by decide +kernel, by decide +kernel⟩, List.mem_of_getElem? (i := 847) (by decide +kernel), List.mem_of_getElem? (i := 1085) (by decide +kernel), List.mem_of_getElem? (i := 1086) (by decide +kernel)⟩
theorem lw_p46 : lw_okq (⟨"PictureReaderModel", "leads", "(IIIZ)I"⟩, 28) := ⟨⟨by decide +kernel, by decide +kernel⟩, List.mem_of_getElem? (i := 847) (by decide +kernel), List.mem_of_getElem? (i := 1089) (by decide +kernel), List.mem_of_getElem? (i := 1090) (by decide +kernel)⟩
theorem lw_p47 : lw_okq (⟨"PictureReaderModel", "groupOf", "(II)I"⟩, 28) := ⟨⟨by decide +kernel, by decide +kernel⟩, List.mem_of_getElem? (i := 847) (by decide +kernel), List.mem_of_getElem? (i := 1101) (by decide +kernel), List.mem_of_getElem? (i := 1102) (by decide +kernel)⟩
def lw_privs_3 : List (MethodName × Nat) := [(⟨"PictureReaderModel", "sortAt", "(III)I"⟩, 28), (⟨"PictureReaderModel", "sortOf", "(III)I"⟩, 28), (⟨"PictureReaderModel", "find", "(II)I"⟩, 28), (⟨"PictureReaderModel", "truthsAreRight", "(II)Z"⟩, 28), (⟨"PictureReaderModel", "valueAt", "(III)J"⟩, 28), (⟨"PictureReaderModel", "refsNotZero", "(II)I"⟩, 28), (⟨"PictureReaderModel", "take", "(II)V"⟩, 28), (⟨"PictureReaderModel", "livingPlace", "(II)I"⟩, 28), (⟨"PictureReaderModel", "live", "(II[ZZ)V"⟩, 28), (⟨"PictureReaderModel", "sort", "(II)I"⟩, 28), (⟨"PictureReaderModel", "target", "(III)I"⟩, 28), (⟨"PictureReaderModel", "weigh", "(I)V"⟩, 28), (⟨"PictureReaderModel", "sizeOf", "(II)I"⟩, 28), (⟨"PictureReaderModel", "measure", "(IIZ)V"⟩, 28), (⟨"PictureReaderModel", "leads", "(IIIZ)I"⟩, 28), (⟨"PictureReaderModel", "groupOf", "(II)I"⟩, 28)]
theorem lw_r3 : ∀ q ∈ lw_privs_3, lw_okq q := List.forall_mem_cons.mpr ⟨lw_p32, List.forall_mem_cons.mpr ⟨lw_p33, List.forall_mem_cons.mpr ⟨lw_p34, List.forall_mem_cons.mpr ⟨lw_p35, List.forall_mem_cons.mpr ⟨lw_p36, List.forall_mem_cons.mpr ⟨lw_p37, List.forall_mem_cons.mpr ⟨lw_p38, List.forall_mem_cons.mpr ⟨lw_p39, List.forall_mem_cons.mpr ⟨lw_p40, List.forall_mem_cons.mpr ⟨lw_p41, List.forall_mem_cons.mpr ⟨lw_p42, List.forall_mem_cons.mpr ⟨lw_p43, List.forall_mem_cons.mpr ⟨lw_p44, List.forall_mem_cons.mpr ⟨lw_p45, List.forall_mem_cons.mpr ⟨lw_p46, List.forall_mem_cons.mpr ⟨lw_p47, fun _ h => absurd h List.not_mem_nil⟩⟩⟩⟩⟩⟩⟩⟩⟩⟩⟩⟩⟩⟩⟩⟩
theorem lw_p48 : lw_okq (⟨"PictureReaderModel", "isLike", "(III)Z"⟩, 28) := ⟨⟨by decide +kernel, by decide +kernel⟩, List.mem_of_getElem? (i := 847) (by decide +kernel), List.mem_of_getElem? (i := 1105) (by decide +kernel), List.mem_of_getElem? (i := 1106) (by decide +kernel)⟩
theorem lw_p49 : lw_okq (⟨"PictureReaderModel", "unknown", "(I)I"⟩, 28) := ⟨⟨by decide +kernel, by decide +kernel⟩, List.mem_of_getElem? (i := 847) (by decide +kernel), List.mem_of_getElem? (i := 1117) (by decide +kernel), List.mem_of_getElem? (i := 1118) (by decide +kernel)⟩
theorem lw_p50 : lw_okq (⟨"PictureReaderModel", "refsOf", "(II)I"⟩, 28) := ⟨⟨by decide +kernel, by decide +kernel⟩, List.mem_of_getElem? (i := 847) (by decide +kernel), List.mem_of_getElem? (i := 1133) (by decide +kernel), List.mem_of_getElem? (i := 1134) (by decide +kernel)⟩
theorem lw_p51 : lw_okq (⟨"PictureReaderModel", "refsTo", "(II)I"⟩, 28) := ⟨⟨by decide +kernel, by decide +kernel⟩, List.mem_of_getElem? (i := 847) (by decide +kernel), List.mem_of_getElem? (i := 1137) (by decide +kernel), List.mem_of_getElem? (i := 1138) (by decide +kernel)⟩
theorem lw_p52 : lw_okq (⟨"PictureReaderModel", "changed", "(IIII)I"⟩, 28) := ⟨⟨by decide +kernel, by decide +kernel⟩, List.mem_of_getElem? (i := 847) (by decide +kernel), List.mem_of_getElem? (i := 1157) (by decide +kernel), List.mem_of_getElem? (i := 1158) (by decide +kernel)⟩
theorem lw_p53 : lw_okq (⟨"PictureReaderModel", "nextNumber", "(III)I"⟩, 28) := ⟨⟨by decide +kernel, by decide +kernel⟩, List.mem_of_getElem? (i := 847) (by decide +kernel), List.mem_of_getElem? (i := 1161) (by decide +kernel), List.mem_of_getElem? (i := 1162) (by decide +kernel)⟩
theorem lw_p54 : lw_okq (⟨"PictureReaderModel", "change", "(III)I"⟩, 28) := ⟨⟨by decide +kernel, by decide +kernel⟩, List.mem_of_getElem? (i := 847) (by decide +kernel), List.mem_of_getElem? (i := 1165) (by decide +kernel), List.mem_of_getElem? (i := 1166) (by decide +kernel)⟩
theorem lw_p55 : lw_okq (⟨"PictureReaderModel", "ofKind", "(II)I"⟩, 28) := ⟨⟨by decide +kernel, by decide +kernel⟩, List.mem_of_getElem? (i := 847) (by decide +kernel), List.mem_of_getElem? (i := 1177) (by decide +kernel), List.mem_of_getElem? (i := 1178) (by decide +kernel)⟩
def lw_privs_4 : List (MethodName × Nat) := [(⟨"PictureReaderModel", "isLike", "(III)Z"⟩, 28), (⟨"PictureReaderModel", "unknown", "(I)I"⟩, 28), (⟨"PictureReaderModel", "refsOf", "(II)I"⟩, 28), (⟨"PictureReaderModel", "refsTo", "(II)I"⟩, 28), (⟨"PictureReaderModel", "changed", "(IIII)I"⟩, 28), (⟨"PictureReaderModel", "nextNumber", "(III)I"⟩, 28), (⟨"PictureReaderModel", "change", "(III)I"⟩, 28), (⟨"PictureReaderModel", "ofKind", "(II)I"⟩, 28)]
theorem lw_r4 : ∀ q ∈ lw_privs_4, lw_okq q := List.forall_mem_cons.mpr ⟨lw_p48, List.forall_mem_cons.mpr ⟨lw_p49, List.forall_mem_cons.mpr ⟨lw_p50, List.forall_mem_cons.mpr ⟨lw_p51, List.forall_mem_cons.mpr ⟨lw_p52, List.forall_mem_cons.mpr ⟨lw_p53, List.forall_mem_cons.mpr ⟨lw_p54, List.forall_mem_cons.mpr ⟨lw_p55, fun _ h => absurd h List.not_mem_nil⟩⟩⟩⟩⟩⟩⟩⟩
def lw_privs : List (MethodName × Nat) := lw_privs_1 ++ (lw_privs_2 ++ (lw_privs_3 ++ (lw_privs_4)))
def lw_tbl : List Cond := k2_sels lw_privs ++ tables_1
theorem lw_privs_ok : ∀ q ∈ lw_privs, lw_okq q := by
  show ∀ q ∈ lw_privs_1 ++ (lw_privs_2 ++ (lw_privs_3 ++ (lw_privs_4))), lw_okq q
  exact List.forall_mem_append.mpr ⟨lw_r1, List.forall_mem_append.mpr ⟨lw_r2, List.forall_mem_append.mpr ⟨lw_r3, lw_r4⟩⟩⟩

def RX0 : String := "PictureReader$Holes"
def TX0 : u_T := fun k => match k with
  | 0 => ("PictureReader$Holes", "starts", "[I", true)
  | 1 => ("PictureReader$Holes", "lengths", "[I", true)
  | 2 => ("PictureReader$Holes", "count", "I", false)
  | _ => ("PictureReader$Holes", "bytes", "I", false)
def tyX0 : Nat → FieldType := fun k => match k with
  | 0 => .array .int
  | 1 => .array .int
  | 2 => .int
  | _ => .int
abbrev wsX00 : List Cond := u_ws RX0 TX0 4
theorem nmX0 : ∀ a, a < 4 → ∀ b, b < 4 → a ≠ b → (TX0 a).2.1 ≠ (TX0 b).2.1 := by decide +kernel
theorem tyX0_ok : ∀ k, k < 4 → parseFieldDescriptor (TX0 k).2.2.1 = some (tyX0 k) := by decide +kernel
abbrev cX0_init : ByteArray := prog_2_method_1_code
def yX0_init : MethodName := ⟨RX0, "<init>", "()V"⟩
abbrev cX0_clear : ByteArray := prog_2_method_2_code
def yX0_clear : MethodName := ⟨RX0, "clear", "()V"⟩
abbrev cX0_add : ByteArray := prog_2_method_3_code
def yX0_add : MethodName := ⟨RX0, "add", "(II)V"⟩
abbrev cX0_size : ByteArray := prog_2_method_4_code
def yX0_size : MethodName := ⟨RX0, "size", "()I"⟩
abbrev cX0_allBytes : ByteArray := prog_2_method_5_code
def yX0_allBytes : MethodName := ⟨RX0, "allBytes", "()I"⟩
abbrev cX0_tell : ByteArray := prog_2_method_6_code
def yX0_tell : MethodName := ⟨RX0, "tell", "(II)I"⟩
def RX1 : String := "PictureReader$Kinds"
def TX1 : u_T := fun k => match k with
  | 0 => ("PictureReader$Kinds", "known", "[Z", true)
  | 1 => ("PictureReader$Kinds", "parents", "[I", true)
  | 2 => ("PictureReader$Kinds", "inherited", "[I", true)
  | 3 => ("PictureReader$Kinds", "counts", "[I", true)
  | 4 => ("PictureReader$Kinds", "widths", "[I", true)
  | 5 => ("PictureReader$Kinds", "ownSorts", "[I", true)
  | _ => ("PictureReader$Kinds", "count", "I", false)
def tyX1 : Nat → FieldType := fun k => match k with
  | 0 => .array .boolean
  | 1 => .array .int
  | 2 => .array .int
  | 3 => .array .int
  | 4 => .array .int
  | 5 => .array .int
  | _ => .int
abbrev wsX10 : List Cond := u_ws RX1 TX1 7
theorem nmX1 : ∀ a, a < 7 → ∀ b, b < 7 → a ≠ b → (TX1 a).2.1 ≠ (TX1 b).2.1 := by decide +kernel
theorem tyX1_ok : ∀ k, k < 7 → parseFieldDescriptor (TX1 k).2.2.1 = some (tyX1 k) := by decide +kernel
abbrev cX1_init : ByteArray := prog_3_method_1_code
def yX1_init : MethodName := ⟨RX1, "<init>", "()V"⟩
abbrev cX1_clear : ByteArray := prog_3_method_2_code
def yX1_clear : MethodName := ⟨RX1, "clear", "()V"⟩
abbrev cX1_size : ByteArray := prog_3_method_3_code
def yX1_size : MethodName := ⟨RX1, "size", "()I"⟩
abbrev cX1_knows : ByteArray := prog_3_method_4_code
def yX1_knows : MethodName := ⟨RX1, "knows", "(I)Z"⟩
abbrev cX1_admits : ByteArray := prog_3_method_5_code
def yX1_admits : MethodName := ⟨RX1, "admits", "(II)Z"⟩
abbrev cX1_begin : ByteArray := prog_3_method_6_code
def yX1_begin : MethodName := ⟨RX1, "begin", "(II)V"⟩
abbrev cX1_addField : ByteArray := prog_3_method_7_code
def yX1_addField : MethodName := ⟨RX1, "addField", "(II)V"⟩
abbrev cX1_countOf : ByteArray := prog_3_method_8_code
def yX1_countOf : MethodName := ⟨RX1, "countOf", "(I)I"⟩
abbrev cX1_bytesOf : ByteArray := prog_3_method_9_code
def yX1_bytesOf : MethodName := ⟨RX1, "bytesOf", "(I)I"⟩
abbrev cX1_sortOf : ByteArray := prog_3_method_10_code
def yX1_sortOf : MethodName := ⟨RX1, "sortOf", "(II)I"⟩
abbrev cX1_descends : ByteArray := prog_3_method_11_code
def yX1_descends : MethodName := ⟨RX1, "descends", "(II)Z"⟩
def RX2 : String := "PictureReader$Life"
def TX2 : u_T := fun k => match k with
  | 0 => ("PictureReader$Life", "keepers", "[I", true)
  | 1 => ("PictureReader$Life", "heights", "[I", true)
  | 2 => ("PictureReader$Life", "kepts", "[I", true)
  | 3 => ("PictureReader$Life", "ranking", "[I", true)
  | 4 => ("PictureReader$Life", "count", "I", false)
  | _ => ("PictureReader$Life", "sizes", "I", false)
def tyX2 : Nat → FieldType := fun k => match k with
  | 0 => .array .int
  | 1 => .array .int
  | 2 => .array .int
  | 3 => .array .int
  | 4 => .int
  | _ => .int
abbrev wsX20 : List Cond := u_ws RX2 TX2 6
theorem nmX2 : ∀ a, a < 6 → ∀ b, b < 6 → a ≠ b → (TX2 a).2.1 ≠ (TX2 b).2.1 := by decide +kernel
theorem tyX2_ok : ∀ k, k < 6 → parseFieldDescriptor (TX2 k).2.2.1 = some (tyX2 k) := by decide +kernel
abbrev cX2_init : ByteArray := prog_4_method_1_code
def yX2_init : MethodName := ⟨RX2, "<init>", "()V"⟩
abbrev cX2_settle : ByteArray := prog_4_method_2_code
def yX2_settle : MethodName := ⟨RX2, "settle", "(LPictureReader$Things;LPictureReader$Spread;)V"⟩
abbrev cX2_moveKeepers : ByteArray := prog_4_method_3_code
def yX2_moveKeepers : MethodName := ⟨RX2, "moveKeepers", "(LPictureReader$Things;LPictureReader$Spread;)Z"⟩
abbrev cX2_lastShared : ByteArray := prog_4_method_4_code
def yX2_lastShared : MethodName := ⟨RX2, "lastShared", "(LPictureReader$Spread;II)I"⟩
abbrev cX2_keeperIdOf : ByteArray := prog_4_method_5_code
def yX2_keeperIdOf : MethodName := ⟨RX2, "keeperIdOf", "(I)I"⟩
abbrev cX2_measure : ByteArray := prog_4_method_6_code
def yX2_measure : MethodName := ⟨RX2, "measure", "(LPictureReader$Things;LPictureReader$Spread;)V"⟩
abbrev cX2_rank : ByteArray := prog_4_method_7_code
def yX2_rank : MethodName := ⟨RX2, "rank", "(LPictureReader$Things;)V"⟩
abbrev cX2_size : ByteArray := prog_4_method_8_code
def yX2_size : MethodName := ⟨RX2, "size", "()I"⟩
abbrev cX2_allSizes : ByteArray := prog_4_method_9_code
def yX2_allSizes : MethodName := ⟨RX2, "allSizes", "()I"⟩
abbrev cX2_lives : ByteArray := prog_4_method_10_code
def yX2_lives : MethodName := ⟨RX2, "lives", "(I)Z"⟩
abbrev cX2_keeperOf : ByteArray := prog_4_method_11_code
def yX2_keeperOf : MethodName := ⟨RX2, "keeperOf", "(LPictureReader$Things;I)I"⟩
abbrev cX2_keptOf : ByteArray := prog_4_method_12_code
def yX2_keptOf : MethodName := ⟨RX2, "keptOf", "(I)I"⟩
abbrev cX2_heightOf : ByteArray := prog_4_method_13_code
def yX2_heightOf : MethodName := ⟨RX2, "heightOf", "(I)I"⟩
abbrev cX2_ranked : ByteArray := prog_4_method_14_code
def yX2_ranked : MethodName := ⟨RX2, "ranked", "(I)I"⟩
def RX3 : String := "PictureReader$Picture"
def TX3 : u_T := fun k => match k with
  | 0 => ("PictureReader$Picture", "kinds", "LPictureReader$Kinds;", true)
  | 1 => ("PictureReader$Picture", "things", "LPictureReader$Things;", true)
  | 2 => ("PictureReader$Picture", "roots", "LPictureReader$Roots;", true)
  | 3 => ("PictureReader$Picture", "holes", "LPictureReader$Holes;", true)
  | 4 => ("PictureReader$Picture", "ways", "LPictureReader$Spread;", true)
  | 5 => ("PictureReader$Picture", "softWays", "LPictureReader$Spread;", true)
  | 6 => ("PictureReader$Picture", "life", "LPictureReader$Life;", true)
  | 7 => ("PictureReader$Picture", "twins", "LPictureReader$Twins;", true)
  | 8 => ("PictureReader$Picture", "bytes", "I", false)
  | 9 => ("PictureReader$Picture", "records", "I", false)
  | 10 => ("PictureReader$Picture", "recordBytes", "I", false)
  | _ => ("PictureReader$Picture", "marks", "I", false)
def tyX3 : Nat → FieldType := fun k => match k with
  | 0 => .object "PictureReader$Kinds"
  | 1 => .object "PictureReader$Things"
  | 2 => .object "PictureReader$Roots"
  | 3 => .object "PictureReader$Holes"
  | 4 => .object "PictureReader$Spread"
  | 5 => .object "PictureReader$Spread"
  | 6 => .object "PictureReader$Life"
  | 7 => .object "PictureReader$Twins"
  | 8 => .int
  | 9 => .int
  | 10 => .int
  | _ => .int
abbrev wsX30 : List Cond := u_ws RX3 TX3 12
theorem nmX3 : ∀ a, a < 12 → ∀ b, b < 12 → a ≠ b → (TX3 a).2.1 ≠ (TX3 b).2.1 := by decide +kernel
theorem tyX3_ok : ∀ k, k < 12 → parseFieldDescriptor (TX3 k).2.2.1 = some (tyX3 k) := by decide +kernel
abbrev cX3_init : ByteArray := prog_5_method_1_code
def yX3_init : MethodName := ⟨RX3, "<init>", "()V"⟩
abbrev cX3_load : ByteArray := prog_5_method_2_code
def yX3_load : MethodName := ⟨RX3, "load", "(LPictureReader$Tape;)V"⟩
abbrev cX3_passOver : ByteArray := prog_5_method_3_code
def yX3_passOver : MethodName := ⟨RX3, "passOver", "(LPictureReader$Tape;I)I"⟩
abbrev cX3_take : ByteArray := prog_5_method_4_code
def yX3_take : MethodName := ⟨RX3, "take", "(LPictureReader$Tape;I)I"⟩
abbrev cX3_takeKind : ByteArray := prog_5_method_5_code
def yX3_takeKind : MethodName := ⟨RX3, "takeKind", "(LPictureReader$Tape;I)I"⟩
abbrev cX3_takeThing : ByteArray := prog_5_method_6_code
def yX3_takeThing : MethodName := ⟨RX3, "takeThing", "(LPictureReader$Tape;I)I"⟩
abbrev cX3_takeRow : ByteArray := prog_5_method_7_code
def yX3_takeRow : MethodName := ⟨RX3, "takeRow", "(LPictureReader$Tape;I)I"⟩
abbrev cX3_takeSoft : ByteArray := prog_5_method_8_code
def yX3_takeSoft : MethodName := ⟨RX3, "takeSoft", "(LPictureReader$Tape;I)I"⟩
abbrev cX3_takeRoot : ByteArray := prog_5_method_9_code
def yX3_takeRoot : MethodName := ⟨RX3, "takeRoot", "(LPictureReader$Tape;I)I"⟩
abbrev cX3_count : ByteArray := prog_5_method_10_code
def yX3_count : MethodName := ⟨RX3, "count", "(I)I"⟩
def RX4 : String := "PictureReader$Roots"
def TX4 : u_T := fun k => match k with
  | 0 => ("PictureReader$Roots", "refs", "[I", true)
  | 1 => ("PictureReader$Roots", "targets", "[I", true)
  | 2 => ("PictureReader$Roots", "count", "I", false)
  | _ => ("PictureReader$Roots", "unknown", "I", false)
def tyX4 : Nat → FieldType := fun k => match k with
  | 0 => .array .int
  | 1 => .array .int
  | 2 => .int
  | _ => .int
abbrev wsX40 : List Cond := u_ws RX4 TX4 4
theorem nmX4 : ∀ a, a < 4 → ∀ b, b < 4 → a ≠ b → (TX4 a).2.1 ≠ (TX4 b).2.1 := by decide +kernel
theorem tyX4_ok : ∀ k, k < 4 → parseFieldDescriptor (TX4 k).2.2.1 = some (tyX4 k) := by decide +kernel
abbrev cX4_init : ByteArray := prog_6_method_1_code
def yX4_init : MethodName := ⟨RX4, "<init>", "()V"⟩
abbrev cX4_clear : ByteArray := prog_6_method_2_code
def yX4_clear : MethodName := ⟨RX4, "clear", "()V"⟩
abbrev cX4_admits : ByteArray := prog_6_method_3_code
def yX4_admits : MethodName := ⟨RX4, "admits", "(II)Z"⟩
abbrev cX4_add : ByteArray := prog_6_method_4_code
def yX4_add : MethodName := ⟨RX4, "add", "(I)V"⟩
abbrev cX4_connect : ByteArray := prog_6_method_5_code
def yX4_connect : MethodName := ⟨RX4, "connect", "(LPictureReader$Things;)V"⟩
abbrev cX4_size : ByteArray := prog_6_method_6_code
def yX4_size : MethodName := ⟨RX4, "size", "()I"⟩
abbrev cX4_unknownRefs : ByteArray := prog_6_method_7_code
def yX4_unknownRefs : MethodName := ⟨RX4, "unknownRefs", "()I"⟩
abbrev cX4_targetAt : ByteArray := prog_6_method_8_code
def yX4_targetAt : MethodName := ⟨RX4, "targetAt", "(I)I"⟩
def RX5 : String := "PictureReader$Spread"
def TX5 : u_T := fun k => match k with
  | 0 => ("PictureReader$Spread", "line", "[I", true)
  | 1 => ("PictureReader$Spread", "distances", "[I", true)
  | 2 => ("PictureReader$Spread", "before", "[I", true)
  | _ => ("PictureReader$Spread", "count", "I", false)
def tyX5 : Nat → FieldType := fun k => match k with
  | 0 => .array .int
  | 1 => .array .int
  | 2 => .array .int
  | _ => .int
abbrev wsX50 : List Cond := u_ws RX5 TX5 4
theorem nmX5 : ∀ a, a < 4 → ∀ b, b < 4 → a ≠ b → (TX5 a).2.1 ≠ (TX5 b).2.1 := by decide +kernel
theorem tyX5_ok : ∀ k, k < 4 → parseFieldDescriptor (TX5 k).2.2.1 = some (tyX5 k) := by decide +kernel
abbrev cX5_init : ByteArray := prog_7_method_1_code
def yX5_init : MethodName := ⟨RX5, "<init>", "()V"⟩
abbrev cX5_settle : ByteArray := prog_7_method_2_code
def yX5_settle : MethodName := ⟨RX5, "settle", "(LPictureReader$Things;LPictureReader$Roots;Z)V"⟩
abbrev cX5_leave : ByteArray := prog_7_method_3_code
def yX5_leave : MethodName := ⟨RX5, "leave", "(LPictureReader$Things;I)V"⟩
abbrev cX5_enter : ByteArray := prog_7_method_4_code
def yX5_enter : MethodName := ⟨RX5, "enter", "(LPictureReader$Things;III)V"⟩
abbrev cX5_size : ByteArray := prog_7_method_5_code
def yX5_size : MethodName := ⟨RX5, "size", "()I"⟩
abbrev cX5_idAt : ByteArray := prog_7_method_6_code
def yX5_idAt : MethodName := ⟨RX5, "idAt", "(I)I"⟩
abbrev cX5_distanceOf : ByteArray := prog_7_method_7_code
def yX5_distanceOf : MethodName := ⟨RX5, "distanceOf", "(I)I"⟩
abbrev cX5_beforeOf : ByteArray := prog_7_method_8_code
def yX5_beforeOf : MethodName := ⟨RX5, "beforeOf", "(I)I"⟩
def RX6 : String := "PictureReader$Tape"
def TX6 : u_T := fun k => match k with
  | 0 => ("PictureReader$Tape", "bytes", "[B", true)
  | _ => ("PictureReader$Tape", "length", "I", false)
def tyX6 : Nat → FieldType := fun k => match k with
  | 0 => .array .byte
  | _ => .int
abbrev wsX60 : List Cond := u_ws RX6 TX6 2
theorem nmX6 : ∀ a, a < 2 → ∀ b, b < 2 → a ≠ b → (TX6 a).2.1 ≠ (TX6 b).2.1 := by decide +kernel
theorem tyX6_ok : ∀ k, k < 2 → parseFieldDescriptor (TX6 k).2.2.1 = some (tyX6 k) := by decide +kernel
abbrev cX6_init : ByteArray := prog_8_method_1_code
def yX6_init : MethodName := ⟨RX6, "<init>", "()V"⟩
abbrev cX6_size : ByteArray := prog_8_method_2_code
def yX6_size : MethodName := ⟨RX6, "size", "()I"⟩
abbrev cX6_hasRoom : ByteArray := prog_8_method_3_code
def yX6_hasRoom : MethodName := ⟨RX6, "hasRoom", "(I)Z"⟩
abbrev cX6_put : ByteArray := prog_8_method_4_code
def yX6_put : MethodName := ⟨RX6, "put", "(I)V"⟩
abbrev cX6_cut : ByteArray := prog_8_method_5_code
def yX6_cut : MethodName := ⟨RX6, "cut", "(I)V"⟩
abbrev cX6_at : ByteArray := prog_8_method_6_code
def yX6_at : MethodName := ⟨RX6, "at", "(I)I"⟩
abbrev cX6_pairAt : ByteArray := prog_8_method_7_code
def yX6_pairAt : MethodName := ⟨RX6, "pairAt", "(I)I"⟩
abbrev cX6_valueAt : ByteArray := prog_8_method_8_code
def yX6_valueAt : MethodName := ⟨RX6, "valueAt", "(II)J"⟩
abbrev cX6_closesAt : ByteArray := prog_8_method_9_code
def yX6_closesAt : MethodName := ⟨RX6, "closesAt", "(I)Z"⟩
abbrev cX6_tornFrom : ByteArray := prog_8_method_10_code
def yX6_tornFrom : MethodName := ⟨RX6, "tornFrom", "(I)I"⟩
def RX7 : String := "PictureReader$Things"
def TX7 : u_T := fun k => match k with
  | 0 => ("PictureReader$Things", "numbers", "[I", true)
  | 1 => ("PictureReader$Things", "sorts", "[I", true)
  | 2 => ("PictureReader$Things", "kinds", "[I", true)
  | 3 => ("PictureReader$Things", "places", "[I", true)
  | 4 => ("PictureReader$Things", "sizes", "[I", true)
  | 5 => ("PictureReader$Things", "pointers", "[I", true)
  | 6 => ("PictureReader$Things", "byNumber", "[I", true)
  | 7 => ("PictureReader$Things", "valueStarts", "[I", true)
  | 8 => ("PictureReader$Things", "refStarts", "[I", true)
  | 9 => ("PictureReader$Things", "values", "[J", true)
  | 10 => ("PictureReader$Things", "refs", "[I", true)
  | 11 => ("PictureReader$Things", "targets", "[I", true)
  | 12 => ("PictureReader$Things", "count", "I", false)
  | 13 => ("PictureReader$Things", "refsSet", "I", false)
  | 14 => ("PictureReader$Things", "unknown", "I", false)
  | 15 => ("PictureReader$Things", "valueEnd", "I", false)
  | 16 => ("PictureReader$Things", "refEnd", "I", false)
  | _ => ("PictureReader$Things", "spoiled", "Z", false)
def tyX7 : Nat → FieldType := fun k => match k with
  | 0 => .array .int
  | 1 => .array .int
  | 2 => .array .int
  | 3 => .array .int
  | 4 => .array .int
  | 5 => .array .int
  | 6 => .array .int
  | 7 => .array .int
  | 8 => .array .int
  | 9 => .array .long
  | 10 => .array .int
  | 11 => .array .int
  | 12 => .int
  | 13 => .int
  | 14 => .int
  | 15 => .int
  | 16 => .int
  | _ => .boolean
abbrev wsX70 : List Cond := u_ws RX7 TX7 18
theorem nmX7 : ∀ a, a < 18 → ∀ b, b < 18 → a ≠ b → (TX7 a).2.1 ≠ (TX7 b).2.1 := by decide +kernel
theorem tyX7_ok : ∀ k, k < 18 → parseFieldDescriptor (TX7 k).2.2.1 = some (tyX7 k) := by decide +kernel
abbrev cX7_init : ByteArray := prog_9_method_1_code
def yX7_init : MethodName := ⟨RX7, "<init>", "()V"⟩
abbrev cX7_clear : ByteArray := prog_9_method_2_code
def yX7_clear : MethodName := ⟨RX7, "clear", "()V"⟩
abbrev cX7_size : ByteArray := prog_9_method_3_code
def yX7_size : MethodName := ⟨RX7, "size", "()I"⟩
abbrev cX7_has : ByteArray := prog_9_method_4_code
def yX7_has : MethodName := ⟨RX7, "has", "(I)Z"⟩
abbrev cX7_admits : ByteArray := prog_9_method_5_code
def yX7_admits : MethodName := ⟨RX7, "admits", "(I)Z"⟩
abbrev cX7_begin : ByteArray := prog_9_method_6_code
def yX7_begin : MethodName := ⟨RX7, "begin", "()V"⟩
abbrev cX7_addValue : ByteArray := prog_9_method_7_code
def yX7_addValue : MethodName := ⟨RX7, "addValue", "(IJ)V"⟩
abbrev cX7_keep : ByteArray := prog_9_method_8_code
def yX7_keep : MethodName := ⟨RX7, "keep", "(IIIII)Z"⟩
abbrev cX7_countSet : ByteArray := prog_9_method_9_code
def yX7_countSet : MethodName := ⟨RX7, "countSet", "(II)I"⟩
abbrev cX7_enlist : ByteArray := prog_9_method_10_code
def yX7_enlist : MethodName := ⟨RX7, "enlist", "(I)V"⟩
abbrev cX7_countBelow : ByteArray := prog_9_method_11_code
def yX7_countBelow : MethodName := ⟨RX7, "countBelow", "(I)I"⟩
abbrev cX7_find : ByteArray := prog_9_method_12_code
def yX7_find : MethodName := ⟨RX7, "find", "(I)I"⟩
abbrev cX7_numberByRank : ByteArray := prog_9_method_13_code
def yX7_numberByRank : MethodName := ⟨RX7, "numberByRank", "(I)I"⟩
abbrev cX7_idByRank : ByteArray := prog_9_method_14_code
def yX7_idByRank : MethodName := ⟨RX7, "idByRank", "(I)I"⟩
abbrev cX7_connect : ByteArray := prog_9_method_15_code
def yX7_connect : MethodName := ⟨RX7, "connect", "()V"⟩
abbrev cX7_unknownRefs : ByteArray := prog_9_method_16_code
def yX7_unknownRefs : MethodName := ⟨RX7, "unknownRefs", "()I"⟩
abbrev cX7_numberOf : ByteArray := prog_9_method_17_code
def yX7_numberOf : MethodName := ⟨RX7, "numberOf", "(I)I"⟩
abbrev cX7_sizeOf : ByteArray := prog_9_method_18_code
def yX7_sizeOf : MethodName := ⟨RX7, "sizeOf", "(I)I"⟩
abbrev cX7_isRow : ByteArray := prog_9_method_19_code
def yX7_isRow : MethodName := ⟨RX7, "isRow", "(I)Z"⟩
abbrev cX7_isSoft : ByteArray := prog_9_method_20_code
def yX7_isSoft : MethodName := ⟨RX7, "isSoft", "(I)Z"⟩
abbrev cX7_valueCount : ByteArray := prog_9_method_21_code
def yX7_valueCount : MethodName := ⟨RX7, "valueCount", "(I)I"⟩
abbrev cX7_refCount : ByteArray := prog_9_method_22_code
def yX7_refCount : MethodName := ⟨RX7, "refCount", "(I)I"⟩
abbrev cX7_valueOf : ByteArray := prog_9_method_23_code
def yX7_valueOf : MethodName := ⟨RX7, "valueOf", "(II)J"⟩
abbrev cX7_refOf : ByteArray := prog_9_method_24_code
def yX7_refOf : MethodName := ⟨RX7, "refOf", "(II)I"⟩
abbrev cX7_targetOf : ByteArray := prog_9_method_25_code
def yX7_targetOf : MethodName := ⟨RX7, "targetOf", "(II)I"⟩
abbrev cX7_tell : ByteArray := prog_9_method_26_code
def yX7_tell : MethodName := ⟨RX7, "tell", "(II)I"⟩
abbrev cX7_allSizes : ByteArray := prog_9_method_27_code
def yX7_allSizes : MethodName := ⟨RX7, "allSizes", "()I"⟩
abbrev cX7_countOfKind : ByteArray := prog_9_method_28_code
def yX7_countOfKind : MethodName := ⟨RX7, "countOfKind", "(I)I"⟩
abbrev cX7_sameSort : ByteArray := prog_9_method_29_code
def yX7_sameSort : MethodName := ⟨RX7, "sameSort", "(ILPictureReader$Things;I)Z"⟩
abbrev cX7_sameValues : ByteArray := prog_9_method_30_code
def yX7_sameValues : MethodName := ⟨RX7, "sameValues", "(ILPictureReader$Things;I)Z"⟩
abbrev cX7_printOf : ByteArray := prog_9_method_31_code
def yX7_printOf : MethodName := ⟨RX7, "printOf", "(I)I"⟩
def RX8 : String := "PictureReader$Trail"
def TX8 : u_T := fun k => match k with
  | 0 => ("PictureReader$Trail", "numbers", "[I", true)
  | _ => ("PictureReader$Trail", "length", "I", false)
def tyX8 : Nat → FieldType := fun k => match k with
  | 0 => .array .int
  | _ => .int
abbrev wsX80 : List Cond := u_ws RX8 TX8 2
theorem nmX8 : ∀ a, a < 2 → ∀ b, b < 2 → a ≠ b → (TX8 a).2.1 ≠ (TX8 b).2.1 := by decide +kernel
theorem tyX8_ok : ∀ k, k < 2 → parseFieldDescriptor (TX8 k).2.2.1 = some (tyX8 k) := by decide +kernel
abbrev cX8_init : ByteArray := prog_10_method_1_code
def yX8_init : MethodName := ⟨RX8, "<init>", "()V"⟩
abbrev cX8_numberAt : ByteArray := prog_10_method_2_code
def yX8_numberAt : MethodName := ⟨RX8, "numberAt", "(I)I"⟩
abbrev cX8_follow : ByteArray := prog_10_method_3_code
def yX8_follow : MethodName := ⟨RX8, "follow", "(LPictureReader$Things;LPictureReader$Spread;I)I"⟩
def RX9 : String := "PictureReader$Twins"
def TX9 : u_T := fun k => match k with
  | 0 => ("PictureReader$Twins", "heads", "[I", true)
  | 1 => ("PictureReader$Twins", "members", "[I", true)
  | 2 => ("PictureReader$Twins", "prints", "[I", true)
  | _ => ("PictureReader$Twins", "count", "I", false)
def tyX9 : Nat → FieldType := fun k => match k with
  | 0 => .array .int
  | 1 => .array .int
  | 2 => .array .int
  | _ => .int
abbrev wsX90 : List Cond := u_ws RX9 TX9 4
theorem nmX9 : ∀ a, a < 4 → ∀ b, b < 4 → a ≠ b → (TX9 a).2.1 ≠ (TX9 b).2.1 := by decide +kernel
theorem tyX9_ok : ∀ k, k < 4 → parseFieldDescriptor (TX9 k).2.2.1 = some (tyX9 k) := by decide +kernel
abbrev cX9_init : ByteArray := prog_11_method_1_code
def yX9_init : MethodName := ⟨RX9, "<init>", "()V"⟩
abbrev cX9_settle : ByteArray := prog_11_method_2_code
def yX9_settle : MethodName := ⟨RX9, "settle", "(LPictureReader$Things;)V"⟩
abbrev cX9_join : ByteArray := prog_11_method_3_code
def yX9_join : MethodName := ⟨RX9, "join", "(LPictureReader$Things;I)V"⟩
abbrev cX9_dropLone : ByteArray := prog_11_method_4_code
def yX9_dropLone : MethodName := ⟨RX9, "dropLone", "()V"⟩
abbrev cX9_size : ByteArray := prog_11_method_5_code
def yX9_size : MethodName := ⟨RX9, "size", "()I"⟩
abbrev cX9_tell : ByteArray := prog_11_method_6_code
def yX9_tell : MethodName := ⟨RX9, "tell", "(LPictureReader$Things;II)I"⟩
def RX10 : String := "PictureReader"
def TX10 : u_T := fun k => match k with
  | 0 => ("PictureReader", "tape", "LPictureReader$Tape;", true)
  | 1 => ("PictureReader", "pictures", "[LPictureReader$Picture;", true)
  | _ => ("PictureReader", "trail", "LPictureReader$Trail;", true)
def tyX10 : Nat → FieldType := fun k => match k with
  | 0 => .object "PictureReader$Tape"
  | 1 => .array (.object "PictureReader$Picture")
  | _ => .object "PictureReader$Trail"
abbrev wsX100 : List Cond := u_ws RX10 TX10 3
theorem nmX10 : ∀ a, a < 3 → ∀ b, b < 3 → a ≠ b → (TX10 a).2.1 ≠ (TX10 b).2.1 := by decide +kernel
theorem tyX10_ok : ∀ k, k < 3 → parseFieldDescriptor (TX10 k).2.2.1 = some (tyX10 k) := by decide +kernel
abbrev cX10_init : ByteArray := prog_1_method_1_code
def yX10_init : MethodName := ⟨RX10, "<init>", "()V"⟩
abbrev cX10_feed : ByteArray := prog_1_method_2_code
def yX10_feed : MethodName := ⟨RX10, "feed", "(IIIII)I"⟩
abbrev cX10_end : ByteArray := prog_1_method_3_code
def yX10_end : MethodName := ⟨RX10, "end", "(I)I"⟩
abbrev cX10_read : ByteArray := prog_1_method_4_code
def yX10_read : MethodName := ⟨RX10, "read", "(I)I"⟩
abbrev cX10_about : ByteArray := prog_1_method_5_code
def yX10_about : MethodName := ⟨RX10, "about", "(II)I"⟩
abbrev cX10_hole : ByteArray := prog_1_method_6_code
def yX10_hole : MethodName := ⟨RX10, "hole", "(III)I"⟩
abbrev cX10_thing : ByteArray := prog_1_method_7_code
def yX10_thing : MethodName := ⟨RX10, "thing", "(II)I"⟩
abbrev cX10_told : ByteArray := prog_1_method_8_code
def yX10_told : MethodName := ⟨RX10, "told", "(III)I"⟩
abbrev cX10_value : ByteArray := prog_1_method_9_code
def yX10_value : MethodName := ⟨RX10, "value", "(III)J"⟩
abbrev cX10_ref : ByteArray := prog_1_method_10_code
def yX10_ref : MethodName := ⟨RX10, "ref", "(III)I"⟩
abbrev cX10_under : ByteArray := prog_1_method_11_code
def yX10_under : MethodName := ⟨RX10, "under", "(III)I"⟩
abbrev cX10_alive : ByteArray := prog_1_method_12_code
def yX10_alive : MethodName := ⟨RX10, "alive", "(II)I"⟩
abbrev cX10_keeper : ByteArray := prog_1_method_13_code
def yX10_keeper : MethodName := ⟨RX10, "keeper", "(II)I"⟩
abbrev cX10_kept : ByteArray := prog_1_method_14_code
def yX10_kept : MethodName := ⟨RX10, "kept", "(II)I"⟩
abbrev cX10_height : ByteArray := prog_1_method_15_code
def yX10_height : MethodName := ⟨RX10, "height", "(II)I"⟩
abbrev cX10_way : ByteArray := prog_1_method_16_code
def yX10_way : MethodName := ⟨RX10, "way", "(III)I"⟩
abbrev cX10_step : ByteArray := prog_1_method_17_code
def yX10_step : MethodName := ⟨RX10, "step", "(I)I"⟩
abbrev cX10_groups : ByteArray := prog_1_method_18_code
def yX10_groups : MethodName := ⟨RX10, "groups", "(I)I"⟩
abbrev cX10_group : ByteArray := prog_1_method_19_code
def yX10_group : MethodName := ⟨RX10, "group", "(III)I"⟩
abbrev cX10_top : ByteArray := prog_1_method_20_code
def yX10_top : MethodName := ⟨RX10, "top", "(II)I"⟩
abbrev cX10_differ : ByteArray := prog_1_method_21_code
def yX10_differ : MethodName := ⟨RX10, "differ", "(III)I"⟩
abbrev cX10_differs : ByteArray := prog_1_method_22_code
def yX10_differs : MethodName := ⟨RX10, "differs", "(IIII)I"⟩
abbrev cX10_grown : ByteArray := prog_1_method_23_code
def yX10_grown : MethodName := ⟨RX10, "grown", "(III)I"⟩
abbrev cX10_pictureAt : ByteArray := prog_1_method_24_code
def yX10_pictureAt : MethodName := ⟨RX10, "pictureAt", "(I)LPictureReader$Picture;"⟩
abbrev cX10_relatedAt : ByteArray := prog_1_method_25_code
def yX10_relatedAt : MethodName := ⟨RX10, "relatedAt", "(LPictureReader$Things;LPictureReader$Things;II)I"⟩
abbrev cX10_relation : ByteArray := prog_1_method_26_code
def yX10_relation : MethodName := ⟨RX10, "relation", "(LPictureReader$Things;LPictureReader$Things;I)I"⟩
abbrev cX10_widthOf : ByteArray := prog_1_method_27_code
def yX10_widthOf : MethodName := ⟨RX10, "widthOf", "(I)I"⟩
abbrev cX10_isSort : ByteArray := prog_1_method_28_code
def yX10_isSort : MethodName := ⟨RX10, "isSort", "(I)Z"⟩
abbrev cX10_isId : ByteArray := prog_1_method_29_code
def yX10_isId : MethodName := ⟨RX10, "isId", "(I)Z"⟩
def RX11 : String := "PictureReaderModel"
def TX11 : u_T := fun k => match k with
  | 0 => ("PictureReaderModel", "tape", "[B", true)
  | 1 => ("PictureReaderModel", "fed", "I", false)
  | 2 => ("PictureReaderModel", "bytes", "[B", true)
  | 3 => ("PictureReaderModel", "size", "[I", true)
  | 4 => ("PictureReaderModel", "records", "[I", true)
  | 5 => ("PictureReaderModel", "recordBytes", "[I", true)
  | 6 => ("PictureReaderModel", "marks", "[I", true)
  | 7 => ("PictureReaderModel", "holes", "[I", true)
  | 8 => ("PictureReaderModel", "holeBytes", "[I", true)
  | 9 => ("PictureReaderModel", "holeAt", "[I", true)
  | 10 => ("PictureReaderModel", "holeSize", "[I", true)
  | 11 => ("PictureReaderModel", "kindAt", "[I", true)
  | 12 => ("PictureReaderModel", "kinds", "[I", true)
  | 13 => ("PictureReaderModel", "thingAt", "[I", true)
  | 14 => ("PictureReaderModel", "things", "[I", true)
  | 15 => ("PictureReaderModel", "refs", "[I", true)
  | 16 => ("PictureReaderModel", "roots", "[I", true)
  | 17 => ("PictureReaderModel", "rootMany", "[I", true)
  | 18 => ("PictureReaderModel", "living", "[Z", true)
  | 19 => ("PictureReaderModel", "without", "[Z", true)
  | 20 => ("PictureReaderModel", "pile", "[I", true)
  | 21 => ("PictureReaderModel", "far", "[I", true)
  | 22 => ("PictureReaderModel", "way", "[I", true)
  | 23 => ("PictureReaderModel", "wayMany", "I", false)
  | 24 => ("PictureReaderModel", "chain", "[I", true)
  | 25 => ("PictureReaderModel", "kept", "[I", true)
  | 26 => ("PictureReaderModel", "needs", "[I", true)
  | _ => ("PictureReaderModel", "placeOf", "[I", true)
def tyX11 : Nat → FieldType := fun k => match k with
  | 0 => .array .byte
  | 1 => .int
  | 2 => .array .byte
  | 3 => .array .int
  | 4 => .array .int
  | 5 => .array .int
  | 6 => .array .int
  | 7 => .array .int
  | 8 => .array .int
  | 9 => .array .int
  | 10 => .array .int
  | 11 => .array .int
  | 12 => .array .int
  | 13 => .array .int
  | 14 => .array .int
  | 15 => .array .int
  | 16 => .array .int
  | 17 => .array .int
  | 18 => .array .boolean
  | 19 => .array .boolean
  | 20 => .array .int
  | 21 => .array .int
  | 22 => .array .int
  | 23 => .int
  | 24 => .array .int
  | 25 => .array .int
  | 26 => .array .int
  | _ => .array .int
abbrev wsX110 : List Cond := u_ws RX11 TX11 28
theorem nmX11 : ∀ a, a < 28 → ∀ b, b < 28 → a ≠ b → (TX11 a).2.1 ≠ (TX11 b).2.1 := by decide +kernel
theorem tyX11_ok : ∀ k, k < 28 → parseFieldDescriptor (TX11 k).2.2.1 = some (tyX11 k) := by decide +kernel
abbrev cX11_init : ByteArray := prog_13_method_1_code
def yX11_init : MethodName := ⟨RX11, "<init>", "()V"⟩
abbrev cX11_isPicture : ByteArray := prog_13_method_2_code
def yX11_isPicture : MethodName := ⟨RX11, "isPicture", "(I)Z"⟩
abbrev cX11_feed : ByteArray := prog_13_method_3_code
def yX11_feed : MethodName := ⟨RX11, "feed", "(IIIII)I"⟩
abbrev cX11_end : ByteArray := prog_13_method_4_code
def yX11_end : MethodName := ⟨RX11, "end", "(I)I"⟩
abbrev cX11_at : ByteArray := prog_13_method_5_code
def yX11_at : MethodName := ⟨RX11, "at", "(II)I"⟩
abbrev cX11_two : ByteArray := prog_13_method_6_code
def yX11_two : MethodName := ⟨RX11, "two", "(II)I"⟩
abbrev cX11_width : ByteArray := prog_13_method_7_code
def yX11_width : MethodName := ⟨RX11, "width", "(I)I"⟩
abbrev cX11_kindPlace : ByteArray := prog_13_method_8_code
def yX11_kindPlace : MethodName := ⟨RX11, "kindPlace", "(II)I"⟩
abbrev cX11_above : ByteArray := prog_13_method_9_code
def yX11_above : MethodName := ⟨RX11, "above", "(II)I"⟩
abbrev cX11_fieldsOf : ByteArray := prog_13_method_10_code
def yX11_fieldsOf : MethodName := ⟨RX11, "fieldsOf", "(II)I"⟩
abbrev cX11_sortOf : ByteArray := prog_13_method_11_code
def yX11_sortOf : MethodName := ⟨RX11, "sortOf", "(III)I"⟩
abbrev cX11_find : ByteArray := prog_13_method_12_code
def yX11_find : MethodName := ⟨RX11, "find", "(II)I"⟩
abbrev cX11_numberOf : ByteArray := prog_13_method_13_code
def yX11_numberOf : MethodName := ⟨RX11, "numberOf", "(II)I"⟩
abbrev cX11_sort : ByteArray := prog_13_method_14_code
def yX11_sort : MethodName := ⟨RX11, "sort", "(II)I"⟩
abbrev cX11_valuesAt : ByteArray := prog_13_method_15_code
def yX11_valuesAt : MethodName := ⟨RX11, "valuesAt", "(II)I"⟩
abbrev cX11_sortAt : ByteArray := prog_13_method_16_code
def yX11_sortAt : MethodName := ⟨RX11, "sortAt", "(III)I"⟩
abbrev cX11_valuePlace : ByteArray := prog_13_method_17_code
def yX11_valuePlace : MethodName := ⟨RX11, "valuePlace", "(III)I"⟩
abbrev cX11_valueAt : ByteArray := prog_13_method_18_code
def yX11_valueAt : MethodName := ⟨RX11, "valueAt", "(III)J"⟩
abbrev cX11_sizeOf : ByteArray := prog_13_method_19_code
def yX11_sizeOf : MethodName := ⟨RX11, "sizeOf", "(II)I"⟩
abbrev cX11_refsNotZero : ByteArray := prog_13_method_20_code
def yX11_refsNotZero : MethodName := ⟨RX11, "refsNotZero", "(II)I"⟩
abbrev cX11_truthsAreRight : ByteArray := prog_13_method_21_code
def yX11_truthsAreRight : MethodName := ⟨RX11, "truthsAreRight", "(II)Z"⟩
abbrev cX11_has : ByteArray := prog_13_method_22_code
def yX11_has : MethodName := ⟨RX11, "has", "(III)Z"⟩
abbrev cX11_isEnd : ByteArray := prog_13_method_23_code
def yX11_isEnd : MethodName := ⟨RX11, "isEnd", "(II)Z"⟩
abbrev cX11_record : ByteArray := prog_13_method_24_code
def yX11_record : MethodName := ⟨RX11, "record", "(II)I"⟩
abbrev cX11_kindRecord : ByteArray := prog_13_method_25_code
def yX11_kindRecord : MethodName := ⟨RX11, "kindRecord", "(II)I"⟩
abbrev cX11_take : ByteArray := prog_13_method_26_code
def yX11_take : MethodName := ⟨RX11, "take", "(II)V"⟩
abbrev cX11_read : ByteArray := prog_13_method_27_code
def yX11_read : MethodName := ⟨RX11, "read", "(I)I"⟩
abbrev cX11_live : ByteArray := prog_13_method_28_code
def yX11_live : MethodName := ⟨RX11, "live", "(II[ZZ)V"⟩
abbrev cX11_target : ByteArray := prog_13_method_29_code
def yX11_target : MethodName := ⟨RX11, "target", "(III)I"⟩
abbrev cX11_weigh : ByteArray := prog_13_method_30_code
def yX11_weigh : MethodName := ⟨RX11, "weigh", "(I)V"⟩
abbrev cX11_livingPlace : ByteArray := prog_13_method_31_code
def yX11_livingPlace : MethodName := ⟨RX11, "livingPlace", "(II)I"⟩
abbrev cX11_alive : ByteArray := prog_13_method_32_code
def yX11_alive : MethodName := ⟨RX11, "alive", "(II)I"⟩
abbrev cX11_keeper : ByteArray := prog_13_method_33_code
def yX11_keeper : MethodName := ⟨RX11, "keeper", "(II)I"⟩
abbrev cX11_kept : ByteArray := prog_13_method_34_code
def yX11_kept : MethodName := ⟨RX11, "kept", "(II)I"⟩
abbrev cX11_height : ByteArray := prog_13_method_35_code
def yX11_height : MethodName := ⟨RX11, "height", "(II)I"⟩
abbrev cX11_top : ByteArray := prog_13_method_36_code
def yX11_top : MethodName := ⟨RX11, "top", "(II)I"⟩
abbrev cX11_measure : ByteArray := prog_13_method_37_code
def yX11_measure : MethodName := ⟨RX11, "measure", "(IIZ)V"⟩
abbrev cX11_leads : ByteArray := prog_13_method_38_code
def yX11_leads : MethodName := ⟨RX11, "leads", "(IIIZ)I"⟩
abbrev cX11_way : ByteArray := prog_13_method_39_code
def yX11_way : MethodName := ⟨RX11, "way", "(III)I"⟩
abbrev cX11_step : ByteArray := prog_13_method_40_code
def yX11_step : MethodName := ⟨RX11, "step", "(I)I"⟩
abbrev cX11_isLike : ByteArray := prog_13_method_41_code
def yX11_isLike : MethodName := ⟨RX11, "isLike", "(III)Z"⟩
abbrev cX11_groupOf : ByteArray := prog_13_method_42_code
def yX11_groupOf : MethodName := ⟨RX11, "groupOf", "(II)I"⟩
abbrev cX11_groups : ByteArray := prog_13_method_43_code
def yX11_groups : MethodName := ⟨RX11, "groups", "(I)I"⟩
abbrev cX11_group : ByteArray := prog_13_method_44_code
def yX11_group : MethodName := ⟨RX11, "group", "(III)I"⟩
abbrev cX11_about : ByteArray := prog_13_method_45_code
def yX11_about : MethodName := ⟨RX11, "about", "(II)I"⟩
abbrev cX11_unknown : ByteArray := prog_13_method_46_code
def yX11_unknown : MethodName := ⟨RX11, "unknown", "(I)I"⟩
abbrev cX11_hole : ByteArray := prog_13_method_47_code
def yX11_hole : MethodName := ⟨RX11, "hole", "(III)I"⟩
abbrev cX11_thing : ByteArray := prog_13_method_48_code
def yX11_thing : MethodName := ⟨RX11, "thing", "(II)I"⟩
abbrev cX11_refsOf : ByteArray := prog_13_method_49_code
def yX11_refsOf : MethodName := ⟨RX11, "refsOf", "(II)I"⟩
abbrev cX11_refsTo : ByteArray := prog_13_method_50_code
def yX11_refsTo : MethodName := ⟨RX11, "refsTo", "(II)I"⟩
abbrev cX11_told : ByteArray := prog_13_method_51_code
def yX11_told : MethodName := ⟨RX11, "told", "(III)I"⟩
abbrev cX11_value : ByteArray := prog_13_method_52_code
def yX11_value : MethodName := ⟨RX11, "value", "(III)J"⟩
abbrev cX11_ref : ByteArray := prog_13_method_53_code
def yX11_ref : MethodName := ⟨RX11, "ref", "(III)I"⟩
abbrev cX11_under : ByteArray := prog_13_method_54_code
def yX11_under : MethodName := ⟨RX11, "under", "(III)I"⟩
abbrev cX11_change : ByteArray := prog_13_method_55_code
def yX11_change : MethodName := ⟨RX11, "change", "(III)I"⟩
abbrev cX11_nextNumber : ByteArray := prog_13_method_56_code
def yX11_nextNumber : MethodName := ⟨RX11, "nextNumber", "(III)I"⟩
abbrev cX11_changed : ByteArray := prog_13_method_57_code
def yX11_changed : MethodName := ⟨RX11, "changed", "(IIII)I"⟩
abbrev cX11_differ : ByteArray := prog_13_method_58_code
def yX11_differ : MethodName := ⟨RX11, "differ", "(III)I"⟩
abbrev cX11_differs : ByteArray := prog_13_method_59_code
def yX11_differs : MethodName := ⟨RX11, "differs", "(IIII)I"⟩
abbrev cX11_ofKind : ByteArray := prog_13_method_60_code
def yX11_ofKind : MethodName := ⟨RX11, "ofKind", "(II)I"⟩
abbrev cX11_grown : ByteArray := prog_13_method_61_code
def yX11_grown : MethodName := ⟨RX11, "grown", "(III)I"⟩
def RJ9 : String := "java/lang/Math"
def TJ9 : u_T := fun k => match k with
  | _ => ("", "", "", false)
def tyJ9 : Nat → FieldType := fun k => match k with
  | _ => .int
abbrev wsJ90 : List Cond := u_ws RJ9 TJ9 0
theorem nmJ9 : ∀ a, a < 0 → ∀ b, b < 0 → a ≠ b → (TJ9 a).2.1 ≠ (TJ9 b).2.1 := by decide +kernel
theorem tyJ9_ok : ∀ k, k < 0 → parseFieldDescriptor (TJ9 k).2.2.1 = some (tyJ9 k) := by decide +kernel
abbrev cJ9_max_7cf53 : ByteArray := prog_14_method_65_code
def yJ9_max_7cf53 : MethodName := ⟨RJ9, "max", "(II)I"⟩
def RJ10 : String := "java/lang/System"
def TJ10 : u_T := fun k => match k with
  | _ => ("", "", "", false)
def tyJ10 : Nat → FieldType := fun k => match k with
  | _ => .int
abbrev wsJ100 : List Cond := u_ws RJ10 TJ10 0
theorem nmJ10 : ∀ a, a < 0 → ∀ b, b < 0 → a ≠ b → (TJ10 a).2.1 ≠ (TJ10 b).2.1 := by decide +kernel
theorem tyJ10_ok : ∀ k, k < 0 → parseFieldDescriptor (TJ10 k).2.2.1 = some (tyJ10 k) := by decide +kernel
def RL : String := "PictureReaderLaw"
abbrev cL_law : ByteArray := code
def yL_law : MethodName := ⟨RL, "law", "([I)Z"⟩
/-- the words that pass from a method to its callees -/
def tgw : List Cond := lw_tbl.filter goodWord
theorem tgw_good {w : Cond} (h : w ∈ tgw) : (w.onTables && w.keeps) = true ∨ ∃ ty, w = .arrayClass ty := good_of_word (List.mem_filter.mp h).2
theorem tgw_in {w : Cond} (h : w ∈ tgw) : w ∈ lw_tbl := (List.mem_filter.mp h).1
theorem tgw_goodIn {y : MethodName} {b : ByteArray} {n : Nat} {r : Option FieldType} {y' : MethodName} {b' : ByteArray} {n' : Nat} {r' : Option FieldType} (h : Cond.code y' b' n' r' ∈ tgw) : GoodIn (Cond.code y b n r :: tgw) (Cond.code y' b' n' r' :: tgw) := by
  intro w hw
  rcases List.mem_cons.mp hw with rfl | hw
  · exact ⟨List.mem_cons_of_mem _ h, tgw_good h⟩
  · exact ⟨List.mem_cons_of_mem _ hw, tgw_good hw⟩
abbrev clsT : List vw_C := [(RX0, TX0, 4), (RX1, TX1, 7), (RX2, TX2, 6), (RX3, TX3, 12), (RX4, TX4, 4), (RX5, TX5, 4), (RX6, TX6, 2), (RX7, TX7, 18), (RX8, TX8, 2), (RX9, TX9, 4), (RX10, TX10, 3), (RX11, TX11, 28)]
def nfT : List Nat := [4, 7, 6, 12, 4, 4, 2, 18, 2, 4, 3, 28]
def fkT : List (List Nat) := [[1, 1, 0, 0], [1, 1, 1, 1, 1, 1, 0], [1, 1, 1, 1, 0, 0], [1, 1, 1, 1, 1, 1, 1, 1, 0, 0, 0, 0], [1, 1, 0, 0], [1, 1, 1, 0], [1, 0], [1, 1, 1, 1, 1, 1, 1, 1, 1, 1, 1, 1, 0, 0, 0, 0, 0, 2], [1, 0], [1, 1, 1, 0], [1, 1, 1], [1, 0, 1, 1, 1, 1, 1, 1, 1, 1, 1, 1, 1, 1, 1, 1, 1, 1, 1, 1, 1, 1, 1, 0, 1, 1, 1, 1]]

theorem inX0 : ∀ w ∈ wsX00, w ∈ tgw := by decide +kernel
theorem inX1 : ∀ w ∈ wsX10, w ∈ tgw := by decide +kernel
theorem inX2 : ∀ w ∈ wsX20, w ∈ tgw := by decide +kernel
theorem inX3 : ∀ w ∈ wsX30, w ∈ tgw := by decide +kernel
theorem inX4 : ∀ w ∈ wsX40, w ∈ tgw := by decide +kernel
theorem inX5 : ∀ w ∈ wsX50, w ∈ tgw := by decide +kernel
theorem inX6 : ∀ w ∈ wsX60, w ∈ tgw := by decide +kernel
theorem inX7 : ∀ w ∈ wsX70, w ∈ tgw := by decide +kernel
theorem inX8 : ∀ w ∈ wsX80, w ∈ tgw := by decide +kernel
theorem inX9 : ∀ w ∈ wsX90, w ∈ tgw := by decide +kernel
theorem inX10 : ∀ w ∈ wsX100, w ∈ tgw := by decide +kernel
theorem inX11 : ∀ w ∈ wsX110, w ∈ tgw := by decide +kernel
