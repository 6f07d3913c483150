section
-- ===== PART A: goes FIRST, ahead of the names: the tables' words, and 'selects' of the private methods out of them =====
/-- a private method of a class that the tables say can be made, by its rows of tables_1 -/
def lw_okq (q : MethodName × Nat) : Prop := (q.1.cls ≠ "java/lang/invoke/MethodHandle" ∧ q.1.cls ≠ "java/lang/invoke/VarHandle") ∧ Cond.instantiable q.1.cls q.2 ∈ tables_1 ∧ Cond.privateMethod q.1 ∈ tables_1 ∧ Cond.instanceMethod q.1 ∈ tables_1
theorem lw_p0 : lw_okq (⟨"ShapedRows$State", "isBehind", "(I)Z"⟩, 4) := ⟨⟨by decide +kernel, by decide +kernel⟩, List.mem_of_getElem? (i := 26) (by decide +kernel), List.mem_of_getElem? (i := 207) (by decide +kernel), List.mem_of_getElem? (i := 208) (by decide +kernel)⟩
theorem lw_p1 : lw_okq (⟨"ShapedRows$State", "rowsOfShape", "(I)I"⟩, 4) := ⟨⟨by decide +kernel, by decide +kernel⟩, List.mem_of_getElem? (i := 26) (by decide +kernel), List.mem_of_getElem? (i := 229) (by decide +kernel), List.mem_of_getElem? (i := 230) (by decide +kernel)⟩
theorem lw_p2 : lw_okq (⟨"ShapedRows", "counted", "(I)I"⟩, 3) := ⟨⟨by decide +kernel, by decide +kernel⟩, List.mem_of_getElem? (i := 18) (by decide +kernel), List.mem_of_getElem? (i := 238) (by decide +kernel), List.mem_of_getElem? (i := 239) (by decide +kernel)⟩
theorem lw_p3 : lw_okq (⟨"ShapedRows", "mixedShapes", "(J)J"⟩, 3) := ⟨⟨by decide +kernel, by decide +kernel⟩, List.mem_of_getElem? (i := 18) (by decide +kernel), List.mem_of_getElem? (i := 288) (by decide +kernel), List.mem_of_getElem? (i := 289) (by decide +kernel)⟩
theorem lw_p4 : lw_okq (⟨"ShapedRows$State", "readersOfShape", "(I)I"⟩, 4) := ⟨⟨by decide +kernel, by decide +kernel⟩, List.mem_of_getElem? (i := 26) (by decide +kernel), List.mem_of_getElem? (i := 301) (by decide +kernel), List.mem_of_getElem? (i := 302) (by decide +kernel)⟩
theorem lw_p5 : lw_okq (⟨"ShapedRows$Shapes", "placeOfLetter", "(II)I"⟩, 9) := ⟨⟨by decide +kernel, by decide +kernel⟩, List.mem_of_getElem? (i := 32) (by decide +kernel), List.mem_of_getElem? (i := 313) (by decide +kernel), List.mem_of_getElem? (i := 314) (by decide +kernel)⟩
theorem lw_p6 : lw_okq (⟨"ShapedRows$Shapes", "letterAt", "(II)I"⟩, 9) := ⟨⟨by decide +kernel, by decide +kernel⟩, List.mem_of_getElem? (i := 32) (by decide +kernel), List.mem_of_getElem? (i := 322) (by decide +kernel), List.mem_of_getElem? (i := 323) (by decide +kernel)⟩
theorem lw_p7 : lw_okq (⟨"ShapedRows$Shapes", "placeOfColumn", "(II)I"⟩, 9) := ⟨⟨by decide +kernel, by decide +kernel⟩, List.mem_of_getElem? (i := 32) (by decide +kernel), List.mem_of_getElem? (i := 331) (by decide +kernel), List.mem_of_getElem? (i := 332) (by decide +kernel)⟩
theorem lw_p8 : lw_okq (⟨"ShapedRows", "mixedRow", "(JI)J"⟩, 3) := ⟨⟨by decide +kernel, by decide +kernel⟩, List.mem_of_getElem? (i := 18) (by decide +kernel), List.mem_of_getElem? (i := 335) (by decide +kernel), List.mem_of_getElem? (i := 336) (by decide +kernel)⟩
theorem lw_p9 : lw_okq (⟨"ShapedRows$State", "sumRead", "(II)I"⟩, 4) := ⟨⟨by decide +kernel, by decide +kernel⟩, List.mem_of_getElem? (i := 26) (by decide +kernel), List.mem_of_getElem? (i := 347) (by decide +kernel), List.mem_of_getElem? (i := 348) (by decide +kernel)⟩
theorem lw_p10 : lw_okq (⟨"ShapedRows", "mixedText", "(J)J"⟩, 3) := ⟨⟨by decide +kernel, by decide +kernel⟩, List.mem_of_getElem? (i := 18) (by decide +kernel), List.mem_of_getElem? (i := 405) (by decide +kernel), List.mem_of_getElem? (i := 406) (by decide +kernel)⟩
theorem lw_p11 : lw_okq (⟨"java/lang/Throwable", "fillInStackTrace", "(I)Ljava/lang/Throwable;"⟩, 6) := ⟨⟨by decide +kernel, by decide +kernel⟩, List.mem_of_getElem? (i := 467) (by decide +kernel), List.mem_of_getElem? (i := 465) (by decide +kernel), List.mem_of_getElem? (i := 466) (by decide +kernel)⟩
theorem lw_p12 : lw_okq (⟨"ShapedRows$Shapes", "isFull", "()Z"⟩, 9) := ⟨⟨by decide +kernel, by decide +kernel⟩, List.mem_of_getElem? (i := 32) (by decide +kernel), List.mem_of_getElem? (i := 501) (by decide +kernel), List.mem_of_getElem? (i := 502) (by decide +kernel)⟩
theorem lw_p13 : lw_okq (⟨"ShapedRows$Shapes", "newestHas", "(I)Z"⟩, 9) := ⟨⟨by decide +kernel, by decide +kernel⟩, List.mem_of_getElem? (i := 32) (by decide +kernel), List.mem_of_getElem? (i := 505) (by decide +kernel), List.mem_of_getElem? (i := 506) (by decide +kernel)⟩
theorem lw_p14 : lw_okq (⟨"ShapedRows$History", "dropOldest", "()V"⟩, 2) := ⟨⟨by decide +kernel, by decide +kernel⟩, List.mem_of_getElem? (i := 110) (by decide +kernel), List.mem_of_getElem? (i := 529) (by decide +kernel), List.mem_of_getElem? (i := 530) (by decide +kernel)⟩
theorem lw_p15 : lw_okq (⟨"ShapedRows$History", "slotAt", "(I)LShapedRows$State;"⟩, 2) := ⟨⟨by decide +kernel, by decide +kernel⟩, List.mem_of_getElem? (i := 110) (by decide +kernel), List.mem_of_getElem? (i := 533) (by decide +kernel), List.mem_of_getElem? (i := 534) (by decide +kernel)⟩
def lw_privs_1 : List (MethodName × Nat) := [(⟨"ShapedRows$State", "isBehind", "(I)Z"⟩, 4), (⟨"ShapedRows$State", "rowsOfShape", "(I)I"⟩, 4), (⟨"ShapedRows", "counted", "(I)I"⟩, 3), (⟨"ShapedRows", "mixedShapes", "(J)J"⟩, 3), (⟨"ShapedRows$State", "readersOfShape", "(I)I"⟩, 4), (⟨"ShapedRows$Shapes", "placeOfLetter", "(II)I"⟩, 9), (⟨"ShapedRows$Shapes", "letterAt", "(II)I"⟩, 9), (⟨"ShapedRows$Shapes", "placeOfColumn", "(II)I"⟩, 9), (⟨"ShapedRows", "mixedRow", "(JI)J"⟩, 3), (⟨"ShapedRows$State", "sumRead", "(II)I"⟩, 4), (⟨"ShapedRows", "mixedText", "(J)J"⟩, 3), (⟨"java/lang/Throwable", "fillInStackTrace", "(I)Ljava/lang/Throwable;"⟩, 6), (⟨"ShapedRows$Shapes", "isFull", "()Z"⟩, 9), (⟨"ShapedRows$Shapes", "newestHas", "(I)Z"⟩, 9), (⟨"ShapedRows$History", "dropOldest", "()V"⟩, 2), (⟨"ShapedRows$History", "slotAt", "(I)LShapedRows$State;"⟩, 2)]
theorem lw_r1 : ∀ q ∈ lw_privs_1, lw_okq q := List.forall_mem_cons.mpr ⟨lw_p0, List.forall_mem_cons.mpr ⟨lw_p1, List.forall_mem_cons.mpr ⟨lw_p2, List.forall_mem_cons.mpr ⟨lw_p3, List.forall_mem_cons.mpr ⟨lw_p4, List.forall_mem_cons.mpr ⟨lw_p5, List.forall_mem_cons.mpr ⟨lw_p6, List.forall_mem_cons.mpr ⟨lw_p7, List.forall_mem_cons.mpr ⟨lw_p8, List.forall_mem_cons.mpr ⟨lw_p9, List.forall_mem_cons.mpr ⟨lw_p10, List.forall_mem_cons.mpr ⟨lw_p11, List.forall_mem_cons.mpr ⟨lw_p12, List.forall_mem_cons.mpr ⟨lw_p13, List.forall_mem_cons.mpr ⟨lw_p14, List.forall_mem_cons.mpr ⟨lw_p15, fun _ h => absurd h List.not_mem_nil⟩⟩⟩⟩⟩⟩⟩⟩⟩⟩⟩⟩⟩⟩⟩⟩
theorem lw_p16 : lw_okq (⟨"ShapedRows$Shapes", "comeBy", "(I)I"⟩, 9) := ⟨⟨by decide +kernel, by decide +kernel⟩, List.mem_of_getElem? (i := 32) (by decide +kernel), List.mem_of_getElem? (i := 562) (by decide +kernel), List.mem_of_getElem? (i := 563) (by decide +kernel)⟩
theorem lw_p17 : lw_okq (⟨"ShapedRows$Shapes", "addLast", "(II)V"⟩, 9) := ⟨⟨by decide +kernel, by decide +kernel⟩, List.mem_of_getElem? (i := 32) (by decide +kernel), List.mem_of_getElem? (i := 566) (by decide +kernel), List.mem_of_getElem? (i := 567) (by decide +kernel)⟩
theorem lw_p18 : lw_okq (⟨"ShapedRows$Shapes", "closeGap", "(II)V"⟩, 9) := ⟨⟨by decide +kernel, by decide +kernel⟩, List.mem_of_getElem? (i := 32) (by decide +kernel), List.mem_of_getElem? (i := 607) (by decide +kernel), List.mem_of_getElem? (i := 608) (by decide +kernel)⟩
theorem lw_p19 : lw_okq (⟨"ShapedRows$Rows", "moveDown", "(I)V"⟩, 7) := ⟨⟨by decide +kernel, by decide +kernel⟩, List.mem_of_getElem? (i := 67) (by decide +kernel), List.mem_of_getElem? (i := 723) (by decide +kernel), List.mem_of_getElem? (i := 724) (by decide +kernel)⟩
theorem lw_p20 : lw_okq (⟨"ShapedRows$State", "stepOnce", "()V"⟩, 4) := ⟨⟨by decide +kernel, by decide +kernel⟩, List.mem_of_getElem? (i := 26) (by decide +kernel), List.mem_of_getElem? (i := 742) (by decide +kernel), List.mem_of_getElem? (i := 743) (by decide +kernel)⟩
theorem lw_p21 : lw_okq (⟨"ShapedRows", "carriesOut", "(II)Z"⟩, 3) := ⟨⟨by decide +kernel, by decide +kernel⟩, List.mem_of_getElem? (i := 18) (by decide +kernel), List.mem_of_getElem? (i := 812) (by decide +kernel), List.mem_of_getElem? (i := 813) (by decide +kernel)⟩
theorem lw_p22 : lw_okq (⟨"ShapedRows", "addsNumber", "(II)Z"⟩, 3) := ⟨⟨by decide +kernel, by decide +kernel⟩, List.mem_of_getElem? (i := 18) (by decide +kernel), List.mem_of_getElem? (i := 816) (by decide +kernel), List.mem_of_getElem? (i := 817) (by decide +kernel)⟩
theorem lw_p23 : lw_okq (⟨"ShapedRows", "addsFrom", "(II)Z"⟩, 3) := ⟨⟨by decide +kernel, by decide +kernel⟩, List.mem_of_getElem? (i := 18) (by decide +kernel), List.mem_of_getElem? (i := 828) (by decide +kernel), List.mem_of_getElem? (i := 829) (by decide +kernel)⟩
theorem lw_p24 : lw_okq (⟨"ShapedRows", "drops", "(II)Z"⟩, 3) := ⟨⟨by decide +kernel, by decide +kernel⟩, List.mem_of_getElem? (i := 18) (by decide +kernel), List.mem_of_getElem? (i := 832) (by decide +kernel), List.mem_of_getElem? (i := 833) (by decide +kernel)⟩
theorem lw_p25 : lw_okq (⟨"ShapedRows", "renames", "(I)Z"⟩, 3) := ⟨⟨by decide +kernel, by decide +kernel⟩, List.mem_of_getElem? (i := 18) (by decide +kernel), List.mem_of_getElem? (i := 836) (by decide +kernel), List.mem_of_getElem? (i := 837) (by decide +kernel)⟩
theorem lw_p26 : lw_okq (⟨"ShapedRows", "inserts", "()Z"⟩, 3) := ⟨⟨by decide +kernel, by decide +kernel⟩, List.mem_of_getElem? (i := 18) (by decide +kernel), List.mem_of_getElem? (i := 840) (by decide +kernel), List.mem_of_getElem? (i := 841) (by decide +kernel)⟩
theorem lw_p27 : lw_okq (⟨"ShapedRowsModel", "refusesNumber", "(II)I"⟩, 13) := ⟨⟨by decide +kernel, by decide +kernel⟩, List.mem_of_getElem? (i := 926) (by decide +kernel), List.mem_of_getElem? (i := 980) (by decide +kernel), List.mem_of_getElem? (i := 981) (by decide +kernel)⟩
theorem lw_p28 : lw_okq (⟨"ShapedRowsModel", "has", "(I)Z"⟩, 13) := ⟨⟨by decide +kernel, by decide +kernel⟩, List.mem_of_getElem? (i := 926) (by decide +kernel), List.mem_of_getElem? (i := 990) (by decide +kernel), List.mem_of_getElem? (i := 991) (by decide +kernel)⟩
theorem lw_p29 : lw_okq (⟨"ShapedRowsModel", "newest", "()I"⟩, 13) := ⟨⟨by decide +kernel, by decide +kernel⟩, List.mem_of_getElem? (i := 926) (by decide +kernel), List.mem_of_getElem? (i := 994) (by decide +kernel), List.mem_of_getElem? (i := 995) (by decide +kernel)⟩
theorem lw_p30 : lw_okq (⟨"ShapedRowsModel", "placeOf", "(II)I"⟩, 13) := ⟨⟨by decide +kernel, by decide +kernel⟩, List.mem_of_getElem? (i := 926) (by decide +kernel), List.mem_of_getElem? (i := 998) (by decide +kernel), List.mem_of_getElem? (i := 999) (by decide +kernel)⟩
theorem lw_p31 : lw_okq (⟨"ShapedRowsModel", "get", "(II)I"⟩, 13) := ⟨⟨by decide +kernel, by decide +kernel⟩, List.mem_of_getElem? (i := 926) (by decide +kernel), List.mem_of_getElem? (i := 1002) (by decide +kernel), List.mem_of_getElem? (i := 1003) (by decide +kernel)⟩
def lw_privs_2 : List (MethodName × Nat) := [(⟨"ShapedRows$Shapes", "comeBy", "(I)I"⟩, 9), (⟨"ShapedRows$Shapes", "addLast", "(II)V"⟩, 9), (⟨"ShapedRows$Shapes", "closeGap", "(II)V"⟩, 9), (⟨"ShapedRows$Rows", "moveDown", "(I)V"⟩, 7), (⟨"ShapedRows$State", "stepOnce", "()V"⟩, 4), (⟨"ShapedRows", "carriesOut", "(II)Z"⟩, 3), (⟨"ShapedRows", "addsNumber", "(II)Z"⟩, 3), (⟨"ShapedRows", "addsFrom", "(II)Z"⟩, 3), (⟨"ShapedRows", "drops", "(II)Z"⟩, 3), (⟨"ShapedRows", "renames", "(I)Z"⟩, 3), (⟨"ShapedRows", "inserts", "()Z"⟩, 3), (⟨"ShapedRowsModel", "refusesNumber", "(II)I"⟩, 13), (⟨"ShapedRowsModel", "has", "(I)Z"⟩, 13), (⟨"ShapedRowsModel", "newest", "()I"⟩, 13), (⟨"ShapedRowsModel", "placeOf", "(II)I"⟩, 13), (⟨"ShapedRowsModel", "get", "(II)I"⟩, 13)]
theorem lw_r2 : ∀ q ∈ lw_privs_2, lw_okq q := List.forall_mem_cons.mpr ⟨lw_p16, List.forall_mem_cons.mpr ⟨lw_p17, List.forall_mem_cons.mpr ⟨lw_p18, List.forall_mem_cons.mpr ⟨lw_p19, List.forall_mem_cons.mpr ⟨lw_p20, List.forall_mem_cons.mpr ⟨lw_p21, List.forall_mem_cons.mpr ⟨lw_p22, List.forall_mem_cons.mpr ⟨lw_p23, List.forall_mem_cons.mpr ⟨lw_p24, List.forall_mem_cons.mpr ⟨lw_p25, List.forall_mem_cons.mpr ⟨lw_p26, List.forall_mem_cons.mpr ⟨lw_p27, List.forall_mem_cons.mpr ⟨lw_p28, List.forall_mem_cons.mpr ⟨lw_p29, List.forall_mem_cons.mpr ⟨lw_p30, List.forall_mem_cons.mpr ⟨lw_p31, fun _ h => absurd h List.not_mem_nil⟩⟩⟩⟩⟩⟩⟩⟩⟩⟩⟩⟩⟩⟩⟩⟩
theorem lw_p32 : lw_okq (⟨"ShapedRowsModel", "isFull", "()Z"⟩, 13) := ⟨⟨by decide +kernel, by decide +kernel⟩, List.mem_of_getElem? (i := 926) (by decide +kernel), List.mem_of_getElem? (i := 1006) (by decide +kernel), List.mem_of_getElem? (i := 1007) (by decide +kernel)⟩
theorem lw_p33 : lw_okq (⟨"ShapedRowsModel", "saves", "()V"⟩, 13) := ⟨⟨by decide +kernel, by decide +kernel⟩, List.mem_of_getElem? (i := 926) (by decide +kernel), List.mem_of_getElem? (i := 1010) (by decide +kernel), List.mem_of_getElem? (i := 1011) (by decide +kernel)⟩
theorem lw_p34 : lw_okq (⟨"ShapedRowsModel", "addsNumber", "(II)V"⟩, 13) := ⟨⟨by decide +kernel, by decide +kernel⟩, List.mem_of_getElem? (i := 926) (by decide +kernel), List.mem_of_getElem? (i := 1014) (by decide +kernel), List.mem_of_getElem? (i := 1015) (by decide +kernel)⟩
theorem lw_p35 : lw_okq (⟨"ShapedRowsModel", "comes", "(III)V"⟩, 13) := ⟨⟨by decide +kernel, by decide +kernel⟩, List.mem_of_getElem? (i := 926) (by decide +kernel), List.mem_of_getElem? (i := 1018) (by decide +kernel), List.mem_of_getElem? (i := 1019) (by decide +kernel)⟩
theorem lw_p36 : lw_okq (⟨"ShapedRowsModel", "lay", "(III)V"⟩, 13) := ⟨⟨by decide +kernel, by decide +kernel⟩, List.mem_of_getElem? (i := 926) (by decide +kernel), List.mem_of_getElem? (i := 1022) (by decide +kernel), List.mem_of_getElem? (i := 1023) (by decide +kernel)⟩
theorem lw_p37 : lw_okq (⟨"ShapedRowsModel", "getsColumn", "(I)V"⟩, 13) := ⟨⟨by decide +kernel, by decide +kernel⟩, List.mem_of_getElem? (i := 926) (by decide +kernel), List.mem_of_getElem? (i := 1026) (by decide +kernel), List.mem_of_getElem? (i := 1027) (by decide +kernel)⟩
theorem lw_p38 : lw_okq (⟨"ShapedRowsModel", "refusesCopy", "(III)I"⟩, 13) := ⟨⟨by decide +kernel, by decide +kernel⟩, List.mem_of_getElem? (i := 926) (by decide +kernel), List.mem_of_getElem? (i := 1034) (by decide +kernel), List.mem_of_getElem? (i := 1035) (by decide +kernel)⟩
theorem lw_p39 : lw_okq (⟨"ShapedRowsModel", "addsCopy", "(III)V"⟩, 13) := ⟨⟨by decide +kernel, by decide +kernel⟩, List.mem_of_getElem? (i := 926) (by decide +kernel), List.mem_of_getElem? (i := 1038) (by decide +kernel), List.mem_of_getElem? (i := 1039) (by decide +kernel)⟩
theorem lw_p40 : lw_okq (⟨"ShapedRowsModel", "refusesDrop", "(II)I"⟩, 13) := ⟨⟨by decide +kernel, by decide +kernel⟩, List.mem_of_getElem? (i := 926) (by decide +kernel), List.mem_of_getElem? (i := 1046) (by decide +kernel), List.mem_of_getElem? (i := 1047) (by decide +kernel)⟩
theorem lw_p41 : lw_okq (⟨"ShapedRowsModel", "drops", "(II)V"⟩, 13) := ⟨⟨by decide +kernel, by decide +kernel⟩, List.mem_of_getElem? (i := 926) (by decide +kernel), List.mem_of_getElem? (i := 1050) (by decide +kernel), List.mem_of_getElem? (i := 1051) (by decide +kernel)⟩
theorem lw_p42 : lw_okq (⟨"ShapedRowsModel", "refusesRename", "(II)I"⟩, 13) := ⟨⟨by decide +kernel, by decide +kernel⟩, List.mem_of_getElem? (i := 926) (by decide +kernel), List.mem_of_getElem? (i := 1058) (by decide +kernel), List.mem_of_getElem? (i := 1059) (by decide +kernel)⟩
theorem lw_p43 : lw_okq (⟨"ShapedRowsModel", "renames", "(II)V"⟩, 13) := ⟨⟨by decide +kernel, by decide +kernel⟩, List.mem_of_getElem? (i := 926) (by decide +kernel), List.mem_of_getElem? (i := 1062) (by decide +kernel), List.mem_of_getElem? (i := 1063) (by decide +kernel)⟩
theorem lw_p44 : lw_okq (⟨"ShapedRowsModel", "fails", "(I)I"⟩, 13) := ⟨⟨by decide +kernel, by decide +kernel⟩, List.mem_of_getElem? (i := 926) (by decide +kernel), List.mem_of_getElem? (i := 1070) (by decide +kernel), List.mem_of_getElem? (i := 1071) (by decide +kernel)⟩
theorem lw_p45 : lw_okq (⟨"ShapedRowsModel", "inserts", "(I)V"⟩, 13) := ⟨⟨by decide +kernel, by decide +kernel⟩, List.mem_of_getElem? (i := 926) (by decide +kernel), List.mem_of_getElem? (i := 1074) (by decide +kernel), List.mem_of_getElem? (i := 1075) (by decide +kernel)⟩
theorem lw_p46 : lw_okq (⟨"ShapedRowsModel", "layRow", "(III)V"⟩, 13) := ⟨⟨by decide +kernel, by decide +kernel⟩, List.mem_of_getElem? (i := 926) (by decide +kernel), List.mem_of_getElem? (i := 1078) (by decide +kernel), List.mem_of_getElem? (i := 1079) (by decide +kernel)⟩
theorem lw_p47 : lw_okq (⟨"ShapedRowsModel", "isInUse", "(I)Z"⟩, 13) := ⟨⟨by decide +kernel, by decide +kernel⟩, List.mem_of_getElem? (i := 926) (by decide +kernel), List.mem_of_getElem? (i := 1086) (by decide +kernel), List.mem_of_getElem? (i := 1087) (by decide +kernel)⟩
def lw_privs_3 : List (MethodName × Nat) := [(⟨"ShapedRowsModel", "isFull", "()Z"⟩, 13), (⟨"ShapedRowsModel", "saves", "()V"⟩, 13), (⟨"ShapedRowsModel", "addsNumber", "(II)V"⟩, 13), (⟨"ShapedRowsModel", "comes", "(III)V"⟩, 13), (⟨"ShapedRowsModel", "lay", "(III)V"⟩, 13), (⟨"ShapedRowsModel", "getsColumn", "(I)V"⟩, 13), (⟨"ShapedRowsModel", "refusesCopy", "(III)I"⟩, 13), (⟨"ShapedRowsModel", "addsCopy", "(III)V"⟩, 13), (⟨"ShapedRowsModel", "refusesDrop", "(II)I"⟩, 13), (⟨"ShapedRowsModel", "drops", "(II)V"⟩, 13), (⟨"ShapedRowsModel", "refusesRename", "(II)I"⟩, 13), (⟨"ShapedRowsModel", "renames", "(II)V"⟩, 13), (⟨"ShapedRowsModel", "fails", "(I)I"⟩, 13), (⟨"ShapedRowsModel", "inserts", "(I)V"⟩, 13), (⟨"ShapedRowsModel", "layRow", "(III)V"⟩, 13), (⟨"ShapedRowsModel", "isInUse", "(I)Z"⟩, 13)]
theorem lw_r3 : ∀ q ∈ lw_privs_3, lw_okq q := List.forall_mem_cons.mpr ⟨lw_p32, List.forall_mem_cons.mpr ⟨lw_p33, List.forall_mem_cons.mpr ⟨lw_p34, List.forall_mem_cons.mpr ⟨lw_p35, List.forall_mem_cons.mpr ⟨lw_p36, List.forall_mem_cons.mpr ⟨lw_p37, List.forall_mem_cons.mpr ⟨lw_p38, List.forall_mem_cons.mpr ⟨lw_p39, List.forall_mem_cons.mpr ⟨lw_p40, List.forall_mem_cons.mpr ⟨lw_p41, List.forall_mem_cons.mpr ⟨lw_p42, List.forall_mem_cons.mpr ⟨lw_p43, List.forall_mem_cons.mpr ⟨lw_p44, List.forall_mem_cons.mpr ⟨lw_p45, List.forall_mem_cons.mpr ⟨lw_p46, List.forall_mem_cons.mpr ⟨lw_p47, fun _ h => absurd h List.not_mem_nil⟩⟩⟩⟩⟩⟩⟩⟩⟩⟩⟩⟩⟩⟩⟩⟩
theorem lw_p48 : lw_okq (⟨"ShapedRowsModel", "isRow", "(I)Z"⟩, 13) := ⟨⟨by decide +kernel, by decide +kernel⟩, List.mem_of_getElem? (i := 926) (by decide +kernel), List.mem_of_getElem? (i := 1094) (by decide +kernel), List.mem_of_getElem? (i := 1095) (by decide +kernel)⟩
theorem lw_p49 : lw_okq (⟨"ShapedRowsModel", "isAgainst", "(III)I"⟩, 13) := ⟨⟨by decide +kernel, by decide +kernel⟩, List.mem_of_getElem? (i := 926) (by decide +kernel), List.mem_of_getElem? (i := 1099) (by decide +kernel), List.mem_of_getElem? (i := 1100) (by decide +kernel)⟩
theorem lw_p50 : lw_okq (⟨"ShapedRowsModel", "rowOf", "(II)I"⟩, 13) := ⟨⟨by decide +kernel, by decide +kernel⟩, List.mem_of_getElem? (i := 926) (by decide +kernel), List.mem_of_getElem? (i := 1103) (by decide +kernel), List.mem_of_getElem? (i := 1104) (by decide +kernel)⟩
theorem lw_p51 : lw_okq (⟨"ShapedRowsModel", "placeOfColumn", "(II)I"⟩, 13) := ⟨⟨by decide +kernel, by decide +kernel⟩, List.mem_of_getElem? (i := 926) (by decide +kernel), List.mem_of_getElem? (i := 1107) (by decide +kernel), List.mem_of_getElem? (i := 1108) (by decide +kernel)⟩
theorem lw_p52 : lw_okq (⟨"ShapedRowsModel", "rewrites", "(II)V"⟩, 13) := ⟨⟨by decide +kernel, by decide +kernel⟩, List.mem_of_getElem? (i := 926) (by decide +kernel), List.mem_of_getElem? (i := 1111) (by decide +kernel), List.mem_of_getElem? (i := 1112) (by decide +kernel)⟩
theorem lw_p53 : lw_okq (⟨"ShapedRowsModel", "reads", "(II)V"⟩, 13) := ⟨⟨by decide +kernel, by decide +kernel⟩, List.mem_of_getElem? (i := 926) (by decide +kernel), List.mem_of_getElem? (i := 1115) (by decide +kernel), List.mem_of_getElem? (i := 1116) (by decide +kernel)⟩
theorem lw_p54 : lw_okq (⟨"ShapedRowsModel", "goes", "(II)V"⟩, 13) := ⟨⟨by decide +kernel, by decide +kernel⟩, List.mem_of_getElem? (i := 926) (by decide +kernel), List.mem_of_getElem? (i := 1119) (by decide +kernel), List.mem_of_getElem? (i := 1120) (by decide +kernel)⟩
theorem lw_p55 : lw_okq (⟨"ShapedRowsModel", "goesOver", "(I)V"⟩, 13) := ⟨⟨by decide +kernel, by decide +kernel⟩, List.mem_of_getElem? (i := 926) (by decide +kernel), List.mem_of_getElem? (i := 1123) (by decide +kernel), List.mem_of_getElem? (i := 1124) (by decide +kernel)⟩
theorem lw_p56 : lw_okq (⟨"ShapedRowsModel", "goesBack", "(I)V"⟩, 13) := ⟨⟨by decide +kernel, by decide +kernel⟩, List.mem_of_getElem? (i := 926) (by decide +kernel), List.mem_of_getElem? (i := 1127) (by decide +kernel), List.mem_of_getElem? (i := 1128) (by decide +kernel)⟩
theorem lw_p57 : lw_okq (⟨"ShapedRowsModel", "goesOn", "(I)I"⟩, 13) := ⟨⟨by decide +kernel, by decide +kernel⟩, List.mem_of_getElem? (i := 926) (by decide +kernel), List.mem_of_getElem? (i := 1139) (by decide +kernel), List.mem_of_getElem? (i := 1140) (by decide +kernel)⟩
theorem lw_p58 : lw_okq (⟨"ShapedRowsModel", "oldest", "()I"⟩, 13) := ⟨⟨by decide +kernel, by decide +kernel⟩, List.mem_of_getElem? (i := 926) (by decide +kernel), List.mem_of_getElem? (i := 1154) (by decide +kernel), List.mem_of_getElem? (i := 1155) (by decide +kernel)⟩
theorem lw_p59 : lw_okq (⟨"ShapedRowsModel", "readsAll", "()V"⟩, 13) := ⟨⟨by decide +kernel, by decide +kernel⟩, List.mem_of_getElem? (i := 926) (by decide +kernel), List.mem_of_getElem? (i := 1170) (by decide +kernel), List.mem_of_getElem? (i := 1171) (by decide +kernel)⟩
theorem lw_p60 : lw_okq (⟨"ShapedRowsModel", "readsOrder", "()V"⟩, 13) := ⟨⟨by decide +kernel, by decide +kernel⟩, List.mem_of_getElem? (i := 926) (by decide +kernel), List.mem_of_getElem? (i := 1174) (by decide +kernel), List.mem_of_getElem? (i := 1175) (by decide +kernel)⟩
theorem lw_p61 : lw_okq (⟨"ShapedRowsModel", "sign", "()I"⟩, 13) := ⟨⟨by decide +kernel, by decide +kernel⟩, List.mem_of_getElem? (i := 926) (by decide +kernel), List.mem_of_getElem? (i := 1178) (by decide +kernel), List.mem_of_getElem? (i := 1179) (by decide +kernel)⟩
theorem lw_p62 : lw_okq (⟨"ShapedRowsModel", "readsAdding", "()V"⟩, 13) := ⟨⟨by decide +kernel, by decide +kernel⟩, List.mem_of_getElem? (i := 926) (by decide +kernel), List.mem_of_getElem? (i := 1182) (by decide +kernel), List.mem_of_getElem? (i := 1183) (by decide +kernel)⟩
theorem lw_p63 : lw_okq (⟨"ShapedRowsModel", "takes", "(II)I"⟩, 13) := ⟨⟨by decide +kernel, by decide +kernel⟩, List.mem_of_getElem? (i := 926) (by decide +kernel), List.mem_of_getElem? (i := 1186) (by decide +kernel), List.mem_of_getElem? (i := 1187) (by decide +kernel)⟩
def lw_privs_4 : List (MethodName × Nat) := [(⟨"ShapedRowsModel", "isRow", "(I)Z"⟩, 13), (⟨"ShapedRowsModel", "isAgainst", "(III)I"⟩, 13), (⟨"ShapedRowsModel", "rowOf", "(II)I"⟩, 13), (⟨"ShapedRowsModel", "placeOfColumn", "(II)I"⟩, 13), (⟨"ShapedRowsModel", "rewrites", "(II)V"⟩, 13), (⟨"ShapedRowsModel", "reads", "(II)V"⟩, 13), (⟨"ShapedRowsModel", "goes", "(II)V"⟩, 13), (⟨"ShapedRowsModel", "goesOver", "(I)V"⟩, 13), (⟨"ShapedRowsModel", "goesBack", "(I)V"⟩, 13), (⟨"ShapedRowsModel", "goesOn", "(I)I"⟩, 13), (⟨"ShapedRowsModel", "oldest", "()I"⟩, 13), (⟨"ShapedRowsModel", "readsAll", "()V"⟩, 13), (⟨"ShapedRowsModel", "readsOrder", "()V"⟩, 13), (⟨"ShapedRowsModel", "sign", "()I"⟩, 13), (⟨"ShapedRowsModel", "readsAdding", "()V"⟩, 13), (⟨"ShapedRowsModel", "takes", "(II)I"⟩, 13)]
theorem lw_r4 : ∀ q ∈ lw_privs_4, lw_okq q := List.forall_mem_cons.mpr ⟨lw_p48, List.forall_mem_cons.mpr ⟨lw_p49, List.forall_mem_cons.mpr ⟨lw_p50, List.forall_mem_cons.mpr ⟨lw_p51, List.forall_mem_cons.mpr ⟨lw_p52, List.forall_mem_cons.mpr ⟨lw_p53, List.forall_mem_cons.mpr ⟨lw_p54, List.forall_mem_cons.mpr ⟨lw_p55, List.forall_mem_cons.mpr ⟨lw_p56, List.forall_mem_cons.mpr ⟨lw_p57, List.forall_mem_cons.mpr ⟨lw_p58, List.forall_mem_cons.mpr ⟨lw_p59, List.forall_mem_cons.mpr ⟨lw_p60, List.forall_mem_cons.mpr ⟨lw_p61, List.forall_mem_cons.mpr ⟨lw_p62, List.forall_mem_cons.mpr ⟨lw_p63, fun _ h => absurd h List.not_mem_nil⟩⟩⟩⟩⟩⟩⟩⟩⟩⟩⟩⟩⟩⟩⟩⟩
theorem lw_p64 : lw_okq (⟨"ShapedRowsModel", "number", "()I"⟩, 13) := ⟨⟨by decide +kernel, by decide +kernel⟩, List.mem_of_getElem? (i := 926) (by decide +kernel), List.mem_of_getElem? (i := 1190) (by decide +kernel), List.mem_of_getElem? (i := 1191) (by decide +kernel)⟩
theorem lw_p65 : lw_okq (⟨"ShapedRowsModel", "lays", "(IIII)V"⟩, 13) := ⟨⟨by decide +kernel, by decide +kernel⟩, List.mem_of_getElem? (i := 926) (by decide +kernel), List.mem_of_getElem? (i := 1194) (by decide +kernel), List.mem_of_getElem? (i := 1195) (by decide +kernel)⟩
theorem lw_p66 : lw_okq (⟨"ShapedRowsModel", "rowsToGo", "()I"⟩, 13) := ⟨⟨by decide +kernel, by decide +kernel⟩, List.mem_of_getElem? (i := 926) (by decide +kernel), List.mem_of_getElem? (i := 1198) (by decide +kernel), List.mem_of_getElem? (i := 1199) (by decide +kernel)⟩
theorem lw_p67 : lw_okq (⟨"ShapedRowsModel", "does", "(I)Z"⟩, 13) := ⟨⟨by decide +kernel, by decide +kernel⟩, List.mem_of_getElem? (i := 926) (by decide +kernel), List.mem_of_getElem? (i := 1206) (by decide +kernel), List.mem_of_getElem? (i := 1207) (by decide +kernel)⟩
theorem lw_p68 : lw_okq (⟨"ShapedRowsModel", "valueBy", "(III)I"⟩, 13) := ⟨⟨by decide +kernel, by decide +kernel⟩, List.mem_of_getElem? (i := 926) (by decide +kernel), List.mem_of_getElem? (i := 1218) (by decide +kernel), List.mem_of_getElem? (i := 1219) (by decide +kernel)⟩
theorem lw_p69 : lw_okq (⟨"ShapedRowsModel", "isShape", "(I)Z"⟩, 13) := ⟨⟨by decide +kernel, by decide +kernel⟩, List.mem_of_getElem? (i := 926) (by decide +kernel), List.mem_of_getElem? (i := 1230) (by decide +kernel), List.mem_of_getElem? (i := 1231) (by decide +kernel)⟩
theorem lw_p70 : lw_okq (⟨"ShapedRowsModel", "columnOf", "(III)I"⟩, 13) := ⟨⟨by decide +kernel, by decide +kernel⟩, List.mem_of_getElem? (i := 926) (by decide +kernel), List.mem_of_getElem? (i := 1234) (by decide +kernel), List.mem_of_getElem? (i := 1235) (by decide +kernel)⟩
theorem lw_p71 : lw_okq (⟨"ShapedRowsModel", "shapeOf", "(II)I"⟩, 13) := ⟨⟨by decide +kernel, by decide +kernel⟩, List.mem_of_getElem? (i := 926) (by decide +kernel), List.mem_of_getElem? (i := 1242) (by decide +kernel), List.mem_of_getElem? (i := 1243) (by decide +kernel)⟩
theorem lw_p72 : lw_okq (⟨"ShapedRowsModel", "rowsWith", "(I)I"⟩, 13) := ⟨⟨by decide +kernel, by decide +kernel⟩, List.mem_of_getElem? (i := 926) (by decide +kernel), List.mem_of_getElem? (i := 1246) (by decide +kernel), List.mem_of_getElem? (i := 1247) (by decide +kernel)⟩
theorem lw_p73 : lw_okq (⟨"ShapedRowsModel", "readersWith", "(I)I"⟩, 13) := ⟨⟨by decide +kernel, by decide +kernel⟩, List.mem_of_getElem? (i := 926) (by decide +kernel), List.mem_of_getElem? (i := 1250) (by decide +kernel), List.mem_of_getElem? (i := 1251) (by decide +kernel)⟩
theorem lw_p74 : lw_okq (⟨"ShapedRowsModel", "tellsRow", "(II)I"⟩, 13) := ⟨⟨by decide +kernel, by decide +kernel⟩, List.mem_of_getElem? (i := 926) (by decide +kernel), List.mem_of_getElem? (i := 1258) (by decide +kernel), List.mem_of_getElem? (i := 1259) (by decide +kernel)⟩
theorem lw_p75 : lw_okq (⟨"ShapedRowsModel", "sumBy", "(II)I"⟩, 13) := ⟨⟨by decide +kernel, by decide +kernel⟩, List.mem_of_getElem? (i := 926) (by decide +kernel), List.mem_of_getElem? (i := 1262) (by decide +kernel), List.mem_of_getElem? (i := 1263) (by decide +kernel)⟩
theorem lw_p76 : lw_okq (⟨"ShapedRowsModel", "counts", "(I)I"⟩, 13) := ⟨⟨by decide +kernel, by decide +kernel⟩, List.mem_of_getElem? (i := 926) (by decide +kernel), List.mem_of_getElem? (i := 1270) (by decide +kernel), List.mem_of_getElem? (i := 1271) (by decide +kernel)⟩
theorem lw_p77 : lw_okq (⟨"ShapedRowsModel", "losses", "(II)I"⟩, 13) := ⟨⟨by decide +kernel, by decide +kernel⟩, List.mem_of_getElem? (i := 926) (by decide +kernel), List.mem_of_getElem? (i := 1278) (by decide +kernel), List.mem_of_getElem? (i := 1279) (by decide +kernel)⟩
theorem lw_p78 : lw_okq (⟨"ShapedRowsModel", "steps", "()I"⟩, 13) := ⟨⟨by decide +kernel, by decide +kernel⟩, List.mem_of_getElem? (i := 926) (by decide +kernel), List.mem_of_getElem? (i := 1290) (by decide +kernel), List.mem_of_getElem? (i := 1291) (by decide +kernel)⟩
theorem lw_p79 : lw_okq (⟨"ShapedRowsModel", "found", "(III)I"⟩, 13) := ⟨⟨by decide +kernel, by decide +kernel⟩, List.mem_of_getElem? (i := 926) (by decide +kernel), List.mem_of_getElem? (i := 1298) (by decide +kernel), List.mem_of_getElem? (i := 1299) (by decide +kernel)⟩
def lw_privs_5 : List (MethodName × Nat) := [(⟨"ShapedRowsModel", "number", "()I"⟩, 13), (⟨"ShapedRowsModel", "lays", "(IIII)V"⟩, 13), (⟨"ShapedRowsModel", "rowsToGo", "()I"⟩, 13), (⟨"ShapedRowsModel", "does", "(I)Z"⟩, 13), (⟨"ShapedRowsModel", "valueBy", "(III)I"⟩, 13), (⟨"ShapedRowsModel", "isShape", "(I)Z"⟩, 13), (⟨"ShapedRowsModel", "columnOf", "(III)I"⟩, 13), (⟨"ShapedRowsModel", "shapeOf", "(II)I"⟩, 13), (⟨"ShapedRowsModel", "rowsWith", "(I)I"⟩, 13), (⟨"ShapedRowsModel", "readersWith", "(I)I"⟩, 13), (⟨"ShapedRowsModel", "tellsRow", "(II)I"⟩, 13), (⟨"ShapedRowsModel", "sumBy", "(II)I"⟩, 13), (⟨"ShapedRowsModel", "counts", "(I)I"⟩, 13), (⟨"ShapedRowsModel", "losses", "(II)I"⟩, 13), (⟨"ShapedRowsModel", "steps", "()I"⟩, 13), (⟨"ShapedRowsModel", "found", "(III)I"⟩, 13)]
theorem lw_r5 : ∀ q ∈ lw_privs_5, lw_okq q := List.forall_mem_cons.mpr ⟨lw_p64, List.forall_mem_cons.mpr ⟨lw_p65, List.forall_mem_cons.mpr ⟨lw_p66, List.forall_mem_cons.mpr ⟨lw_p67, List.forall_mem_cons.mpr ⟨lw_p68, List.forall_mem_cons.mpr ⟨lw_p69, List.forall_mem_cons.mpr ⟨lw_p70, List.forall_mem_cons.mpr ⟨lw_p71, List.forall_mem_cons.mpr ⟨lw_p72, List.forall_mem_cons.mpr ⟨lw_p73, List.forall_mem_cons.mpr ⟨lw_p74, List.forall_mem_cons.mpr ⟨lw_p75, List.forall_mem_cons.mpr ⟨lw_p76, List.forall_mem_cons.mpr ⟨lw_p77, List.forall_mem_cons.mpr ⟨lw_p78, List.forall_mem_cons.mpr ⟨lw_p79, fun _ h => absurd h List.not_mem_nil⟩⟩⟩⟩⟩⟩⟩⟩⟩⟩⟩⟩⟩⟩⟩⟩
theorem lw_p80 : lw_okq (⟨"ShapedRowsModel", "hashes", "(J)V"⟩, 13) := ⟨⟨by decide +kernel, by decide +kernel⟩, List.mem_of_getElem? (i := 926) (by decide +kernel), List.mem_of_getElem? (i := 1311) (by decide +kernel), List.mem_of_getElem? (i := 1312) (by decide +kernel)⟩
theorem lw_p81 : lw_okq (⟨"ShapedRowsModel", "hashesRow", "(I)V"⟩, 13) := ⟨⟨by decide +kernel, by decide +kernel⟩, List.mem_of_getElem? (i := 926) (by decide +kernel), List.mem_of_getElem? (i := 1316) (by decide +kernel), List.mem_of_getElem? (i := 1317) (by decide +kernel)⟩
def lw_privs_6 : List (MethodName × Nat) := [(⟨"ShapedRowsModel", "hashes", "(J)V"⟩, 13), (⟨"ShapedRowsModel", "hashesRow", "(I)V"⟩, 13)]
theorem lw_r6 : ∀ q ∈ lw_privs_6, lw_okq q := List.forall_mem_cons.mpr ⟨lw_p80, List.forall_mem_cons.mpr ⟨lw_p81, fun _ h => absurd h List.not_mem_nil⟩⟩
def lw_privs : List (MethodName × Nat) := lw_privs_1 ++ (lw_privs_2 ++ (lw_privs_3 ++ (lw_privs_4 ++ (lw_privs_5 ++ (lw_privs_6)))))
def lw_tbl : List Cond := k2_sels lw_privs ++ tables_1
theorem lw_privs_ok : ∀ q ∈ lw_privs, lw_okq q := by
  show ∀ q ∈ lw_privs_1 ++ (lw_privs_2 ++ (lw_privs_3 ++ (lw_privs_4 ++ (lw_privs_5 ++ (lw_privs_6))))), lw_okq q
  exact List.forall_mem_append.mpr ⟨lw_r1, List.forall_mem_append.mpr ⟨lw_r2, List.forall_mem_append.mpr ⟨lw_r3, List.forall_mem_append.mpr ⟨lw_r4, List.forall_mem_append.mpr ⟨lw_r5, lw_r6⟩⟩⟩⟩⟩
/-- the streams that the claim lets the run draw from -/
abbrev lw_cs : List Choice := [Jvm.Choice.named "NaN.bits"]
theorem lw_bits : nanBits ∈ lw_cs := by first | decide | exact List.mem_cons_self | simp [lw_cs, nanBits]
end
section
/-! ===== BEGIN words of one list among another's, by their places ===== -/
theorem goodIn_r {big : List Cond} (ws : List Cond) (ps : List Nat) (hp : ws = ps.filterMap (fun i => big[i]?)) (h : ws.all goodWord = true) : GoodIn big ws := by
  intro w hw
  have h1 := List.all_eq_true.mp h w hw
  rw [hp] at hw
  obtain ⟨i, -, hi⟩ := List.mem_filterMap.mp hw
  have hm : w ∈ big := by first | exact List.mem_of_getElem? hi | exact List.getElem?_mem hi
  exact ⟨hm, good_of_word h1⟩
theorem goodIn_app {big a b : List Cond} (ha : GoodIn big a) (hb : GoodIn big b) : GoodIn big (a ++ b) := fun w h => (List.mem_append.mp h).elim (ha w) (hb w)
theorem goodIn_ca {big a b : List Cond} {c : Cond} (ha : GoodIn big (c :: a)) (hb : GoodIn big b) : GoodIn big (c :: (a ++ b)) := fun w h => (List.mem_cons.mp h).elim (fun e => ha w (List.mem_cons.mpr (Or.inl e))) (fun h => (List.mem_append.mp h).elim (fun h => ha w (List.mem_cons.mpr (Or.inr h))) (hb w))
theorem goodIn_sub {big ws : List Cond} (hm : ∀ w ∈ ws, w ∈ big) (h : ws.all goodWord = true) : GoodIn big ws := fun w hw => ⟨hm w hw, good_of_word (List.all_eq_true.mp h w hw)⟩
/-! ===== END ===== -/

/-! ===== BEGIN exceptions that leave a method, and their catching by the caller (launches without stack traces) ===== -/
section VXA
/-! The laws vx_back, vx_callV, vx_callS, vx_callSW, vx_throw0, vx_throwS follow proofs of the library, with one case more: JvmDerived/Free/Laws.lean (Back.of_free), Shelf42/LK1.lean (callV, callS), Shelf/KitTraced.lean (throwNew0V, throwNewS). -/
/-- where a method has thrown q: the class by its name, the cell, what was written, the world -/
def vx_T (XC : String → State → State → Prop) (st : State) (q : Addr) (t : State) (mc ms : Nat) (free : Addr → Prop) : Prop :=
  ∃ (E : String) (ce : Cell) (L : List Loc), XC E st t ∧ t.heap[q]? = some ce ∧ ce.vm = .none ∧ st.vm.findClass E = some ce.cls ∧ st.WarmedH t.vm ∧ st.sameButNew ({ t with vm := st.vm } : State) L mc ms ∧ ∀ z ∈ L, free z.base
def vx_Q (Qc : Array Value → State → Outcome → State → Prop) (XC : String → State → State → Prop) (mc ms : Nat) (free : Addr → Prop) : Array Value → State → Outcome → State → Prop := fun a st o t =>
  (Qc a st o t ∧ ∃ L, FrameEnd st o t L mc ms ∧ ∀ q ∈ L, free q.base) ∨ ∃ q, o = .threw q ∧ vx_T XC st q t mc ms free
/-- a callee that returns or throws -/
def vx_Met (l : Launch) (y : MethodName) (ws : List Cond) (rm : Room) (Pc : Array Value → State → Prop) (Qc : Array Value → State → Outcome → State → Prop) (XC : String → State → State → Prop) (mc ms : Nat) (free : Addr → Prop) : Prop :=
  MetFree l y (headSpec ws rm) Pc (fun _ _ _ _ _ => True) (vx_Q Qc XC mc ms free)
def vx_Post (XC : String → State → State → Prop) (mc ms : Nat) (free : Addr → Prop) : Pt → Array Value → Addr → Pt → Prop := fun A a q B =>
  ∃ (g : JFrame) (mk : MethodId) (t : State) (L : List Loc) (E : String) (ce : Cell), B.U.heap = t.heap ∧ B.U.vm = t.vm ∧ XC E (A.U.calling g mk a) t ∧ t.heap[q]? = some ce ∧ ce.vm = .none ∧ A.U.vm.findClass E = some ce.cls ∧ B.locs = A.locs ++ L ∧ (∀ z ∈ L, free z.base) ∧ B.cells = A.cells + mc ∧ B.slots = A.slots + ms
def vx_Back (l : Launch) (R : Room) (p : Program) (e : Env) (below : List Frame) (s : State) (sargs : Array Value) (y : MethodName) (len W9 : Nat)
    (Pre : Pt → Array Value → Prop) (Post : Pt → Array Value → Option Value → Pt → Prop) (PostX : Pt → Array Value → Addr → Pt → Prop) : Prop :=
  ∀ (m : MethodId) (meth : Method) (c : Code) (A : Pt) (g : JFrame) (ig : Instr) (mk : MethodId) (a : Array Value),
    Stand p l e R s m sargs below meth c A.U A.locs A.cells A.slots → g.method = m → g.locals.size = c.maxLocals → decode c.code g.pc = .ok (ig, len) →
    2 * g.monitorRoom + (g.stack.map fun v => v.category).sum ≤ W9 → A.U.methodNamed? y = some mk → Pre A a →
    (∃ (v : Option Value) (B : Pt), Stand p l e R s m sargs below meth c B.U B.locs B.cells B.slots ∧ Post A a v B ∧
      Steps p.tables e below (doInvoke e (A.U.setTop g) [] mk a).1 (B.U.setTop { g with pc := g.pc + len, stack := v.toList ++ g.stack })) ∨
    (∃ (q : Addr) (B : Pt), Stand p l e R s m sargs below meth c B.U B.locs B.cells B.slots ∧ PostX A a q B ∧
      Steps p.tables e below (doInvoke e (A.U.setTop g) [] mk a).1 ((B.U.setTop g).pushFrame (.throwing q)))
section Payer
variable {l : Launch} {R : Room} {p : Program} {e : Env} {below : List Frame} {s : State} {sargs : Array Value} {y : MethodName} {len W9 : Nat}
theorem vx_back {ws : List Cond} {rm : Room} {Pc : Array Value → State → Prop} {Qc : Array Value → State → Outcome → State → Prop} {XC : String → State → State → Prop} {mc ms : Nat} {free : Addr → Prop} {bytes : ByteArray} {maxL : Nat} {ret : Option FieldType}
    (hM : vx_Met l y ws rm Pc Qc XC mc ms free) (hblind : FrameBlind Pc) (hrc : rm.cells = mc) (hrs : rm.slots = ms)
    (hframes : rm.frames + 1 ≤ R.frames) (hlocals : W9 + (maxL + 11) + rm.locals ≤ R.locals)
    (hws : ∀ w ∈ ws, ∀ a' U, s.WarmedH U.vm → w.before a' U = true) (hcode : Cond.code y bytes maxL ret ∈ ws) (hinit : ∀ a' U, s.WarmedH U.vm → (Cond.initialized y.cls).before a' U = true) :
    vx_Back l R p e below s sargs y len W9 (PreOf R mc ms Pc) (PostOf Qc mc ms free) (vx_Post XC mc ms free) := by
  intro m meth c A g ig mk a X hg hsize hdg hW hn hp
  have h1 : (headSpec ws rm).pre.before a A.U = true := atoms_intro fun w hw => hws w hw _ _ X.warmed
  have h2 : (Cond.code y bytes maxL ret).before a A.U = true := hws _ hcode _ _ X.warmed
  have h3 : (Cond.initialized y.cls).before a A.U = true := hinit _ _ X.warmed
  have h4 : A.cells + (headSpec ws rm).room.cells ≤ R.cells := by rw [show (headSpec ws rm).room.cells = mc from hrc]; exact hp.1
  have h5 : A.slots + (headSpec ws rm).room.slots ≤ R.slots := by rw [show (headSpec ws rm).room.slots = ms from hrs]; exact hp.2.1
  have hPc : Pc a (A.U.calling g mk a) := hblind _ _ _ _ hp.2.2
  obtain ⟨U, Ls, c0, s0⟩ := A
  dsimp only [Pt.U, Pt.locs, Pt.cells, Pt.slots] at h1 h2 h3 h4 h5 X hn hPc ⊢
  obtain ⟨methY, cY, hmY, hcY, -, hlY, -, -, -, -⟩ := Cond.code_spec hn h2
  obtain ⟨kY, hkY, -⟩ := className_of_methodNamed hn
  have hinitY : kY.init = .initialized := Cond.initialized_spec (findClass_of_methodNamed hn) hkY h3
  have h : At U g.method c below := by rw [hg]; exact X.here
  have hlocals9 : W9 + (maxL + 11) + (headSpec ws rm).room.locals ≤ R.locals := hlocals
  have happ : (headSpec ws rm).appliesLoose y e.platform (U.calling g mk a) = true :=
    Spec.appliesLoose_calling (g := g) h hdg hn hkY hinitY
      (X.room_calling (g := g) (R' := (headSpec ws rm).room) hsize hmY hcY hframes (by rw [hlY]; omega) h4 h5) h1
  obtain ⟨mid, hmid⟩ := h.above
  have hfr : (U.setTop g).frames = (.java g :: mid) ++ below := by rw [State.frames_setTop' g h.top, hmid]; rfl
  obtain ⟨o, s₂, hsteps, -, hend, hq⟩ := Steps.callFree hM p X.admits X.cas X.clock (acts := []) hfr happ hPc trivial
  have hq' : vx_Q Qc XC mc ms free a (U.calling g mk a) o s₂ := hq
  rw [State.frames_setTop' g h.top] at hend
  obtain ⟨g₀, hg0⟩ := Option.isSome_iff_exists.mp h.top
  obtain ⟨r, hr⟩ := State.topJava?_eq_some.mp hg0
  have hr' : (({ U with heap := s₂.heap, slotsUsed := s₂.slotsUsed } : State).setVm s₂.vm).frames = .java g₀ :: r := hr
  rcases hq' with ⟨hqc, L, hfe, hL⟩ | ⟨q, rfl, E, ce, L, hx, hce, hcv, hcl, hW₂, hsm, hL⟩
  · obtain ⟨⟨v, rfl⟩, hW₂, e2, q2, q3, q4, q5, q6⟩ := id hfe
    have e3 : s₂ = ({ (U.calling g mk a).setFrames s₂.frames with heap := s₂.heap, slotsUsed := s₂.slotsUsed } : State).setVm s₂.vm := by
      have : s₂ = ({ s₂ with vm := (U.calling g mk a).vm } : State).setVm s₂.vm := rfl
      rw [e2] at this
      exact this
    obtain ⟨c₂, i₂, len₂, hc₂, hd₂, hf₂⟩ := hend
    have hW' : U.WarmedH s₂.vm := hW₂
    have hcc : c₂ = c := by
      have h1 : s₂.code? g.method = U.code? g.method := by
        rw [State.code?_eq, State.code?_eq, hW'.alike.method?]
      exact Option.some.inj (hc₂.symm.trans (h1.trans h.code))
    subst hcc
    have hlen : len₂ = len := by rw [hdg] at hd₂; cases hd₂; rfl
    subst hlen
    have hs₂ : s₂ = (({ U with heap := s₂.heap, slotsUsed := s₂.slotsUsed } : State).setVm s₂.vm).setTop { g with pc := g.pc + len₂, stack := v.toList ++ g.stack } := by
      refine e3.trans ?_
      rw [hf₂, State.calling_eq h.top, State.setFrames_setFrames, State.setTop_of_frames _ hr', hr]
      rfl
    have hsame : U.sameButNew ({ U with heap := s₂.heap, slotsUsed := s₂.slotsUsed } : State) L mc ms := by
      refine ⟨?_, q2, q3, q4, q5, q6⟩
      obtain ⟨t, ht, -⟩ := State.frames_cons hr
      show ({ U with heap := s₂.heap, slotsUsed := s₂.slotsUsed } : State) = { U.setFrames U.frames with heap := s₂.heap, slotsUsed := s₂.slotsUsed }
      rw [State.setFrames_self ht]
    subst hg
    refine Or.inl ⟨v, ⟨(({ U with heap := s₂.heap, slotsUsed := s₂.slotsUsed } : State).setVm s₂.vm), Ls ++ L, c0 + mc, s0 + ms⟩,
      ⟨X.admits, X.cas, X.clock, X.frames, X.room, X.hears, X.method, X.code, (X.here.setHeapUsed s₂.heap s₂.slotsUsed).setVm hW'.alike, X.tail, State.WarmedH.trans X.warmed hW', X.limits, X.bytes, X.same.trans (hsame.setVm s.vm)⟩,
      ⟨g, mk, s₂, L, rfl, rfl, hqc, rfl, hL, rfl, rfl⟩, ?_⟩
    show Steps p.tables e below _ ((({ U with heap := s₂.heap, slotsUsed := s₂.slotsUsed } : State).setVm s₂.vm).setTop { g with pc := g.pc + len₂, stack := v.toList ++ g.stack })
    rw [← hs₂]
    exact hsteps
  · obtain ⟨e2, q2, q3, q4, q5, q6⟩ := id hsm
    have e3 : s₂ = ({ (U.calling g mk a).setFrames s₂.frames with heap := s₂.heap, slotsUsed := s₂.slotsUsed } : State).setVm s₂.vm := by
      have : s₂ = ({ s₂ with vm := (U.calling g mk a).vm } : State).setVm s₂.vm := rfl
      rw [e2] at this
      exact this
    have hf₂ : s₂.frames = .throwing q :: .java g :: U.frames.tail := hend
    have hW' : U.WarmedH s₂.vm := hW₂
    have hs₂ : s₂ = ((({ U with heap := s₂.heap, slotsUsed := s₂.slotsUsed } : State).setVm s₂.vm).setTop g).pushFrame (.throwing q) := by
      refine e3.trans ?_
      rw [hf₂, State.calling_eq h.top, State.setFrames_setFrames, State.pushFrame, State.frames_setTop _ hr', State.setTop_of_frames _ hr', State.setFrames_setFrames, hr]
      rfl
    have hsame : U.sameButNew ({ U with heap := s₂.heap, slotsUsed := s₂.slotsUsed } : State) L mc ms := by
      refine ⟨?_, q2, q3, q4, q5, q6⟩
      obtain ⟨t, ht, -⟩ := State.frames_cons hr
      show ({ U with heap := s₂.heap, slotsUsed := s₂.slotsUsed } : State) = { U.setFrames U.frames with heap := s₂.heap, slotsUsed := s₂.slotsUsed }
      rw [State.setFrames_self ht]
    subst hg
    refine Or.inr ⟨q, ⟨(({ U with heap := s₂.heap, slotsUsed := s₂.slotsUsed } : State).setVm s₂.vm), Ls ++ L, c0 + mc, s0 + ms⟩,
      ⟨X.admits, X.cas, X.clock, X.frames, X.room, X.hears, X.method, X.code, (X.here.setHeapUsed s₂.heap s₂.slotsUsed).setVm hW'.alike, X.tail, State.WarmedH.trans X.warmed hW', X.limits, X.bytes, X.same.trans (hsame.setVm s.vm)⟩,
      ⟨g, mk, s₂, L, E, ce, rfl, rfl, hx, hce, hcv, hcl, rfl, hL, rfl, rfl⟩, ?_⟩
    show Steps p.tables e below _ (((({ U with heap := s₂.heap, slotsUsed := s₂.slotsUsed } : State).setVm s₂.vm).setTop g).pushFrame (.throwing q))
    rw [← hs₂]
    exact hsteps
end Payer
section Calls
variable {p : Program} {l : Launch} {e : Env} {R : Room} {s : State} {m : MethodId} {args : Array Value} {below : List Frame} {meth : Method} {c : Code} {T : State} {locs : List Loc} {cells slots : Nat}
theorem vx_callV (X : Stand p l e R s m args below meth c T locs cells slots) (hexec : p.tables.exec = Jvm.exec) {own C : String} {index : Nat} {y : MethodName} {bytes : ByteArray} {maxL : Nat} {ret : Option FieldType}
    (hown : s.vm.findClass own = some m.cls) (hlink : (Cond.methodLink own index y).before args s = true) (hinst : (Cond.instanceMethod y).before args s = true) (hsel : (Cond.selects C y y).before args s = true)
    (hcode : (Cond.code y bytes maxL ret).before args s = true) (hy : y.cls ≠ "java/lang/invoke/MethodHandle" ∧ y.cls ≠ "java/lang/invoke/VarHandle")
    {W9 : Nat} {Pre : Pt → Array Value → Prop} {Post : Pt → Array Value → Option Value → Pt → Prop} {PostX : Pt → Array Value → Addr → Pt → Prop} (hK : vx_Back l R p e below s args y 3 W9 Pre Post PostX)
    {b : Addr} {cellB : Cell} (hcell : T.heap[b]? = some cellB) (hobj : cellB.vm.isStatics = false) (hcls : s.vm.findClass C = some cellB.cls)
    {g : JFrame} (hg : g.method = m) (hsize : g.locals.size = c.maxLocals) {argsL rest : List Value} (hlen : ∀ sig, parseMethodDescriptor y.desc = some sig → argsL.length = sig.parameters.length)
    (hstack : g.stack = argsL.reverse ++ .ref b :: rest) (hW : 2 * g.monitorRoom + (rest.map fun v => v.category).sum ≤ W9) (hdg : decode c.code g.pc = .ok (.invokevirtual index, 3))
    (hpre : ∀ vm₁, s.WarmedH vm₁ → Pre ⟨T.setVm vm₁, locs, cells, slots⟩ (Value.ref b :: argsL).toArray) :
    (∃ (v : Option Value) (vm₁ : Vm) (B : Pt), s.WarmedH vm₁ ∧ Stand p l e R s m args below meth c B.U B.locs B.cells B.slots ∧ Post ⟨T.setVm vm₁, locs, cells, slots⟩ (Value.ref b :: argsL).toArray v B ∧
      ∀ target, Steps p.tables e below (B.U.setTop { g with pc := g.pc + 3, stack := v.toList ++ rest }) target → Steps p.tables e below (T.setTop g) target) ∨
    (∃ (q : Addr) (vm₁ : Vm) (B : Pt), s.WarmedH vm₁ ∧ Stand p l e R s m args below meth c B.U B.locs B.cells B.slots ∧ PostX ⟨T.setVm vm₁, locs, cells, slots⟩ (Value.ref b :: argsL).toArray q B ∧
      Steps p.tables e below (T.setTop g) ((B.U.setTop { g with stack := rest }).pushFrame (.throwing q))) := by
  obtain ⟨mk, methM, hnamed, hmethM, hstM, habM⟩ := Cond.instanceMethod_spec hinst
  obtain ⟨methM', cM, hmethM', -, -, -, -, -, -, hsigM⟩ := Cond.code_spec hnamed hcode
  cases hmethM.symm.trans hmethM'
  obtain ⟨c2, r2, m2, q1, q2, q3, q4, kP, hkP, hkPi⟩ := Cond.selects_spec hsel
  cases hcls.symm.trans q1
  cases (State.methodFound?_of_named hnamed hy).symm.trans q2
  cases hnamed.symm.trans q3
  have hselP : selectMethod e.platform s.vm cellB.cls mk = .method mk := by rw [Launch.admits_selectMethod X.admits]; exact q4
  obtain ⟨vm₁, X₁, hstep₁⟩ := X.invokevirtual hexec hown hlink hnamed hmethM hstM hkP hkPi hy (a := b) (cell := cellB) hcell
    (fun z h => by rw [h] at hobj; cases hobj) hselP hmethM habM hkP hkPi (g := g) hg (argsL := argsL) (rest := rest) (hlen _ hsigM) hstack hdg
  rcases hK m meth c ⟨T.setVm vm₁, locs, cells, slots⟩ { g with stack := rest } (.invokevirtual index) mk (Value.ref b :: argsL).toArray X₁ hg hsize hdg hW (X₁.named hnamed) (hpre vm₁ X₁.warmed) with ⟨v, B, X', hpost, hsteps⟩ | ⟨q, B, X', hpost, hsteps⟩
  · exact Or.inl ⟨v, vm₁, B, X₁.warmed, X', hpost, fun target h => hstep₁ _ fun acts => by rw [doInvoke_state]; exact hsteps.trans h⟩
  · exact Or.inr ⟨q, vm₁, B, X₁.warmed, X', hpost, hstep₁ _ fun acts => by rw [doInvoke_state]; exact hsteps⟩
theorem vx_callS (X : Stand p l e R s m args below meth c T locs cells slots) (hexec : p.tables.exec = Jvm.exec) {own : String} {index : Nat} {y : MethodName} {bytes : ByteArray} {maxL : Nat} {ret : Option FieldType}
    (hown : s.vm.findClass own = some m.cls) (hlink : (Cond.methodLink own index y).before args s = true) (hstat : (Cond.static y).before args s = true) (hinit : (Cond.initialized y.cls).before args s = true)
    (hcode : (Cond.code y bytes maxL ret).before args s = true) (hy : y.cls ≠ "java/lang/invoke/MethodHandle" ∧ y.cls ≠ "java/lang/invoke/VarHandle")
    {W9 : Nat} {Pre : Pt → Array Value → Prop} {Post : Pt → Array Value → Option Value → Pt → Prop} {PostX : Pt → Array Value → Addr → Pt → Prop} (hK : vx_Back l R p e below s args y 3 W9 Pre Post PostX)
    {g : JFrame} (hg : g.method = m) (hsize : g.locals.size = c.maxLocals) {argsL rest : List Value} (hlen : ∀ sig, parseMethodDescriptor y.desc = some sig → argsL.length = sig.parameters.length)
    (hstack : g.stack = argsL.reverse ++ rest) (hW : 2 * g.monitorRoom + (rest.map fun v => v.category).sum ≤ W9) (hdg : decode c.code g.pc = .ok (.invokestatic index, 3))
    (hpre : ∀ vm₁, s.WarmedH vm₁ → Pre ⟨T.setVm vm₁, locs, cells, slots⟩ argsL.toArray) :
    (∃ (v : Option Value) (vm₁ : Vm) (B : Pt), s.WarmedH vm₁ ∧ Stand p l e R s m args below meth c B.U B.locs B.cells B.slots ∧ Post ⟨T.setVm vm₁, locs, cells, slots⟩ argsL.toArray v B ∧
      ∀ target, Steps p.tables e below (B.U.setTop { g with pc := g.pc + 3, stack := v.toList ++ rest }) target → Steps p.tables e below (T.setTop g) target) ∨
    (∃ (q : Addr) (vm₁ : Vm) (B : Pt), s.WarmedH vm₁ ∧ Stand p l e R s m args below meth c B.U B.locs B.cells B.slots ∧ PostX ⟨T.setVm vm₁, locs, cells, slots⟩ argsL.toArray q B ∧
      Steps p.tables e below (T.setTop g) ((B.U.setTop { g with stack := rest }).pushFrame (.throwing q))) := by
  obtain ⟨mk, hnamed⟩ := Cond.code_named hcode
  obtain ⟨methM, cM, hmethM, -, -, -, -, -, -, hsigM⟩ := Cond.code_spec hnamed hcode
  have hstatic : methM.isStatic = true := Cond.static_spec hnamed hmethM hstat
  obtain ⟨kP, hkP, -⟩ := className_of_methodNamed hnamed
  have hinitP : kP.init = .initialized := Cond.initialized_spec (findClass_of_methodNamed hnamed) hkP hinit
  obtain ⟨vm₁, X₁, hstep₁⟩ := X.invokestatic hexec hown hlink hnamed hmethM hstatic hkP hinitP hy (g := g) hg (argsL := argsL) (rest := rest) (hlen _ hsigM) hstack hdg
  rcases hK m meth c ⟨T.setVm vm₁, locs, cells, slots⟩ { g with stack := rest } (.invokestatic index) mk argsL.toArray X₁ hg hsize hdg hW (X₁.named hnamed) (hpre vm₁ X₁.warmed) with ⟨v, B, X', hpost, hsteps⟩ | ⟨q, B, X', hpost, hsteps⟩
  · exact Or.inl ⟨v, vm₁, B, X₁.warmed, X', hpost, fun target h => hstep₁ _ fun acts => by rw [doInvoke_state]; exact hsteps.trans h⟩
  · exact Or.inr ⟨q, vm₁, B, X₁.warmed, X', hpost, hstep₁ _ fun acts => by rw [doInvoke_state]; exact hsteps⟩
end Calls
theorem vx_cls {s : State} {T : State} {vm₁ : Vm} {E : String} {k : ClassId} (hW : s.WarmedH vm₁) (h : (T.setVm vm₁).vm.findClass E = some k) : s.vm.findClass E = some k := by
  have h1 : vm₁.findClass E = some k := h
  rw [hW.alike.findClass] at h1
  exact h1
/-- the method's frame g, with q thrown over it -/
def vx_W (p : Program) (l : Launch) (e : Env) (R : Room) (s : State) (m : MethodId) (args : Array Value) (below : List Frame) (meth : Method) (c : Code) (H : Heap) (locs : List Loc) (cells slots : Nat) (Q : State → Prop) (g : JFrame) (q : Addr) : Prop :=
  ∀ T : State, T.heap = H → Stand p l e R s m args below meth c T locs cells slots → ∃ t, Steps p.tables e below ((T.setTop g).pushFrame (.throwing q)) t ∧ Q t
def vx_Run (p : Program) (l : Launch) (e : Env) (R : Room) (s : State) (m : MethodId) (args : Array Value) (below : List Frame) (meth : Method) (c : Code) (H : Heap) (locs : List Loc) (cells slots mc ms : Nat) (g : JFrame) (rest : List Value) (Qa : State → Outcome → State → Prop) (XC : String → State → State → Prop) (free : Addr → Prop) : Prop :=
  ∀ T : State, T.heap = H → Stand p l e R s m args below meth c T locs cells slots →
    (∃ (v : Option Value) (st₀ t T' : State) (L : List Loc), st₀.heap = H ∧ Stand p l e R s m args below meth c T' (locs ++ L) (cells + mc) (slots + ms) ∧ (∀ q ∈ L, free q.base) ∧ T'.heap = t.heap ∧ T'.vm = t.vm ∧ Qa st₀ (.returned v) t ∧
      Goes p e below T g T' { g with pc := g.pc + 3, stack := v.toList ++ rest }) ∨
    (∃ (q : Addr) (st₀ t T' : State) (L : List Loc) (E : String) (ce : Cell), st₀.heap = H ∧ Stand p l e R s m args below meth c T' (locs ++ L) (cells + mc) (slots + ms) ∧ (∀ z ∈ L, free z.base) ∧ T'.heap = t.heap ∧ T'.vm = t.vm ∧ XC E st₀ t ∧ t.heap[q]? = some ce ∧ ce.vm = .none ∧ s.vm.findClass E = some ce.cls ∧
      Steps p.tables e below (T.setTop g) ((T'.setTop { g with stack := rest }).pushFrame (.throwing q)))
def vx_X {S : Type} (px : S → Prop) (B : String → S → State → Prop) (A : Nat → Prop) : String → State → State → Prop := fun E st t => ∃ u : S, px u ∧ B E u t ∧ va_F A st t
section Runs
variable {p : Program} {l : Launch} {e : Env} {R : Room} {s : State} {m : MethodId} {args : Array Value} {below : List Frame} {meth : Method} {c : Code} {H : Heap} {locs : List Loc} {cells slots : Nat}
variable {y : MethodName} {bytes cc : ByteArray} {maxL nL mc ms n index : Nat} {ret : Option FieldType} {ws : List Cond} {rm : Room} {Pc : Array Value → State → Prop} {Qc : Array Value → State → Outcome → State → Prop} {XC : String → State → State → Prop} {free : Addr → Prop} {Ts : List Cond} {own C : String} {b : Addr} {As rest : List Value} {g : JFrame}
theorem vx_callBack (cb : CallB R s args own index y bytes maxL ret ws rm mc ms n) (hM : vx_Met l y ws rm Pc Qc XC mc ms free) (hbl : FrameBlind Pc) : vx_Back l R p e below s args y 3 8 (PreOf R mc ms Pc) (PostOf Qc mc ms free) (vx_Post XC mc ms free) := by
  obtain ⟨hrc, hrs, hfr, hlo, hws, hcw, -, hini, -⟩ := cb
  exact vx_back (bytes := bytes) (maxL := maxL) (ret := ret) hM hbl hrc hrs hfr hlo hws hcw (fun a' U hW => word_at hW (Or.inl (by first | rfl | simp [Cond.onTables, Cond.keeps, Cond.steady])) hini)
theorem vx_runV (S : CallFix p m c cc nL s args Ts own) (hM : vx_Met l y ws rm Pc Qc XC mc ms free) (cw : CallW R s args own C index y bytes maxL ret ws rm mc ms n) (hp : PreV s H C b Pc As)
    (hg : g.method = m) (hn : As.length = n) (hsize : g.locals.size = nL) (hstack : g.stack = As.reverse ++ .ref b :: rest) (hW : 2 * g.monitorRoom + (rest.map fun v => v.category).sum ≤ 8) (hdg : decode cc g.pc = .ok (.invokevirtual index, 3)) (hf : cells + mc ≤ R.cells ∧ slots + ms ≤ R.slots) :
    vx_Run p l e R s m args below meth c H locs cells slots mc ms g rest (Qc (Value.ref b :: As).toArray) XC free := by
  have hK : vx_Back l R p e below s args y 3 8 (PreOf R mc ms Pc) (PostOf Qc mc ms free) (vx_Post XC mc ms free) := vx_callBack cw.1 hM hp.1
  obtain ⟨⟨-, -, -, -, -, -, hcode, -, hy, hlen, hl⟩, hin, hse⟩ := cw
  obtain ⟨hx, hb, hml, ho, -⟩ := S
  obtain ⟨-, ⟨cellB, hcB, hoB, hclB⟩, hPc⟩ := hp
  intro T hT X
  rcases vx_callV X hx (C := C) (bytes := bytes) (maxL := maxL) (ret := ret) ho hl hin hse hcode hy hK (by rw [hT]; exact hcB) hoB hclB hg (hsize.trans hml.symm) (argsL := As) (rest := rest) (fun sig h => hn.trans (hlen sig h)) hstack hW (by rw [hb]; exact hdg)
    (fun vm₁ hW₁ => ⟨hf.1, hf.2, hPc (T.setVm vm₁) hT hW₁⟩) with ⟨v, vm₁, ⟨U', l2, c2, s2⟩, hW₁, X', ⟨g', mk, t, L, e1, e2, hq, h1, hL, h2, h3⟩, st⟩ | ⟨q, vm₁, ⟨U', l2, c2, s2⟩, hW₁, X', ⟨g', mk, t, L, E, ce, e1, e2, hq, hce, hcv, hcl, h1, hL, h2, h3⟩, st⟩
  · dsimp only [Pt.U, Pt.locs, Pt.cells, Pt.slots] at X' e1 e2 h1 h2 h3 st
    subst h1; subst h2; subst h3
    exact Or.inl ⟨v, (T.setVm vm₁).calling g' mk (Value.ref b :: As).toArray, t, U', L, hT, X', hL, e1, e2, hq, st⟩
  · dsimp only [Pt.U, Pt.locs, Pt.cells, Pt.slots] at X' e1 e2 h1 h2 h3 st hcl
    subst h1; subst h2; subst h3
    exact Or.inr ⟨q, (T.setVm vm₁).calling g' mk (Value.ref b :: As).toArray, t, U', L, E, ce, hT, X', hL, e1, e2, hq, hce, hcv, vx_cls hW₁ hcl, st⟩
theorem vx_runS (S : CallFix p m c cc nL s args Ts own) (hM : vx_Met l y ws rm Pc Qc XC mc ms free) (cw : CallB R s args own index y bytes maxL ret ws rm mc ms n ∧ (Cond.static y).before args s = true) (hp : PreS s H Pc As)
    (hg : g.method = m) (hn : As.length = n) (hsize : g.locals.size = nL) (hstack : g.stack = As.reverse ++ rest) (hW : 2 * g.monitorRoom + (rest.map fun v => v.category).sum ≤ 8) (hdg : decode cc g.pc = .ok (.invokestatic index, 3)) (hf : cells + mc ≤ R.cells ∧ slots + ms ≤ R.slots) :
    vx_Run p l e R s m args below meth c H locs cells slots mc ms g rest (Qc As.toArray) XC free := by
  have hK : vx_Back l R p e below s args y 3 8 (PreOf R mc ms Pc) (PostOf Qc mc ms free) (vx_Post XC mc ms free) := vx_callBack cw.1 hM hp.1
  obtain ⟨⟨-, -, -, -, -, -, hcode, hini, hy, hlen, hl⟩, hstt⟩ := cw
  obtain ⟨hx, hb, hml, ho, -⟩ := S
  intro T hT X
  rcases vx_callS X hx (bytes := bytes) (maxL := maxL) (ret := ret) ho hl hstt hini hcode hy hK hg (hsize.trans hml.symm) (argsL := As) (rest := rest) (fun sig h => hn.trans (hlen sig h)) hstack hW (by rw [hb]; exact hdg)
    (fun vm₁ hW₁ => ⟨hf.1, hf.2, hp.2 (T.setVm vm₁) hT hW₁⟩) with ⟨v, vm₁, ⟨U', l2, c2, s2⟩, hW₁, X', ⟨g', mk, t, L, e1, e2, hq, h1, hL, h2, h3⟩, st⟩ | ⟨q, vm₁, ⟨U', l2, c2, s2⟩, hW₁, X', ⟨g', mk, t, L, E, ce, e1, e2, hq, hce, hcv, hcl, h1, hL, h2, h3⟩, st⟩
  · dsimp only [Pt.U, Pt.locs, Pt.cells, Pt.slots] at X' e1 e2 h1 h2 h3 st
    subst h1; subst h2; subst h3
    exact Or.inl ⟨v, (T.setVm vm₁).calling g' mk As.toArray, t, U', L, hT, X', hL, e1, e2, hq, st⟩
  · dsimp only [Pt.U, Pt.locs, Pt.cells, Pt.slots] at X' e1 e2 h1 h2 h3 st hcl
    subst h1; subst h2; subst h3
    exact Or.inr ⟨q, (T.setVm vm₁).calling g' mk As.toArray, t, U', L, E, ce, hT, X', hL, e1, e2, hq, hce, hcv, vx_cls hW₁ hcl, st⟩
end Runs
section Rows
variable {p : Program} {l : Launch} {e : Env} {R : Room} {s : State} {m : MethodId} {args : Array Value} {below : List Frame} {meth : Method} {c : Code} {H : Heap} {locs : List Loc} {cells slots : Nat} {Q : State → Prop}
variable {mc ms : Nat} {free : Addr → Prop} {A0 A1 : Nat → Prop} {H0 : Heap} {a : Array Value} {pc : Nat} {ls : Array Slot} {st0 rest : List Value}
theorem vx_keep {st₀ t T' : State} {L : List Loc} (h0 : st₀.heap = H) (e1 : T'.heap = t.heap) (hS : va_S A0 H0 H locs) (hA : ∀ q, q < H.size → A1 q → A0 q) (hf : ∀ q, free q → A0 q) (hL : ∀ q ∈ L, free q.base) (hF : va_F A1 st₀ t) :
    H.size ≤ T'.heap.size ∧ (∀ q : Nat, q < H.size → ¬ A1 q → T'.heap[q]? = H[q]?) ∧ va_S A0 H0 T'.heap (locs ++ L) := by
  obtain ⟨hz, hk⟩ := hF
  rw [h0] at hz hk
  exact ⟨by rw [e1]; exact hz, fun q h1 h2 => by rw [e1]; exact hk q h1 h2,
    ⟨Nat.le_trans hS.1 (by rw [e1]; exact hz), fun q h1 h2 => by rw [e1, hk q (Nat.lt_of_lt_of_le h1 hS.1) (fun z => h2 (hA q (Nat.lt_of_lt_of_le h1 hS.1) z))]; exact hS.2.1 q h1 h2, fun q hq => by
      rcases List.mem_append.mp hq with h | h
      · exact hS.2.2 q h
      · exact hf _ (hL q h)⟩⟩
theorem vx_calli {S SX : Type} {post : Int32 → S → Prop} {px : SX → Prop} {B : S → State → Prop} {BX : String → SX → State → Prop} {AX : Nat → Prop} (hr : vx_Run p l e R s m args below meth c H locs cells slots mc ms (F0 m pc ls st0) rest (va_Qi post B A1 a) (vx_X px BX AX) free) (hS : va_S A0 H0 H locs) (hA : ∀ q, q < H.size → A1 q → A0 q) (hf : ∀ q, free q → A0 q) (hAX : ∀ q, q < H.size → AX q → A0 q)
    (kx : ∀ (E : String) (ce : Cell) (q9 : Addr) (u : SX) (t : State) (H1 : Heap) (locs1 : List Loc), t.heap = H1 → s.vm.Alike t.vm → px u → BX E u t → H.size ≤ H1.size → (∀ q : Nat, q < H.size → ¬ AX q → H1[q]? = H[q]?) → va_S A0 H0 H1 locs1 → H1[q9]? = some ce → ce.vm = .none → s.vm.findClass E = some ce.cls → vx_W p l e R s m args below meth c H1 locs1 (cells + mc) (slots + ms) Q (F0 m pc ls rest) q9)
    (kk : ∀ (r : Int32) (u : S) (t : State) (H1 : Heap) (locs1 : List Loc), t.heap = H1 → s.vm.Alike t.vm → post r u → B u t → H.size ≤ H1.size → (∀ q : Nat, q < H.size → ¬ A1 q → H1[q]? = H[q]?) → va_S A0 H0 H1 locs1 → W p l e R s m args below meth c H1 locs1 (cells + mc) (slots + ms) Q (F0 m (pc + 3) ls (.int r :: rest))) : W p l e R s m args below meth c H locs cells slots Q (F0 m pc ls st0) := by
  intro T hT X
  rcases hr T hT X with ⟨v, st₀, t, T', L, h0, X', hL, e1, e2, ⟨⟨r, u, hv, hp, hb⟩, hF⟩, st⟩ | ⟨q, st₀, t, T', L, E, ce, h0, X', hL, e1, e2, ⟨u, hp, hb, hF⟩, hce, hcv, hcl, st⟩
  · cases hv
    obtain ⟨k1, k2, k3⟩ := vx_keep h0 e1 hS hA hf hL hF
    obtain ⟨t2, a1, b1⟩ := kk r u t T'.heap (locs ++ L) e1.symm (by rw [← e2]; exact X'.warmed.alike) hp hb k1 k2 k3 T' rfl X'
    exact ⟨t2, st t2 a1, b1⟩
  · obtain ⟨k1, k2, k3⟩ := vx_keep h0 e1 hS hAX hf hL hF
    obtain ⟨t2, a1, b1⟩ := kx E ce q u t T'.heap (locs ++ L) e1.symm (by rw [← e2]; exact X'.warmed.alike) hp hb k1 k2 k3 (by rw [e1]; exact hce) hcv hcl T' rfl X'
    exact ⟨t2, st.trans a1, b1⟩
theorem vx_calll {S SX : Type} {post : Int64 → S → Prop} {px : SX → Prop} {B : S → State → Prop} {BX : String → SX → State → Prop} {AX : Nat → Prop} (hr : vx_Run p l e R s m args below meth c H locs cells slots mc ms (F0 m pc ls st0) rest (va_Ql post B A1 a) (vx_X px BX AX) free) (hS : va_S A0 H0 H locs) (hA : ∀ q, q < H.size → A1 q → A0 q) (hf : ∀ q, free q → A0 q) (hAX : ∀ q, q < H.size → AX q → A0 q)
    (kx : ∀ (E : String) (ce : Cell) (q9 : Addr) (u : SX) (t : State) (H1 : Heap) (locs1 : List Loc), t.heap = H1 → s.vm.Alike t.vm → px u → BX E u t → H.size ≤ H1.size → (∀ q : Nat, q < H.size → ¬ AX q → H1[q]? = H[q]?) → va_S A0 H0 H1 locs1 → H1[q9]? = some ce → ce.vm = .none → s.vm.findClass E = some ce.cls → vx_W p l e R s m args below meth c H1 locs1 (cells + mc) (slots + ms) Q (F0 m pc ls rest) q9)
    (kk : ∀ (r : Int64) (u : S) (t : State) (H1 : Heap) (locs1 : List Loc), t.heap = H1 → s.vm.Alike t.vm → post r u → B u t → H.size ≤ H1.size → (∀ q : Nat, q < H.size → ¬ A1 q → H1[q]? = H[q]?) → va_S A0 H0 H1 locs1 → W p l e R s m args below meth c H1 locs1 (cells + mc) (slots + ms) Q (F0 m (pc + 3) ls (.long r :: rest))) : W p l e R s m args below meth c H locs cells slots Q (F0 m pc ls st0) := by
  intro T hT X
  rcases hr T hT X with ⟨v, st₀, t, T', L, h0, X', hL, e1, e2, ⟨⟨r, u, hv, hp, hb⟩, hF⟩, st⟩ | ⟨q, st₀, t, T', L, E, ce, h0, X', hL, e1, e2, ⟨u, hp, hb, hF⟩, hce, hcv, hcl, st⟩
  · cases hv
    obtain ⟨k1, k2, k3⟩ := vx_keep h0 e1 hS hA hf hL hF
    obtain ⟨t2, a1, b1⟩ := kk r u t T'.heap (locs ++ L) e1.symm (by rw [← e2]; exact X'.warmed.alike) hp hb k1 k2 k3 T' rfl X'
    exact ⟨t2, st t2 a1, b1⟩
  · obtain ⟨k1, k2, k3⟩ := vx_keep h0 e1 hS hAX hf hL hF
    obtain ⟨t2, a1, b1⟩ := kx E ce q u t T'.heap (locs ++ L) e1.symm (by rw [← e2]; exact X'.warmed.alike) hp hb k1 k2 k3 (by rw [e1]; exact hce) hcv hcl T' rfl X'
    exact ⟨t2, st.trans a1, b1⟩
theorem vx_callf {S SX : Type} {post : UInt32 → S → Prop} {px : SX → Prop} {B : S → State → Prop} {BX : String → SX → State → Prop} {AX : Nat → Prop} (hr : vx_Run p l e R s m args below meth c H locs cells slots mc ms (F0 m pc ls st0) rest (va_Qf post B A1 a) (vx_X px BX AX) free) (hS : va_S A0 H0 H locs) (hA : ∀ q, q < H.size → A1 q → A0 q) (hf : ∀ q, free q → A0 q) (hAX : ∀ q, q < H.size → AX q → A0 q)
    (kx : ∀ (E : String) (ce : Cell) (q9 : Addr) (u : SX) (t : State) (H1 : Heap) (locs1 : List Loc), t.heap = H1 → s.vm.Alike t.vm → px u → BX E u t → H.size ≤ H1.size → (∀ q : Nat, q < H.size → ¬ AX q → H1[q]? = H[q]?) → va_S A0 H0 H1 locs1 → H1[q9]? = some ce → ce.vm = .none → s.vm.findClass E = some ce.cls → vx_W p l e R s m args below meth c H1 locs1 (cells + mc) (slots + ms) Q (F0 m pc ls rest) q9)
    (kk : ∀ (r : UInt32) (u : S) (t : State) (H1 : Heap) (locs1 : List Loc), t.heap = H1 → s.vm.Alike t.vm → post r u → B u t → H.size ≤ H1.size → (∀ q : Nat, q < H.size → ¬ A1 q → H1[q]? = H[q]?) → va_S A0 H0 H1 locs1 → W p l e R s m args below meth c H1 locs1 (cells + mc) (slots + ms) Q (F0 m (pc + 3) ls (.float r :: rest))) : W p l e R s m args below meth c H locs cells slots Q (F0 m pc ls st0) := by
  intro T hT X
  rcases hr T hT X with ⟨v, st₀, t, T', L, h0, X', hL, e1, e2, ⟨⟨r, u, hv, hp, hb⟩, hF⟩, st⟩ | ⟨q, st₀, t, T', L, E, ce, h0, X', hL, e1, e2, ⟨u, hp, hb, hF⟩, hce, hcv, hcl, st⟩
  · cases hv
    obtain ⟨k1, k2, k3⟩ := vx_keep h0 e1 hS hA hf hL hF
    obtain ⟨t2, a1, b1⟩ := kk r u t T'.heap (locs ++ L) e1.symm (by rw [← e2]; exact X'.warmed.alike) hp hb k1 k2 k3 T' rfl X'
    exact ⟨t2, st t2 a1, b1⟩
  · obtain ⟨k1, k2, k3⟩ := vx_keep h0 e1 hS hAX hf hL hF
    obtain ⟨t2, a1, b1⟩ := kx E ce q u t T'.heap (locs ++ L) e1.symm (by rw [← e2]; exact X'.warmed.alike) hp hb k1 k2 k3 (by rw [e1]; exact hce) hcv hcl T' rfl X'
    exact ⟨t2, st.trans a1, b1⟩
theorem vx_calld {S SX : Type} {post : UInt64 → S → Prop} {px : SX → Prop} {B : S → State → Prop} {BX : String → SX → State → Prop} {AX : Nat → Prop} (hr : vx_Run p l e R s m args below meth c H locs cells slots mc ms (F0 m pc ls st0) rest (va_Qd post B A1 a) (vx_X px BX AX) free) (hS : va_S A0 H0 H locs) (hA : ∀ q, q < H.size → A1 q → A0 q) (hf : ∀ q, free q → A0 q) (hAX : ∀ q, q < H.size → AX q → A0 q)
    (kx : ∀ (E : String) (ce : Cell) (q9 : Addr) (u : SX) (t : State) (H1 : Heap) (locs1 : List Loc), t.heap = H1 → s.vm.Alike t.vm → px u → BX E u t → H.size ≤ H1.size → (∀ q : Nat, q < H.size → ¬ AX q → H1[q]? = H[q]?) → va_S A0 H0 H1 locs1 → H1[q9]? = some ce → ce.vm = .none → s.vm.findClass E = some ce.cls → vx_W p l e R s m args below meth c H1 locs1 (cells + mc) (slots + ms) Q (F0 m pc ls rest) q9)
    (kk : ∀ (r : UInt64) (u : S) (t : State) (H1 : Heap) (locs1 : List Loc), t.heap = H1 → s.vm.Alike t.vm → post r u → B u t → H.size ≤ H1.size → (∀ q : Nat, q < H.size → ¬ A1 q → H1[q]? = H[q]?) → va_S A0 H0 H1 locs1 → W p l e R s m args below meth c H1 locs1 (cells + mc) (slots + ms) Q (F0 m (pc + 3) ls (.double r :: rest))) : W p l e R s m args below meth c H locs cells slots Q (F0 m pc ls st0) := by
  intro T hT X
  rcases hr T hT X with ⟨v, st₀, t, T', L, h0, X', hL, e1, e2, ⟨⟨r, u, hv, hp, hb⟩, hF⟩, st⟩ | ⟨q, st₀, t, T', L, E, ce, h0, X', hL, e1, e2, ⟨u, hp, hb, hF⟩, hce, hcv, hcl, st⟩
  · cases hv
    obtain ⟨k1, k2, k3⟩ := vx_keep h0 e1 hS hA hf hL hF
    obtain ⟨t2, a1, b1⟩ := kk r u t T'.heap (locs ++ L) e1.symm (by rw [← e2]; exact X'.warmed.alike) hp hb k1 k2 k3 T' rfl X'
    exact ⟨t2, st t2 a1, b1⟩
  · obtain ⟨k1, k2, k3⟩ := vx_keep h0 e1 hS hAX hf hL hF
    obtain ⟨t2, a1, b1⟩ := kx E ce q u t T'.heap (locs ++ L) e1.symm (by rw [← e2]; exact X'.warmed.alike) hp hb k1 k2 k3 (by rw [e1]; exact hce) hcv hcl T' rfl X'
    exact ⟨t2, st.trans a1, b1⟩
theorem vx_callv {S SX : Type} {post : S → Prop} {px : SX → Prop} {B : S → State → Prop} {BX : String → SX → State → Prop} {AX : Nat → Prop} (hr : vx_Run p l e R s m args below meth c H locs cells slots mc ms (F0 m pc ls st0) rest (va_Qv post B A1 a) (vx_X px BX AX) free) (hS : va_S A0 H0 H locs) (hA : ∀ q, q < H.size → A1 q → A0 q) (hf : ∀ q, free q → A0 q) (hAX : ∀ q, q < H.size → AX q → A0 q)
    (kx : ∀ (E : String) (ce : Cell) (q9 : Addr) (u : SX) (t : State) (H1 : Heap) (locs1 : List Loc), t.heap = H1 → s.vm.Alike t.vm → px u → BX E u t → H.size ≤ H1.size → (∀ q : Nat, q < H.size → ¬ AX q → H1[q]? = H[q]?) → va_S A0 H0 H1 locs1 → H1[q9]? = some ce → ce.vm = .none → s.vm.findClass E = some ce.cls → vx_W p l e R s m args below meth c H1 locs1 (cells + mc) (slots + ms) Q (F0 m pc ls rest) q9)
    (kk : ∀ (u : S) (t : State) (H1 : Heap) (locs1 : List Loc), t.heap = H1 → s.vm.Alike t.vm → post u → B u t → H.size ≤ H1.size → (∀ q : Nat, q < H.size → ¬ A1 q → H1[q]? = H[q]?) → va_S A0 H0 H1 locs1 → W p l e R s m args below meth c H1 locs1 (cells + mc) (slots + ms) Q (F0 m (pc + 3) ls (rest))) : W p l e R s m args below meth c H locs cells slots Q (F0 m pc ls st0) := by
  intro T hT X
  rcases hr T hT X with ⟨v, st₀, t, T', L, h0, X', hL, e1, e2, ⟨⟨u, hv, hp, hb⟩, hF⟩, st⟩ | ⟨q, st₀, t, T', L, E, ce, h0, X', hL, e1, e2, ⟨u, hp, hb, hF⟩, hce, hcv, hcl, st⟩
  · cases hv
    obtain ⟨k1, k2, k3⟩ := vx_keep h0 e1 hS hA hf hL hF
    obtain ⟨t2, a1, b1⟩ := kk u t T'.heap (locs ++ L) e1.symm (by rw [← e2]; exact X'.warmed.alike) hp hb k1 k2 k3 T' rfl X'
    exact ⟨t2, st t2 a1, b1⟩
  · obtain ⟨k1, k2, k3⟩ := vx_keep h0 e1 hS hAX hf hL hF
    obtain ⟨t2, a1, b1⟩ := kx E ce q u t T'.heap (locs ++ L) e1.symm (by rw [← e2]; exact X'.warmed.alike) hp hb k1 k2 k3 (by rw [e1]; exact hce) hcv hcl T' rfl X'
    exact ⟨t2, st.trans a1, b1⟩
/-- caught by the row x of this method's table; the rows ahead don't take it -/
theorem vx_catch {own name : String} {E : String} {ce : Cell} {q : Addr} (hown : s.vm.findClass own = some m.cls) (pre : List ExceptionTableEntry) (x : ExceptionTableEntry) (suf : List ExceptionTableEntry) (hsplit : c.exceptionTable.toList = pre ++ x :: suf)
    (hpass : ∀ z ∈ pre, covers z pc = false ∨ (z.catchType ≠ 0 ∧ ∃ nm : String, (Cond.classLink own z.catchType nm).before args s = true ∧ va_Nc E nm s)) (hx : covers x pc = true) (h0 : x.catchType ≠ 0)
    (hlink : (Cond.classLink own x.catchType name).before args s = true) (hcast : (Cond.castable E name).before args s = true) (hcell : H[q]? = some ce) (hv : ce.vm = .none) (hcl : s.vm.findClass E = some ce.cls)
    (kk : W p l e R s m args below meth c H locs cells slots Q (F0 m x.handlerPc ls [.ref q])) : vx_W p l e R s m args below meth c H locs cells slots Q (F0 m pc ls rest) q := by
  intro T hT X
  have hpl : e.platform.magicAccessors = ({} : Platform).magicAccessors := by rw [X.admits.platform]
  obtain ⟨c3, c4, hc3, hc4, hasg⟩ := Cond.castable_spec hcast
  cases Option.some.inj (hc3.symm.trans hcl)
  obtain ⟨c5, hc5, hcl5⟩ := Cond.classLink_spec hown hlink e.platform hpl
  cases Option.some.inj (hc4.symm.trans hc5)
  obtain ⟨vm', X', st⟩ := X.thenCaughtThrough q (g := F0 m pc ls rest) rfl (Steps.refl _) (by rw [hT]; exact hcell) (by rw [hv]; rfl) (by obtain ⟨k9, h9, -⟩ := Vm.findClass_spec hcl; exact ⟨k9, h9⟩) pre x suf hsplit
    (fun z hz => by
      rcases hpass z hz with h | ⟨hz0, nm, hl1, hn1⟩
      · exact Or.inl h
      · obtain ⟨c6, hc6, hcl6⟩ := Cond.classLink_spec hown hl1 e.platform hpl
        obtain ⟨a8, b8, h1, h2, h3⟩ := hn1
        cases Option.some.inj (h1.symm.trans hcl)
        cases Option.some.inj (h2.symm.trans hc6)
        exact Or.inr ⟨hz0, _, hcl6, h3⟩) hx (Or.inr ⟨h0, c4, hcl5, hasg⟩)
  obtain ⟨t, a1, b1⟩ := kk (T.setVm vm') hT X'
  exact ⟨t, st.trans a1, b1⟩
end Rows
section Ends
variable {p : Program} {l : Launch} {e : Env} {R : Room} {s : State} {m : MethodId} {args : Array Value} {below : List Frame} {meth : Method} {c : Code} {H : Heap} {locs : List Loc} {cells slots : Nat} {Q : State → Prop}
variable {mc ms : Nat} {free : Addr → Prop} {A0 A1 : Nat → Prop} {H0 : Heap} {a : Array Value} {ls : Array Slot} {st0 rest : List Value}
variable {Qc : Array Value → State → Outcome → State → Prop} {XC : String → State → State → Prop}
/-- what a body that may throw owes at its end -/
def vx_MQ (below : List Frame) (Qc : Array Value → State → Outcome → State → Prop) (XC : String → State → State → Prop) (a : Array Value) (s : State) (mc ms : Nat) (free : Addr → Prop) : State → Prop := fun t =>
  ∃ o, t.status = .running ∧ Ended t below o ∧ vx_Q Qc XC mc ms free a s o t
theorem vx_ret {g : JFrame} {mc ms : Nat} (k : W p l e R s m args below meth c H locs cells slots (MQ below Qc args s mc ms free) g) : W p l e R s m args below meth c H locs cells slots (vx_MQ below Qc XC args s mc ms free) g := by
  intro T hT X
  obtain ⟨t, a1, o, b1, b2, b3, b4⟩ := k T hT X
  exact ⟨t, a1, o, b1, b2, Or.inl ⟨b3, b4⟩⟩
/-- not caught here: it goes on to the caller -/
theorem vx_widen {g : JFrame} {q : Addr} {k n : Nat} (h1 : cells ≤ k) (h2 : slots ≤ n) (kk : vx_W p l e R s m args below meth c H locs k n Q g q) : vx_W p l e R s m args below meth c H locs cells slots Q g q := fun T hT X => kk T hT (stand_widen X h1 h2)
theorem vx_out {pc : Nat} {E : String} {ce : Cell} {q : Addr} {mc ms : Nat} (hout : ∀ x ∈ c.exceptionTable.toList, covers x pc = false) (hlocks : meth.locks = false) (hcell : H[q]? = some ce) (hv : ce.vm = .none) (hcl : s.vm.findClass E = some ce.cls)
    (hx : ∀ t : State, t.heap = H → s.vm.Alike t.vm → XC E s t) (hf : ∀ z ∈ locs, free z.base) (hc : cells ≤ mc) (hs : slots ≤ ms) :
    vx_W p l e R s m args below meth c H locs cells slots (vx_MQ below Qc XC args s mc ms free) (F0 m pc ls rest) q := by
  intro T hT X
  obtain ⟨st1, hrun, hend, hW, hsm⟩ := X.leaveThrown q (g := F0 m pc ls rest) rfl rfl rfl hout hlocks
  have hcell9 : (T.setFrames (.throwing q :: below)).heap[q]? = some ce := by
    show T.heap[q]? = some ce
    rw [hT]; exact hcell
  exact ⟨_, st1, .threw q, hrun, hend, Or.inr ⟨q, rfl, E, ce, locs, hx _ hT hW.alike, hcell9, hv, hcl, hW, hsm.mono hc hs, hf⟩⟩
theorem vx_frame {U : State} {k n : Nat} (h : s.sameButNew ({ U with vm := s.vm } : State) locs k n) : s.heap.size ≤ U.heap.size ∧ ∀ q : Nat, q < s.heap.size → (∀ z ∈ locs, z.base ≠ q) → U.heap[q]? = s.heap[q]? := by
  obtain ⟨-, h2, -, -, -, h6⟩ := h
  refine ⟨h2, fun q hq hz => ?_⟩
  obtain ⟨c9, e1, e2, e3, e4⟩ := h6 q _ (Array.getElem?_eq_getElem hq)
  have hs : c9.slots = (s.heap[q]).slots := Array.ext_getElem? fun i => e4 i fun hm => hz _ hm rfl
  have h9 : c9 = s.heap[q] := by
    rw [hs] at e2
    exact e2
  have e5 : U.heap[q]? = some c9 := e1
  rw [e5, h9, Array.getElem?_eq_getElem hq]
/-- the words of a throw but the four that speak of the heap -/
def vx_no (w : Cond) : Bool := decide (w ≠ .isRef (.static Bundle.tN "UNASSIGNED_STACK" Bundle.steD)) && decide (w ≠ .isRef (.static Bundle.tN "SUPPRESSED_SENTINEL" Bundle.listD)) && decide (w ≠ .laysStatic Bundle.tN "UNASSIGNED_STACK" Bundle.steD) && decide (w ≠ .laysStatic Bundle.tN "SUPPRESSED_SENTINEL" Bundle.listD)
def vx_at0 (own : String) (ic : Nat) (X : String) (names : List String) : List Cond := (Bundle.ownAtoms0 own ic X names).filter vx_no
def vx_atS (own : String) (ic : Nat) (X : String) (names : List String) : List Cond := (Bundle.ownAtoms own ic X names).filter vx_no
/-- a word that the tables alone decide, or a good one -/
def vx_ot (w : Cond) : Bool := w.onTables || goodWord w
theorem vx_ot_at {args a' : Array Value} {s U : State} {w : Cond} (hW : s.WarmedH U.vm) (hvm : s.vm = U.vm) (hg : vx_ot w = true) (h : w.before args s = true) : w.before a' U = true := by
  simp only [vx_ot, Bool.or_eq_true] at hg
  rcases hg with hg | hg
  · exact va_tabs hg hvm h
  · exact word_at hW (good_of_word hg) h
/-- a list's words: the good ones out of the method's own list, the others by premises of their own -/
theorem vx_hat {args : Array Value} {s : State} {L B : List Cond} (h1 : ∀ w ∈ L.filter goodWord, w.before args s = true) (h2 : ∀ w ∈ L.filter (fun w => !goodWord w), w ∈ B) (h3 : ∀ w ∈ B, w.before args s = true) : ∀ w ∈ L, w.before args s = true := by
  intro w hw
  by_cases g : goodWord w = true
  · exact h1 w (List.mem_filter.mpr ⟨hw, g⟩)
  · refine h3 w (h2 w (List.mem_filter.mpr ⟨hw, ?_⟩))
    show (!goodWord w) = true
    cases hgw : goodWord w
    · rfl
    · exact absurd hgw g
theorem vx_c {args : Array Value} {s : State} {w : Cond} {B : List Cond} (h : w.before args s = true) (t : ∀ w ∈ B, w.before args s = true) : ∀ w' ∈ w :: B, w'.before args s = true := fun w' h' => (List.mem_cons.mp h').elim (fun e => by rw [e]; exact h) (t w')
theorem vx_n {args : Array Value} {s : State} : ∀ w ∈ ([] : List Cond), w.before args s = true := fun _ h => nomatch h
theorem vx_own {args : Array Value} {s : State} {L : List Cond} (h1 : ∀ w ∈ L.filter vx_no, w.before args s = true)
    (hU : (Cond.isRef (.static Bundle.tN "UNASSIGNED_STACK" Bundle.steD)).before args s = true) (hN : (Cond.isRef (.static Bundle.tN "SUPPRESSED_SENTINEL" Bundle.listD)).before args s = true)
    (lU : (Cond.laysStatic Bundle.tN "UNASSIGNED_STACK" Bundle.steD).before args s = true) (lN : (Cond.laysStatic Bundle.tN "SUPPRESSED_SENTINEL" Bundle.listD).before args s = true) : ∀ w ∈ L, w.before args s = true := by
  intro w hw
  by_cases e1 : w = .isRef (.static Bundle.tN "UNASSIGNED_STACK" Bundle.steD)
  · rw [e1]; exact hU
  · by_cases e2 : w = .isRef (.static Bundle.tN "SUPPRESSED_SENTINEL" Bundle.listD)
    · rw [e2]; exact hN
    · by_cases e3 : w = .laysStatic Bundle.tN "UNASSIGNED_STACK" Bundle.steD
      · rw [e3]; exact lU
      · by_cases e4 : w = .laysStatic Bundle.tN "SUPPRESSED_SENTINEL" Bundle.listD
        · rw [e4]; exact lN
        · exact h1 w (List.mem_filter.mpr ⟨hw, by unfold vx_no; rw [decide_eq_true e1, decide_eq_true e2, decide_eq_true e3, decide_eq_true e4]; rfl⟩)
/-- where a static field lies, its class's statics cell in H -/
def vx_L (C n d : String) (A : Nat → Prop) (U : State) (H : Heap) : Prop := ∃ (c : ClassId) (k : Class) (i : Nat) (f : Field) (a : Nat) (cell : Cell), U.vm.findClass C = some c ∧ U.fieldFound? C n d = some (c, k, i, f) ∧ f.isStatic = true ∧ k.statics = some a ∧ H[a]? = some cell ∧ cell.vm.isStatics = true ∧ cell.cls = c ∧ f.slot < cell.slots.size ∧ k.staticTypes[f.slot]? = some f.type ∧ ¬ A a
theorem vx_L.moved {C n d : String} {A : Nat → Prop} {u U : State} {H : Heap} (hvm : u.vm.Alike U.vm) (h : vx_L C n d A u H) : vx_L C n d A U H := by
  obtain ⟨c, k, i, f, a, cell, h1, h2, h3, h4, h5, h6, h7, h8, h9, h10⟩ := h
  obtain ⟨k', hi', he⟩ := State.fieldFound?_setVm hvm h2
  exact ⟨c, k', i, f, a, cell, by rw [hvm.findClass]; exact h1, hi', h3, by rw [he]; exact h4, h5, h6, h7, h8, by rw [he]; exact h9, h10⟩
theorem vx_L.kept {C n d : String} {A : Nat → Prop} {U : State} {H H1 : Heap} (h : vx_L C n d A U H) (hq : ∀ a : Nat, a < H.size → ¬ A a → H1[a]? = H[a]?) : vx_L C n d A U H1 := by
  obtain ⟨c, k, i, f, a, cell, h1, h2, h3, h4, h5, h6, h7, h8, h9, h10⟩ := h
  exact ⟨c, k, i, f, a, cell, h1, h2, h3, h4, by rw [hq a (Array.getElem?_eq_some_iff.mp h5).1 h10]; exact h5, h6, h7, h8, h9, h10⟩
theorem vx_L.narrow {C n d : String} {A B : Nat → Prop} {U : State} {H : Heap} (h : vx_L C n d A U H) (hAB : ∀ q, B q → A q) : vx_L C n d B U H := by
  obtain ⟨c, k, i, f, a, cell, h1, h2, h3, h4, h5, h6, h7, h8, h9, h10⟩ := h
  exact ⟨c, k, i, f, a, cell, h1, h2, h3, h4, h5, h6, h7, h8, h9, fun z => h10 (hAB _ z)⟩
theorem vx_L.word {C n d : String} {A : Nat → Prop} {s : State} {args : Array Value} (h : vx_L C n d A s s.heap) : (Cond.laysStatic C n d).before args s = true := by
  obtain ⟨c, k, i, f, a, cell, h1, h2, h3, h4, h5, h6, h7, h8, h9, -⟩ := h
  show (Cond.laysStatic C n d).holds args s none s [] = true
  exact Cond.laysStatic_of h1 h2 h3 h4 h5 h6 h7 h8 h9
/-- .. and what it holds: null or some reference -/
def vx_Zq (C n d : String) (A : Nat → Prop) (U : State) (H : Heap) : Prop := va_Zq C n d A U H ∧ vx_L C n d A U H
theorem vx_Zq.moved {C n d : String} {A : Nat → Prop} {u U : State} {H : Heap} (hvm : u.vm.Alike U.vm) (h : vx_Zq C n d A u H) : vx_Zq C n d A U H := ⟨va_Zq.moved hvm h.1, vx_L.moved hvm h.2⟩
theorem vx_Zq.kept {C n d : String} {A : Nat → Prop} {U : State} {H H1 : Heap} (h : vx_Zq C n d A U H) (hq : ∀ a : Nat, a < H.size → ¬ A a → H1[a]? = H[a]?) : vx_Zq C n d A U H1 := ⟨va_Zq.kept h.1 hq, vx_L.kept h.2 hq⟩
theorem vx_Zq.narrow {C n d : String} {A B : Nat → Prop} {U : State} {H : Heap} (h : vx_Zq C n d A U H) (hAB : ∀ q, B q → A q) : vx_Zq C n d B U H := ⟨va_Zq.narrow h.1 hAB, vx_L.narrow h.2 hAB⟩
theorem vx_Zqof {args : Array Value} {s : State} {C n d : String} {A : Nat → Prop} (hl : (Cond.laysStatic C n d).before args s = true) (hini : (Cond.initialized C).before args s = true) (h : (Cond.isRef (.static C n d)).before args s = true) (hA : ∀ a : Nat, a < s.heap.size → ¬ A a) : vx_Zq C n d A s s.heap := by
  refine ⟨va_Zqof hl hini h hA, ?_⟩
  obtain ⟨c, k, i, f, a, cell, h1, h2, h3, h4, h5, h6, h7, h8, h9⟩ := Cond.laysStatic_spec hl
  exact ⟨c, k, i, f, a, cell, h1, h2, h3, h4, h5, h6, h7, h8, h9, hA a (Array.getElem?_eq_some_iff.mp h5).1⟩
theorem vx_isRef {C n d : String} {v : Value} {A : Nat → Prop} {s : State} {args : Array Value} (h : va_Z C n d v A s s.heap) (hv : v.isRef = true) : (Cond.isRef (.static C n d)).before args s = true := by
  obtain ⟨cf, kf, fi, f, a, cell, h1, h2, h3, h4, h5, h6, h7, -⟩ := h
  have he : (Term.static C n d).eval args s none [] s = some v := by
    simp [Term.eval, State.fieldNamed?, h1, h2, h4, h5, h6, h7]
  simp only [Cond.before, Cond.holds, Cond.value, he]
  cases v <;> simp_all [Value.isRef]
theorem vx_isRefq {C n d : String} {A : Nat → Prop} {s : State} {args : Array Value} (h : va_Zq C n d A s s.heap) : (Cond.isRef (.static C n d)).before args s = true := by
  rcases h with h | ⟨t, h⟩
  · exact vx_isRef h rfl
  · exact vx_isRef h rfl
/-- the same frame, seen from here: as if the method were called anew in this heap -/
theorem vx_rebase {T : State} (X : Stand p l e R s m args below meth c T locs cells slots) {R' : Room} (hf : R'.frames ≤ R.frames) (hl : R'.locals ≤ R.locals) (hc : cells + R'.cells ≤ R.cells) (hs : slots + R'.slots ≤ R.slots) :
    Stand p l e R' ((T.setVm s.vm).setFrames (.invoking m args :: below)) m args below meth c T [] 0 0 := by
  have htop : (T.setVm s.vm).topJava?.isSome := X.here.top
  have hF : ((T.setVm s.vm).setFrames (.invoking m args :: below)).frames = .invoking m args :: below := State.frames_setFrames _ (State.cur_lt_of_top htop)
  obtain ⟨g₀, hg0⟩ := Option.isSome_iff_exists.mp htop
  obtain ⟨r, hr⟩ := State.topJava?_eq_some.mp hg0
  have hl9 : e.platform.stackLimits (T.setVm s.vm).me = e.platform.stackLimits s.me := X.limits
  have hb9 : (T.setVm s.vm).me.stackBytes = s.me.stackBytes := X.bytes
  refine ⟨X.admits, X.cas, X.clock, hF, ?_, X.hears, X.method, X.code, X.here, X.tail, X.warmed, ?_, ?_, ?_⟩
  · have h := X.room
    have hU : ((T.setVm s.vm).setFrames (.invoking m args :: below)).localsInUse = s.localsInUse := by
      rw [State.localsInUse_invoking hF (meth := meth) (c := c) X.method X.code, State.localsInUse_invoking X.frames X.method X.code]
    simp only [State.hasRoom, Bool.and_eq_true, decide_eq_true_eq] at h ⊢
    obtain ⟨⟨⟨⟨h1, h2, h3, h4, h5, h6⟩, h7⟩, h8⟩, h9⟩ := h
    rw [X.frames, List.length_cons] at h2 h3
    have q1 := X.heapSize
    have q2 := X.used
    simp only [hF, hU, List.length_cons, State.stackLimits_setFrames, State.stackBytes_setFrames, hl9, hb9]
    refine ⟨⟨⟨⟨by omega, by omega, by omega, by omega, by omega, h6⟩, ?_⟩, ?_⟩, X.book⟩
    · show T.heap.size + R'.cells ≤ e.platform.maxCells
      omega
    · show T.slotsUsed + R'.slots ≤ e.platform.maxSlots
      omega
  · rw [State.stackLimits_setFrames]; rfl
  · rw [State.stackBytes_setFrames]; rfl
  · refine ⟨?_, Nat.le_refl _, Nat.le_refl _, ?_, ?_, fun a c9 h9 => ⟨c9, h9, rfl, rfl, fun _ _ => rfl⟩⟩
    · obtain ⟨t, ht, -⟩ := State.frames_cons hr
      show T.setVm s.vm = { ((T.setVm s.vm).setFrames (.invoking m args :: below)).setFrames (T.setVm s.vm).frames with heap := T.heap, slotsUsed := T.slotsUsed }
      rw [State.setFrames_setFrames, State.setFrames_self ht]
      rfl
    · show T.slotsUsed = T.slotsUsed + ((T.heap.toList.drop T.heap.size).map (·.slots.size)).sum
      rw [List.drop_eq_nil_of_le (Nat.le_of_eq Array.length_toList)]
      rfl
    · show ((T.heap.toList.drop T.heap.size).map (·.slots.size)).sum ≤ 0
      rw [List.drop_eq_nil_of_le (Nat.le_of_eq Array.length_toList)]
      exact Nat.le_refl _
/-- 'throw new E()': new; dup; invokespecial; athrow -/
theorem vx_throw0 {cc : ByteArray} {pc : Nat} (hexec : p.tables.exec = Jvm.exec) (hb : c.code = cc) (hl : l.stackTraces = false) {own cls : String} {names : List String} {ik ic mc ms : Nat} {A : Nat → Prop}
    (hown : s.vm.findClass own = some m.cls) (hcls : Bundle.fit cls = true) (hnames : ∀ n ∈ names, Bundle.fit n = true)
    (hk : (Cond.classLink own ik cls).before args s = true) (hini : (Cond.initialized cls).before args s = true) (hat : ∀ w ∈ vx_at0 own ic cls names, w.before args s = true)
    (hgood : ∀ w ∈ Cond.classLink own ik cls :: Cond.initialized cls :: vx_at0 own ic cls names, vx_ot w = true)
    (hU : vx_Zq Bundle.tN "UNASSIGNED_STACK" Bundle.steD A s s.heap) (hN : vx_Zq Bundle.tN "SUPPRESSED_SENTINEL" Bundle.listD A s s.heap) (hS : va_S A s.heap H locs) (hsize : ls.size = c.maxLocals)
    (d0 : decode cc pc = .ok (.new ik, 3)) (d3 : decode cc (pc + 3) = .ok (.dup, 1)) (d4 : decode cc (pc + 4) = .ok (.invokespecial ic, 3)) (d7 : decode cc (pc + 7) = .ok (.athrow, 1))
    (hout : ∀ x ∈ c.exceptionTable.toList, covers x (pc + 7) = false)
    (hRframes : names.length + 3 < R.frames) (hRlocals : (rest.map fun v => v.category).sum + (13 * (names.length + 1) + 42) ≤ R.locals) (hRcells : cells + 1 ≤ R.cells) (hRslots : slots + 6 ≤ R.slots) (hlocks : meth.locks = false)
    (hx : ∀ t : State, s.vm.Alike t.vm → H.size ≤ t.heap.size → (∀ q : Nat, q < H.size → t.heap[q]? = H[q]?) → XC cls s t)
    (hf : ∀ z ∈ locs, free z.base) (hc : cells + 1 ≤ mc) (hs : slots + 6 ≤ ms) :
    W p l e R s m args below meth c H locs cells slots (vx_MQ below Qc XC args s mc ms free) (F0 m pc ls rest) := by
  intro T hT X
  have htr : e.platform.stackTraces = false := (show e.platform.stackTraces = l.stackTraces by rw [X.admits.platform]).trans hl
  have Y := vx_rebase X (R' := { frames := R.frames, locals := R.locals, cells := 1, slots := 6 }) (Nat.le_refl _) (Nat.le_refl _) hRcells hRslots
  obtain ⟨s', hA⟩ : ∃ z, z = (T.setVm s.vm).setFrames (.invoking m args :: below) := ⟨_, rfl⟩
  rw [← hA] at Y
  have hvm : s'.vm = s.vm := by rw [hA]; rfl
  have hhp : s'.heap = H := by rw [hA]; exact hT
  have hW0 : s.WarmedH s'.vm := by rw [hvm]; exact State.WarmedH.refl s
  have hat' : ∀ w ∈ vx_at0 own ic cls names, w.before args s' = true := fun w hw => vx_ot_at hW0 hvm.symm (hgood w (List.mem_cons_of_mem _ (List.mem_cons_of_mem _ hw))) (hat w hw)
  have hk' : (Cond.classLink own ik cls).before args s' = true := vx_ot_at hW0 hvm.symm (hgood _ List.mem_cons_self) hk
  have hini' : (Cond.initialized cls).before args s' = true := vx_ot_at hW0 hvm.symm (hgood _ (List.mem_cons_of_mem _ List.mem_cons_self)) hini
  have hU' : vx_Zq Bundle.tN "UNASSIGNED_STACK" Bundle.steD A s' s'.heap := by rw [hhp]; exact vx_Zq.moved hW0.alike (hU.kept hS.2.1)
  have hN' : vx_Zq Bundle.tN "SUPPRESSED_SENTINEL" Bundle.listD A s' s'.heap := by rw [hhp]; exact vx_Zq.moved hW0.alike (hN.kept hS.2.1)
  have h : ∀ w ∈ Bundle.ownAtoms0 own ic cls names, w.before args s' = true := vx_own hat' (vx_isRefq hU'.1) (vx_isRefq hN'.1) hU'.2.word hN'.2.word
  have hown' : s'.vm.findClass own = some m.cls := by rw [hvm]; exact hown
  have hins : (Cond.instantiable cls 6).before args s' = true := h _ (by simp [Bundle.ownAtoms0])
  obtain ⟨vm₁, cX, kX, hfX, hkX, -, -, X₁, st1⟩ := Y.newCold hexec (own := own) (C := cls) (index := ik) (n := 6) hown' hk' hins hini'
    (g := F0 m pc ls rest) rfl (by rw [hb]; exact d0) (Nat.le_refl _) (Nat.le_refl _)
  generalize hT1 : (T.setVm vm₁).pushCell { cls := cX, slots := kX.instanceTypes.map defaultValue, vm := .none } = T1 at X₁ st1
  have hcat : (Value.ref T.heap.size).category = 1 := rfl
  have hcellA : T1.heap[T.heap.size]? = some (freshCell cX kX) := by rw [← hT1]; exact State.heap_pushCell_size _ _
  have d3' : decode c.code (pc + 3) = .ok (.dup, 1) := by rw [hb]; exact d3
  obtain ⟨U, hsteps, hrun, hend, hW, hsame, ce, hce, hO⟩ := X₁.ctorThrow0 hexec htr (own := own) (cls := cls) (names := names) (ic := ic) hown' hcls hnames h (fun x hx => nomatch hx) hfX hkX hcellA (by rw [hhp, hT]; exact Nat.le_refl _)
    (g := { method := m, pc := pc + 4, locals := ls, stack := .ref T.heap.size :: .ref T.heap.size :: rest, locked := none }) rfl hsize rfl rfl (rest := rest) rfl
    (by rw [hb]; exact d4) (by rw [hb]; exact d7) hout hRframes (by simp only [List.map_cons, List.sum_cons, hcat]; omega) hlocks
  obtain ⟨f1, f2⟩ := vx_frame hsame
  rw [hhp] at f1 f2
  have hWs : s.WarmedH U.vm := State.WarmedH.trans hW0 hW
  have hcl : s.vm.findClass cls = some ce.cls := by
    have h9 := hO.cls
    rw [hvm] at h9
    exact h9
  have hall : s.sameButNew ({ U with vm := s.vm } : State) locs mc ms := by
    subst hA
    obtain ⟨e1, e2⟩ := hsame
    rw [State.setFrames_setFrames] at e1
    have h2 : (T.setVm s.vm).sameButNew ({ U with vm := s.vm } : State) [] (0 + 1) (0 + 6) := ⟨e1, e2⟩
    have h3 := X.same.trans h2
    rw [List.append_nil] at h3
    exact h3.mono hc hs
  refine ⟨U, ?_, .threw T.heap.size, hrun, hend, Or.inr ⟨T.heap.size, rfl, cls, ce, locs, hx U hWs.alike f1 (fun q hq => f2 q hq (fun z hz => nomatch hz)), hce, hO.vm, hcl, hWs, hall, hf⟩⟩
  refine st1 _ ?_
  show Steps p.tables e below (T1.setTop { method := m, pc := pc + 3, locals := ls, stack := .ref T.heap.size :: rest, locked := none }) _
  jvm_step X₁.here [X₁.here.top, hexec, d3', Value.category]
  exact hsteps
/-- 'throw new E("text")': new; dup; ldc; invokespecial; athrow -/
theorem vx_throwS {cc : ByteArray} {pc : Nat} (hexec : p.tables.exec = Jvm.exec) (hb : c.code = cc) (hl : l.stackTraces = false) {own cls text : String} {names : List String} {ik is ic mc ms sa : Nat} {A : Nat → Prop}
    (hown : s.vm.findClass own = some m.cls) (hcls : Bundle.fit cls = true) (hnames : ∀ n ∈ names, Bundle.fit n = true)
    (hk : (Cond.classLink own ik cls).before args s = true) (hini : (Cond.initialized cls).before args s = true) (hstr : vk_R own is text sa s) (hat : ∀ w ∈ vx_atS own ic cls names, w.before args s = true)
    (hgood : ∀ w ∈ Cond.classLink own ik cls :: Cond.initialized cls :: vx_atS own ic cls names, vx_ot w = true)
    (hU : vx_Zq Bundle.tN "UNASSIGNED_STACK" Bundle.steD A s s.heap) (hN : vx_Zq Bundle.tN "SUPPRESSED_SENTINEL" Bundle.listD A s s.heap) (hS : va_S A s.heap H locs) (hsize : ls.size = c.maxLocals)
    (d0 : decode cc pc = .ok (.new ik, 3)) (d3 : decode cc (pc + 3) = .ok (.dup, 1)) (d4 : decode cc (pc + 4) = .ok (.ldc is, 2)) (d6 : decode cc (pc + 6) = .ok (.invokespecial ic, 3)) (d9 : decode cc (pc + 9) = .ok (.athrow, 1))
    (hout : ∀ x ∈ c.exceptionTable.toList, covers x (pc + 9) = false)
    (hRframes : names.length + 3 < R.frames) (hRlocals : (rest.map fun v => v.category).sum + (13 * (names.length + 1) + 43) ≤ R.locals) (hRcells : cells + 1 ≤ R.cells) (hRslots : slots + 6 ≤ R.slots) (hlocks : meth.locks = false)
    (hx : ∀ t : State, s.vm.Alike t.vm → H.size ≤ t.heap.size → (∀ q : Nat, q < H.size → t.heap[q]? = H[q]?) → XC cls s t)
    (hf : ∀ z ∈ locs, free z.base) (hc : cells + 1 ≤ mc) (hs : slots + 6 ≤ ms) :
    W p l e R s m args below meth c H locs cells slots (vx_MQ below Qc XC args s mc ms free) (F0 m pc ls rest) := by
  intro T hT X
  have htr : e.platform.stackTraces = false := (show e.platform.stackTraces = l.stackTraces by rw [X.admits.platform]).trans hl
  have Y := vx_rebase X (R' := { frames := R.frames, locals := R.locals, cells := 1, slots := 6 }) (Nat.le_refl _) (Nat.le_refl _) hRcells hRslots
  obtain ⟨s', hA⟩ : ∃ z, z = (T.setVm s.vm).setFrames (.invoking m args :: below) := ⟨_, rfl⟩
  rw [← hA] at Y
  have hvm : s'.vm = s.vm := by rw [hA]; rfl
  have hhp : s'.heap = H := by rw [hA]; exact hT
  have hW0 : s.WarmedH s'.vm := by rw [hvm]; exact State.WarmedH.refl s
  have hat' : ∀ w ∈ vx_atS own ic cls names, w.before args s' = true := fun w hw => vx_ot_at hW0 hvm.symm (hgood w (List.mem_cons_of_mem _ (List.mem_cons_of_mem _ hw))) (hat w hw)
  have hk' : (Cond.classLink own ik cls).before args s' = true := vx_ot_at hW0 hvm.symm (hgood _ List.mem_cons_self) hk
  have hini' : (Cond.initialized cls).before args s' = true := vx_ot_at hW0 hvm.symm (hgood _ (List.mem_cons_of_mem _ List.mem_cons_self)) hini
  have hU' : vx_Zq Bundle.tN "UNASSIGNED_STACK" Bundle.steD A s' s'.heap := by rw [hhp]; exact vx_Zq.moved hW0.alike (hU.kept hS.2.1)
  have hN' : vx_Zq Bundle.tN "SUPPRESSED_SENTINEL" Bundle.listD A s' s'.heap := by rw [hhp]; exact vx_Zq.moved hW0.alike (hN.kept hS.2.1)
  have h : ∀ w ∈ Bundle.ownAtoms own ic cls names, w.before args s' = true := vx_own hat' (vx_isRefq hU'.1) (vx_isRefq hN'.1) hU'.2.word hN'.2.word
  have hown' : s'.vm.findClass own = some m.cls := by rw [hvm]; exact hown
  have hins : (Cond.instantiable cls 6).before args s' = true := h _ (by simp [Bundle.ownAtoms])
  obtain ⟨vm₁, cX, kX, hfX, hkX, -, -, X₁, st1⟩ := Y.newCold hexec (own := own) (C := cls) (index := ik) (n := 6) hown' hk' hins hini'
    (g := F0 m pc ls rest) rfl (by rw [hb]; exact d0) (Nat.le_refl _) (Nat.le_refl _)
  generalize hT1 : (T.setVm vm₁).pushCell { cls := cX, slots := kX.instanceTypes.map defaultValue, vm := .none } = T1 at X₁ st1
  have hcat : (Value.ref T.heap.size).category = 1 := rfl
  have hcellA : T1.heap[T.heap.size]? = some (freshCell cX kX) := by rw [← hT1]; exact State.heap_pushCell_size _ _
  have d3' : decode c.code (pc + 3) = .ok (.dup, 1) := by rw [hb]; exact d3
  have d4' : decode c.code (pc + 4) = .ok (.ldc is, 2) := by rw [hb]; exact d4
  have hstr' : vk_R own is text sa s' := vk_R.warm hW0 hstr
  obtain ⟨U, hsteps, hrun, hend, hW, hsame, ce, hce, hO⟩ := X₁.ctorThrowS hexec htr (own := own) (cls := cls) (names := names) (ic := ic) hown' hcls hnames h (fun x hx => nomatch hx) hfX hkX hcellA (by rw [hhp, hT]; exact Nat.le_refl _) (msg := .ref sa) rfl
    (g := { method := m, pc := pc + 6, locals := ls, stack := .ref sa :: .ref T.heap.size :: .ref T.heap.size :: rest, locked := none }) rfl hsize rfl rfl (rest := rest) rfl
    (by rw [hb]; exact d6) (by rw [hb]; exact d9) hout hRframes (by simp only [List.map_cons, List.sum_cons, hcat]; omega) hlocks
  obtain ⟨f1, f2⟩ := vx_frame hsame
  rw [hhp] at f1 f2
  have hWs : s.WarmedH U.vm := State.WarmedH.trans hW0 hW
  have hcl : s.vm.findClass cls = some ce.cls := by
    have h9 := hO.cls
    rw [hvm] at h9
    exact h9
  have hall : s.sameButNew ({ U with vm := s.vm } : State) locs mc ms := by
    subst hA
    obtain ⟨e1, e2⟩ := hsame
    rw [State.setFrames_setFrames] at e1
    have h2 : (T.setVm s.vm).sameButNew ({ U with vm := s.vm } : State) [] (0 + 1) (0 + 6) := ⟨e1, e2⟩
    have h3 := X.same.trans h2
    rw [List.append_nil] at h3
    exact h3.mono hc hs
  refine ⟨U, ?_, .threw T.heap.size, hrun, hend, Or.inr ⟨T.heap.size, rfl, cls, ce, locs, hx U hWs.alike f1 (fun q hq => f2 q hq (fun z hz => nomatch hz)), hce, hO.vm, hcl, hWs, hall, hf⟩⟩
  refine st1 _ ?_
  show Steps p.tables e below (T1.setTop { method := m, pc := pc + 3, locals := ls, stack := .ref T.heap.size :: rest, locked := none }) _
  jvm_step X₁.here [X₁.here.top, hexec, d3', Value.category]
  exact X₁.ldcString hexec (own := own) (text := text) (index := is) (a := sa) hown' hstr'.1 hstr'.2
    (g := { method := m, pc := pc + 4, locals := ls, stack := .ref T.heap.size :: .ref T.heap.size :: rest, locked := none }) rfl d4' _ hsteps
/-- 'throw new E("text")', the text by a wide index -/
theorem vx_throwSW {cc : ByteArray} {pc : Nat} (hexec : p.tables.exec = Jvm.exec) (hb : c.code = cc) (hl : l.stackTraces = false) {own cls text : String} {names : List String} {ik is ic mc ms sa : Nat} {A : Nat → Prop}
    (hown : s.vm.findClass own = some m.cls) (hcls : Bundle.fit cls = true) (hnames : ∀ n ∈ names, Bundle.fit n = true)
    (hk : (Cond.classLink own ik cls).before args s = true) (hini : (Cond.initialized cls).before args s = true) (hstr : vk_R own is text sa s) (hat : ∀ w ∈ vx_atS own ic cls names, w.before args s = true)
    (hgood : ∀ w ∈ Cond.classLink own ik cls :: Cond.initialized cls :: vx_atS own ic cls names, vx_ot w = true)
    (hU : vx_Zq Bundle.tN "UNASSIGNED_STACK" Bundle.steD A s s.heap) (hN : vx_Zq Bundle.tN "SUPPRESSED_SENTINEL" Bundle.listD A s s.heap) (hS : va_S A s.heap H locs) (hsize : ls.size = c.maxLocals)
    (d0 : decode cc pc = .ok (.new ik, 3)) (d3 : decode cc (pc + 3) = .ok (.dup, 1)) (d4 : decode cc (pc + 4) = .ok (.ldc_w is, 3)) (d7 : decode cc (pc + 7) = .ok (.invokespecial ic, 3)) (d10 : decode cc (pc + 10) = .ok (.athrow, 1))
    (hout : ∀ x ∈ c.exceptionTable.toList, covers x (pc + 10) = false)
    (hRframes : names.length + 3 < R.frames) (hRlocals : (rest.map fun v => v.category).sum + (13 * (names.length + 1) + 43) ≤ R.locals) (hRcells : cells + 1 ≤ R.cells) (hRslots : slots + 6 ≤ R.slots) (hlocks : meth.locks = false)
    (hx : ∀ t : State, s.vm.Alike t.vm → H.size ≤ t.heap.size → (∀ q : Nat, q < H.size → t.heap[q]? = H[q]?) → XC cls s t)
    (hf : ∀ z ∈ locs, free z.base) (hc : cells + 1 ≤ mc) (hs : slots + 6 ≤ ms) :
    W p l e R s m args below meth c H locs cells slots (vx_MQ below Qc XC args s mc ms free) (F0 m pc ls rest) := by
  intro T hT X
  have htr : e.platform.stackTraces = false := (show e.platform.stackTraces = l.stackTraces by rw [X.admits.platform]).trans hl
  have Y := vx_rebase X (R' := { frames := R.frames, locals := R.locals, cells := 1, slots := 6 }) (Nat.le_refl _) (Nat.le_refl _) hRcells hRslots
  obtain ⟨s', hA⟩ : ∃ z, z = (T.setVm s.vm).setFrames (.invoking m args :: below) := ⟨_, rfl⟩
  rw [← hA] at Y
  have hvm : s'.vm = s.vm := by rw [hA]; rfl
  have hhp : s'.heap = H := by rw [hA]; exact hT
  have hW0 : s.WarmedH s'.vm := by rw [hvm]; exact State.WarmedH.refl s
  have hat' : ∀ w ∈ vx_atS own ic cls names, w.before args s' = true := fun w hw => vx_ot_at hW0 hvm.symm (hgood w (List.mem_cons_of_mem _ (List.mem_cons_of_mem _ hw))) (hat w hw)
  have hk' : (Cond.classLink own ik cls).before args s' = true := vx_ot_at hW0 hvm.symm (hgood _ List.mem_cons_self) hk
  have hini' : (Cond.initialized cls).before args s' = true := vx_ot_at hW0 hvm.symm (hgood _ (List.mem_cons_of_mem _ List.mem_cons_self)) hini
  have hU' : vx_Zq Bundle.tN "UNASSIGNED_STACK" Bundle.steD A s' s'.heap := by rw [hhp]; exact vx_Zq.moved hW0.alike (hU.kept hS.2.1)
  have hN' : vx_Zq Bundle.tN "SUPPRESSED_SENTINEL" Bundle.listD A s' s'.heap := by rw [hhp]; exact vx_Zq.moved hW0.alike (hN.kept hS.2.1)
  have h : ∀ w ∈ Bundle.ownAtoms own ic cls names, w.before args s' = true := vx_own hat' (vx_isRefq hU'.1) (vx_isRefq hN'.1) hU'.2.word hN'.2.word
  have hown' : s'.vm.findClass own = some m.cls := by rw [hvm]; exact hown
  have hins : (Cond.instantiable cls 6).before args s' = true := h _ (by simp [Bundle.ownAtoms])
  obtain ⟨vm₁, cX, kX, hfX, hkX, -, -, X₁, st1⟩ := Y.newCold hexec (own := own) (C := cls) (index := ik) (n := 6) hown' hk' hins hini'
    (g := F0 m pc ls rest) rfl (by rw [hb]; exact d0) (Nat.le_refl _) (Nat.le_refl _)
  generalize hT1 : (T.setVm vm₁).pushCell { cls := cX, slots := kX.instanceTypes.map defaultValue, vm := .none } = T1 at X₁ st1
  have hcat : (Value.ref T.heap.size).category = 1 := rfl
  have hcellA : T1.heap[T.heap.size]? = some (freshCell cX kX) := by rw [← hT1]; exact State.heap_pushCell_size _ _
  have d3' : decode c.code (pc + 3) = .ok (.dup, 1) := by rw [hb]; exact d3
  have d4' : decode c.code (pc + 4) = .ok (.ldc_w is, 3) := by rw [hb]; exact d4
  have hstr' : vk_R own is text sa s' := vk_R.warm hW0 hstr
  obtain ⟨U, hsteps, hrun, hend, hW, hsame, ce, hce, hO⟩ := X₁.ctorThrowS hexec htr (own := own) (cls := cls) (names := names) (ic := ic) hown' hcls hnames h (fun x hx => nomatch hx) hfX hkX hcellA (by rw [hhp, hT]; exact Nat.le_refl _) (msg := .ref sa) rfl
    (g := { method := m, pc := pc + 7, locals := ls, stack := .ref sa :: .ref T.heap.size :: .ref T.heap.size :: rest, locked := none }) rfl hsize rfl rfl (rest := rest) rfl
    (by rw [hb]; exact d7) (by rw [hb]; exact d10) hout hRframes (by simp only [List.map_cons, List.sum_cons, hcat]; omega) hlocks
  obtain ⟨f1, f2⟩ := vx_frame hsame
  rw [hhp] at f1 f2
  have hWs : s.WarmedH U.vm := State.WarmedH.trans hW0 hW
  have hcl : s.vm.findClass cls = some ce.cls := by
    have h9 := hO.cls
    rw [hvm] at h9
    exact h9
  have hall : s.sameButNew ({ U with vm := s.vm } : State) locs mc ms := by
    subst hA
    obtain ⟨e1, e2⟩ := hsame
    rw [State.setFrames_setFrames] at e1
    have h2 : (T.setVm s.vm).sameButNew ({ U with vm := s.vm } : State) [] (0 + 1) (0 + 6) := ⟨e1, e2⟩
    have h3 := X.same.trans h2
    rw [List.append_nil] at h3
    exact h3.mono hc hs
  refine ⟨U, ?_, .threw T.heap.size, hrun, hend, Or.inr ⟨T.heap.size, rfl, cls, ce, locs, hx U hWs.alike f1 (fun q hq => f2 q hq (fun z hz => nomatch hz)), hce, hO.vm, hcl, hWs, hall, hf⟩⟩
  refine st1 _ ?_
  show Steps p.tables e below (T1.setTop { method := m, pc := pc + 3, locals := ls, stack := .ref T.heap.size :: rest, locked := none }) _
  jvm_step X₁.here [X₁.here.top, hexec, d3', Value.category]
  exact X₁.ldcStringW hexec (own := own) (text := text) (index := is) (a := sa) hown' hstr'.1 hstr'.2
    (g := { method := m, pc := pc + 4, locals := ls, stack := .ref T.heap.size :: .ref T.heap.size :: rest, locked := none }) rfl d4' _ hsteps
end Ends
section Bodies
variable {l : Launch}
theorem vx_ofW {y : MethodName} {ws ws' : List Cond} {rm : Room} {Pc : Array Value → State → Prop} {Qc : Array Value → State → Outcome → State → Prop} {XC : String → State → State → Prop} {mc ms : Nat} {free : Addr → Prop} {cc : ByteArray} {maxL : Nat} {ret : Option FieldType}
    (hy : plainName y.cls = true) (hw : ws = Cond.code y cc maxL ret :: ws')
    (body : ∀ p e s m args below meth c s₁, BodyLoose p l y (headSpec ws rm) cc maxL ret e s m args below meth c s₁ → c.maxLocals = maxL → (∀ x ∈ c.exceptionTable.toList, False) → Pc args s →
      W p l e (headSpec ws rm).room s m args below meth c s.heap [] 0 0 (vx_MQ below Qc XC args s mc ms free) (entryFrame m args maxL)) : vx_Met l y ws rm Pc Qc XC mc ms free := by
  refine MetFree.of_bodyS (code := cc) (maxLocals := maxL) (ret := ret) hy ?_ ?_
  · intro args s m h hn
    obtain ⟨meth, c, h1, h2, h3, h4, h5, h6, -, -⟩ := Cond.code_spec hn (atoms_spec (ws := ws) h _ (by rw [hw]; exact List.mem_cons_self))
    exact ⟨meth, c, h1, h2, h3, h4, h5, h6⟩
  · intro p e s m args below meth c s₁ B hml hP _
    have hh0 : s₁.heap = s.heap := by rw [B.state]; rfl
    have ht : ∀ x ∈ c.exceptionTable.toList, False := by
      obtain ⟨meth9, c9, h1, h2, -, -, -, -, h7, -⟩ := Cond.code_spec B.named (atoms_spec (ws := ws) B.pre _ (by rw [hw]; exact List.mem_cons_self))
      cases Option.some.inj (h1.symm.trans B.method)
      cases Option.some.inj (h2.symm.trans (Stand.of_body B).code)
      intro x hx
      rw [Array.isEmpty_iff.mp h7] at hx
      cases hx
    obtain ⟨t, a1, o, b1, b2, b3⟩ := body p e s m args below meth c s₁ B hml ht hP s₁ hh0 (Stand.of_body B)
    exact ⟨t, o, a1, b1, b2, b3⟩
/-- the table of a body with handlers -/
theorem vx_table {p : Program} {x y : MethodName} {S : Spec} {cc bytes : ByteArray} {maxL maxL' : Nat} {ret ret' : Option FieldType} {e : Env} {s s₁ : State} {m : MethodId} {args : Array Value} {below : List Frame} {meth : Method} {c : Code} {hh : List (Nat × Nat × Nat × Nat)}
    (B : BodyLoose p l y S cc maxL ret e s m args below meth c s₁) (h : (Cond.codeWith y bytes maxL' ret' hh).before args s = true) : c.exceptionTable.toList = tableOf hh := by
  obtain ⟨m9, meth9, c9, hn9, h1, h2, -, -, h6, -⟩ := Cond.codeWith_spec h
  cases Option.some.inj (hn9.symm.trans B.named)
  cases Option.some.inj (h1.symm.trans B.method)
  cases Option.some.inj (h2.symm.trans (Stand.of_body B).code)
  rw [← h6, table_eq]
end Bodies
end VXA
/-! ===== END ===== -/
/-! ===== BEGIN a static call of a method with an exception table ===== -/
section VXS
variable {p : Program} {l : Launch} {e : Env} {R : Room} {s : State} {m : MethodId} {args : Array Value} {below : List Frame} {meth : Method} {c : Code} {T : State} {H : Heap} {locs : List Loc} {cells slots : Nat}
abbrev vx_CSW (R : Room) (s : State) (args : Array Value) (own : String) (index : Nat) (y : MethodName) (bytes : ByteArray) (maxL : Nat) (ret : Option FieldType) (hh : List (Nat × Nat × Nat × Nat)) (ws : List Cond) (rm : Room) (mc ms n : Nat) : Prop :=
  (rm.cells = mc ∧ rm.slots = ms ∧ rm.frames + 1 ≤ R.frames ∧ 8 + (maxL + 11) + rm.locals ≤ R.locals ∧ (∀ w ∈ ws, ∀ (a' : Array Value) (U : State), s.WarmedH U.vm → w.before a' U = true) ∧ Cond.codeWith y bytes maxL ret hh ∈ ws) ∧
  (Cond.codeWith y bytes maxL ret hh).before args s = true ∧ (Cond.initialized y.cls).before args s = true ∧ (y.cls ≠ "java/lang/invoke/MethodHandle" ∧ y.cls ≠ "java/lang/invoke/VarHandle") ∧
  (∀ sig, parseMethodDescriptor y.desc = some sig → n = sig.parameters.length) ∧ (Cond.methodLink own index y).before args s = true ∧ (Cond.static y).before args s = true
theorem vx_cwSW {own : String} {index maxL mc ms : Nat} {y : MethodName} {bytes : ByteArray} {ret : Option FieldType} {hh : List (Nat × Nat × Nat × Nat)} {Ts ws ws' : List Cond} {rm : Room} (n : Nat) (ht : ∀ w ∈ Ts, w.before args s = true) (hT : GoodIn Ts (va_wsS own index y ws)) (hw : ws = Cond.codeWith y bytes maxL ret hh :: ws') (hrc : rm.cells = mc) (hrs : rm.slots = ms)
    (hd : y.cls ≠ "java/lang/invoke/MethodHandle" ∧ y.cls ≠ "java/lang/invoke/VarHandle" ∧ (parseMethodDescriptor y.desc).map (fun d => d.parameters.length) = some n) (hR : rm.frames + 1 ≤ R.frames ∧ 8 + (maxL + 11) + rm.locals ≤ R.locals) :
    vx_CSW R s args own index y bytes maxL ret hh ws rm mc ms n := by
  have ok : ∀ w ∈ va_wsS own index y ws, w.before args s = true := fun w h => ht w (hT w h).1
  have hG : GoodIn Ts ws := fun w h => hT w (by unfold va_wsS; exact List.mem_append_right _ h)
  have hc : Cond.codeWith y bytes maxL ret hh ∈ ws := by rw [hw]; exact List.mem_cons_self
  refine ⟨⟨hrc, hrs, hR.1, hR.2, pay_in ht hG, hc⟩, ht _ (hG _ hc).1, ok _ (by simp [va_wsS]), ⟨hd.1, hd.2.1⟩, fun sig h => ?_, ok _ (by simp [va_wsS]), ok _ (by simp [va_wsS])⟩
  have h2 := hd.2.2
  rw [h] at h2
  exact (Option.some.inj h2).symm
theorem vx_callSW (X : Stand p l e R s m args below meth c T locs cells slots) (hexec : p.tables.exec = Jvm.exec) {own : String} {index : Nat} {y : MethodName} {bytes : ByteArray} {maxL : Nat} {ret : Option FieldType} {hh : List (Nat × Nat × Nat × Nat)}
    (hown : s.vm.findClass own = some m.cls) (hlink : (Cond.methodLink own index y).before args s = true) (hstat : (Cond.static y).before args s = true) (hinit : (Cond.initialized y.cls).before args s = true)
    (hcode : (Cond.codeWith y bytes maxL ret hh).before args s = true) (hy : y.cls ≠ "java/lang/invoke/MethodHandle" ∧ y.cls ≠ "java/lang/invoke/VarHandle")
    {W9 : Nat} {Pre : Pt → Array Value → Prop} {Post : Pt → Array Value → Option Value → Pt → Prop} (hK : Back l R p e below s args y 3 W9 Pre Post)
    {g : JFrame} (hg : g.method = m) (hsize : g.locals.size = c.maxLocals) {argsL rest : List Value} (hlen : ∀ sig, parseMethodDescriptor y.desc = some sig → argsL.length = sig.parameters.length)
    (hstack : g.stack = argsL.reverse ++ rest) (hW : 2 * g.monitorRoom + (rest.map fun v => v.category).sum ≤ W9) (hdg : decode c.code g.pc = .ok (.invokestatic index, 3))
    (hpre : ∀ vm₁, s.WarmedH vm₁ → Pre ⟨T.setVm vm₁, locs, cells, slots⟩ argsL.toArray) :
    ∃ (v : Option Value) (vm₁ : Vm) (B : Pt), s.WarmedH vm₁ ∧ Stand p l e R s m args below meth c B.U B.locs B.cells B.slots ∧ Post ⟨T.setVm vm₁, locs, cells, slots⟩ argsL.toArray v B ∧
      ∀ target, Steps p.tables e below (B.U.setTop { g with pc := g.pc + 3, stack := v.toList ++ rest }) target → Steps p.tables e below (T.setTop g) target := by
  obtain ⟨mk, methM, cM, hnamed, hmethM, -, -, -, -, -, -, hsigM⟩ := Cond.codeWith_spec hcode
  have hstatic : methM.isStatic = true := Cond.static_spec hnamed hmethM hstat
  obtain ⟨kP, hkP, -⟩ := className_of_methodNamed hnamed
  have hinitP : kP.init = .initialized := Cond.initialized_spec (findClass_of_methodNamed hnamed) hkP hinit
  obtain ⟨vm₁, X₁, hstep₁⟩ := X.invokestatic hexec hown hlink hnamed hmethM hstatic hkP hinitP hy (g := g) hg (argsL := argsL) (rest := rest) (hlen _ hsigM) hstack hdg
  obtain ⟨v, B, X', hpost, hsteps⟩ := hK m meth c ⟨T.setVm vm₁, locs, cells, slots⟩ { g with stack := rest } (.invokestatic index) mk argsL.toArray X₁ hg hsize hdg hW (X₁.named hnamed) (hpre vm₁ X₁.warmed)
  exact ⟨v, vm₁, B, X₁.warmed, X', hpost, fun target h => hstep₁ _ fun acts => by rw [doInvoke_state]; exact hsteps.trans h⟩
theorem vx_runSW {y : MethodName} {bytes cc : ByteArray} {maxL nL mc ms n index : Nat} {ret : Option FieldType} {hh : List (Nat × Nat × Nat × Nat)} {ws : List Cond} {rm : Room} {Pc : Array Value → State → Prop} {Qc : Array Value → State → Outcome → State → Prop} {free : Addr → Prop} {Ts : List Cond} {own : String} {As rest : List Value} {g : JFrame}
    (S : CallFix p m c cc nL s args Ts own) (hM : Met l y ws rm Pc Qc mc ms free) (cw : vx_CSW R s args own index y bytes maxL ret hh ws rm mc ms n) (hp : PreS s H Pc As)
    (hg : g.method = m) (hn : As.length = n) (hsize : g.locals.size = nL) (hstack : g.stack = As.reverse ++ rest) (hW : 2 * g.monitorRoom + (rest.map fun v => v.category).sum ≤ 8) (hdg : decode cc g.pc = .ok (.invokestatic index, 3)) (hf : cells + mc ≤ R.cells ∧ slots + ms ≤ R.slots) :
    va_Run p l e R s m args below meth c H locs cells slots mc ms g rest (Qc As.toArray) (free) := by
  obtain ⟨⟨hrc, hrs, hfr, hlo, hws, hcw⟩, hcode, hini, hy, hlen, hl, hstt⟩ := cw
  have hK : Back l R p e below s args y 3 8 (PreOf R mc ms Pc) (PostOf Qc mc ms free) := va_backW (hh := hh) (bytes := bytes) (maxL := maxL) (ret := ret) hM hp.1 hrc hrs hfr hlo hws hcw (fun a' U hW => word_at hW (Or.inl (by first | rfl | simp [Cond.onTables, Cond.keeps, Cond.steady])) hini)
  obtain ⟨hx, hb, hml, ho, -⟩ := S
  intro T hT X
  obtain ⟨v, vm₁, ⟨U', l2, c2, s2⟩, hW₁, X', ⟨g', mk, t, L, e1, e2, hq, h1, hL, h2, h3⟩, st⟩ := vx_callSW X hx (hh := hh) (bytes := bytes) (maxL := maxL) (ret := ret) ho hl hstt hini hcode hy hK hg (hsize.trans hml.symm) (argsL := As) (rest := rest) (fun sig h => hn.trans (hlen sig h)) hstack hW (by rw [hb]; exact hdg)
    (fun vm₁ hW₁ => ⟨hf.1, hf.2, hp.2 (T.setVm vm₁) hT hW₁⟩)
  dsimp only [Pt.U, Pt.locs, Pt.cells, Pt.slots] at X' e1 e2 h1 h2 h3 st
  subst h1; subst h2; subst h3
  exact ⟨v, (T.setVm vm₁).calling g' mk As.toArray, t, U', L, hT, X', hL, e1, e2, hq, st⟩
/-- not caught here, past rows that name other classes: it goes on to the caller -/
theorem vx_outP {p : Program} {l : Launch} {e : Env} {R : Room} {s : State} {m : MethodId} {args : Array Value} {below : List Frame} {meth : Method} {c : Code} {H : Heap} {locs : List Loc} {cells slots : Nat} {free : Addr → Prop} {ls : Array Slot} {rest : List Value} {Qc : Array Value → State → Outcome → State → Prop} {XC : String → State → State → Prop}
    {pc : Nat} {own E : String} {ce : Cell} {q : Addr} {mc ms : Nat} (hown : s.vm.findClass own = some m.cls) (hlocks : meth.locks = false)
    (hpass : ∀ z ∈ c.exceptionTable.toList, covers z pc = false ∨ (z.catchType ≠ 0 ∧ ∃ nm : String, (Cond.classLink own z.catchType nm).before args s = true ∧ va_Nc E nm s)) (hcell : H[q]? = some ce) (hv : ce.vm = .none) (hcl : s.vm.findClass E = some ce.cls)
    (hx : ∀ t : State, t.heap = H → s.vm.Alike t.vm → XC E s t) (hf : ∀ z ∈ locs, free z.base) (hc : cells ≤ mc) (hs : slots ≤ ms) :
    vx_W p l e R s m args below meth c H locs cells slots (vx_MQ below Qc XC args s mc ms free) (F0 m pc ls rest) q := by
  intro T hT X
  have hpl : e.platform.magicAccessors = ({} : Platform).magicAccessors := by rw [X.admits.platform]
  obtain ⟨vm', hW', X', st⟩ := X.outThrough hlocks q (g := F0 m pc ls rest) rfl rfl rfl (cell := ce) (by rw [hT]; exact hcell) (by rw [hv]; rfl)
    (by obtain ⟨k9, h9, -⟩ := Vm.findClass_spec hcl; exact ⟨k9, h9⟩) (fun z hz => by
      rcases hpass z hz with h | ⟨hz0, nm, hl1, hn1⟩
      · exact Or.inl h
      · obtain ⟨c6, hc6, hcl6⟩ := Cond.classLink_spec hown hl1 e.platform hpl
        obtain ⟨a8, b8, h1, h2, h3⟩ := hn1
        cases Option.some.inj (h1.symm.trans hcl)
        cases Option.some.inj (h2.symm.trans hc6)
        exact Or.inr ⟨hz0, _, hcl6, h3⟩)
  obtain ⟨g₀, hfr⟩ := X'.frames_eq
  have hcell9 : ((T.setVm vm').setFrames (.throwing q :: below)).heap[q]? = some ce := by
    show T.heap[q]? = some ce
    rw [hT]; exact hcell
  have hend : Ended ((T.setVm vm').setFrames (.throwing q :: below)) below (.threw q) := State.frames_setFrames _ (State.cur_lt_of_frames hfr)
  refine ⟨(T.setVm vm').setFrames (.throwing q :: below), ?_, .threw q, X'.here.running, hend, Or.inr ⟨q, rfl, E, ce, locs, hx _ hT (X'.ends _).1.alike, hcell9, hv, hcl, (X'.ends _).1, (X'.ends _).2.mono hc hs, hf⟩⟩
  rw [X.pushThrowing_eq]
  exact st
/-- a thing of a world lies in the heap -/
theorem vx_lt {D : va_G} {cl : List vw_C} {ws : va_W} {H1 : Heap} (h : va_P D cl ws H1) {k : Nat} {q : Nat × va_E} (hk : ws[k]? = some q) : q.1 < H1.size := (h k q hk).lt
end VXS
/-! ===== END ===== -/
/-! ===== BEGIN methods with a table of their own: called by a name, returning or throwing ===== -/
section VXH
/-! vx_backW, vx_callVX, vx_callSX, vx_callVW, vx_runVW, vx_runVX, vx_runSX, vx_ofWH follow the same proofs as their sisters above (Free/Laws.lean, Shelf42/LK1.lean); vx_outP calls Shelf42/NT130.lean (outThrough). -/
section
variable {l : Launch} {R : Room} {p : Program} {e : Env} {below : List Frame} {s : State} {sargs : Array Value} {y : MethodName} {len W9 : Nat}
theorem vx_backW {ws : List Cond} {rm : Room} {Pc : Array Value → State → Prop} {Qc : Array Value → State → Outcome → State → Prop} {XC : String → State → State → Prop} {mc ms : Nat} {free : Addr → Prop} {bytes : ByteArray} {maxL : Nat} {ret : Option FieldType} {hh : List (Nat × Nat × Nat × Nat)}
    (hM : vx_Met l y ws rm Pc Qc XC mc ms free) (hblind : FrameBlind Pc) (hrc : rm.cells = mc) (hrs : rm.slots = ms)
    (hframes : rm.frames + 1 ≤ R.frames) (hlocals : W9 + (maxL + 11) + rm.locals ≤ R.locals)
    (hws : ∀ w ∈ ws, ∀ a' U, s.WarmedH U.vm → w.before a' U = true) (hcode : Cond.codeWith y bytes maxL ret hh ∈ ws) (hinit : ∀ a' U, s.WarmedH U.vm → (Cond.initialized y.cls).before a' U = true) :
    vx_Back l R p e below s sargs y len W9 (PreOf R mc ms Pc) (PostOf Qc mc ms free) (vx_Post XC mc ms free) := by
  intro m meth c A g ig mk a X hg hsize hdg hW hn hp
  have h1 : (headSpec ws rm).pre.before a A.U = true := atoms_intro fun w hw => hws w hw _ _ X.warmed
  have h2 : (Cond.codeWith y bytes maxL ret hh).before a A.U = true := hws _ hcode _ _ X.warmed
  have h3 : (Cond.initialized y.cls).before a A.U = true := hinit _ _ X.warmed
  have h4 : A.cells + (headSpec ws rm).room.cells ≤ R.cells := by rw [show (headSpec ws rm).room.cells = mc from hrc]; exact hp.1
  have h5 : A.slots + (headSpec ws rm).room.slots ≤ R.slots := by rw [show (headSpec ws rm).room.slots = ms from hrs]; exact hp.2.1
  have hPc : Pc a (A.U.calling g mk a) := hblind _ _ _ _ hp.2.2
  obtain ⟨U, Ls, c0, s0⟩ := A
  dsimp only [Pt.U, Pt.locs, Pt.cells, Pt.slots] at h1 h2 h3 h4 h5 X hn hPc ⊢
  obtain ⟨m9, methY, cY, hn9, hmY, hcY, -, hlY, -⟩ := Cond.codeWith_spec h2
  cases Option.some.inj (hn9.symm.trans hn)
  obtain ⟨kY, hkY, -⟩ := className_of_methodNamed hn
  have hinitY : kY.init = .initialized := Cond.initialized_spec (findClass_of_methodNamed hn) hkY h3
  have h : At U g.method c below := by rw [hg]; exact X.here
  have hlocals9 : W9 + (maxL + 11) + (headSpec ws rm).room.locals ≤ R.locals := hlocals
  have happ : (headSpec ws rm).appliesLoose y e.platform (U.calling g mk a) = true :=
    Spec.appliesLoose_calling (g := g) h hdg hn hkY hinitY
      (X.room_calling (g := g) (R' := (headSpec ws rm).room) hsize hmY hcY hframes (by rw [hlY]; omega) h4 h5) h1
  obtain ⟨mid, hmid⟩ := h.above
  have hfr : (U.setTop g).frames = (.java g :: mid) ++ below := by rw [State.frames_setTop' g h.top, hmid]; rfl
  obtain ⟨o, s₂, hsteps, -, hend, hq⟩ := Steps.callFree hM p X.admits X.cas X.clock (acts := []) hfr happ hPc trivial
  have hq' : vx_Q Qc XC mc ms free a (U.calling g mk a) o s₂ := hq
  rw [State.frames_setTop' g h.top] at hend
  obtain ⟨g₀, hg0⟩ := Option.isSome_iff_exists.mp h.top
  obtain ⟨r, hr⟩ := State.topJava?_eq_some.mp hg0
  have hr' : (({ U with heap := s₂.heap, slotsUsed := s₂.slotsUsed } : State).setVm s₂.vm).frames = .java g₀ :: r := hr
  rcases hq' with ⟨hqc, L, hfe, hL⟩ | ⟨q, rfl, E, ce, L, hx, hce, hcv, hcl, hW₂, hsm, hL⟩
  · obtain ⟨⟨v, rfl⟩, hW₂, e2, q2, q3, q4, q5, q6⟩ := id hfe
    have e3 : s₂ = ({ (U.calling g mk a).setFrames s₂.frames with heap := s₂.heap, slotsUsed := s₂.slotsUsed } : State).setVm s₂.vm := by
      have : s₂ = ({ s₂ with vm := (U.calling g mk a).vm } : State).setVm s₂.vm := rfl
      rw [e2] at this
      exact this
    obtain ⟨c₂, i₂, len₂, hc₂, hd₂, hf₂⟩ := hend
    have hW' : U.WarmedH s₂.vm := hW₂
    have hcc : c₂ = c := by
      have h1 : s₂.code? g.method = U.code? g.method := by
        rw [State.code?_eq, State.code?_eq, hW'.alike.method?]
      exact Option.some.inj (hc₂.symm.trans (h1.trans h.code))
    subst hcc
    have hlen : len₂ = len := by rw [hdg] at hd₂; cases hd₂; rfl
    subst hlen
    have hs₂ : s₂ = (({ U with heap := s₂.heap, slotsUsed := s₂.slotsUsed } : State).setVm s₂.vm).setTop { g with pc := g.pc + len₂, stack := v.toList ++ g.stack } := by
      refine e3.trans ?_
      rw [hf₂, State.calling_eq h.top, State.setFrames_setFrames, State.setTop_of_frames _ hr', hr]
      rfl
    have hsame : U.sameButNew ({ U with heap := s₂.heap, slotsUsed := s₂.slotsUsed } : State) L mc ms := by
      refine ⟨?_, q2, q3, q4, q5, q6⟩
      obtain ⟨t, ht, -⟩ := State.frames_cons hr
      show ({ U with heap := s₂.heap, slotsUsed := s₂.slotsUsed } : State) = { U.setFrames U.frames with heap := s₂.heap, slotsUsed := s₂.slotsUsed }
      rw [State.setFrames_self ht]
    subst hg
    refine Or.inl ⟨v, ⟨(({ U with heap := s₂.heap, slotsUsed := s₂.slotsUsed } : State).setVm s₂.vm), Ls ++ L, c0 + mc, s0 + ms⟩,
      ⟨X.admits, X.cas, X.clock, X.frames, X.room, X.hears, X.method, X.code, (X.here.setHeapUsed s₂.heap s₂.slotsUsed).setVm hW'.alike, X.tail, State.WarmedH.trans X.warmed hW', X.limits, X.bytes, X.same.trans (hsame.setVm s.vm)⟩,
      ⟨g, mk, s₂, L, rfl, rfl, hqc, rfl, hL, rfl, rfl⟩, ?_⟩
    show Steps p.tables e below _ ((({ U with heap := s₂.heap, slotsUsed := s₂.slotsUsed } : State).setVm s₂.vm).setTop { g with pc := g.pc + len₂, stack := v.toList ++ g.stack })
    rw [← hs₂]
    exact hsteps
  · obtain ⟨e2, q2, q3, q4, q5, q6⟩ := id hsm
    have e3 : s₂ = ({ (U.calling g mk a).setFrames s₂.frames with heap := s₂.heap, slotsUsed := s₂.slotsUsed } : State).setVm s₂.vm := by
      have : s₂ = ({ s₂ with vm := (U.calling g mk a).vm } : State).setVm s₂.vm := rfl
      rw [e2] at this
      exact this
    have hf₂ : s₂.frames = .throwing q :: .java g :: U.frames.tail := hend
    have hW' : U.WarmedH s₂.vm := hW₂
    have hs₂ : s₂ = ((({ U with heap := s₂.heap, slotsUsed := s₂.slotsUsed } : State).setVm s₂.vm).setTop g).pushFrame (.throwing q) := by
      refine e3.trans ?_
      rw [hf₂, State.calling_eq h.top, State.setFrames_setFrames, State.pushFrame, State.frames_setTop _ hr', State.setTop_of_frames _ hr', State.setFrames_setFrames, hr]
      rfl
    have hsame : U.sameButNew ({ U with heap := s₂.heap, slotsUsed := s₂.slotsUsed } : State) L mc ms := by
      refine ⟨?_, q2, q3, q4, q5, q6⟩
      obtain ⟨t, ht, -⟩ := State.frames_cons hr
      show ({ U with heap := s₂.heap, slotsUsed := s₂.slotsUsed } : State) = { U.setFrames U.frames with heap := s₂.heap, slotsUsed := s₂.slotsUsed }
      rw [State.setFrames_self ht]
    subst hg
    refine Or.inr ⟨q, ⟨(({ U with heap := s₂.heap, slotsUsed := s₂.slotsUsed } : State).setVm s₂.vm), Ls ++ L, c0 + mc, s0 + ms⟩,
      ⟨X.admits, X.cas, X.clock, X.frames, X.room, X.hears, X.method, X.code, (X.here.setHeapUsed s₂.heap s₂.slotsUsed).setVm hW'.alike, X.tail, State.WarmedH.trans X.warmed hW', X.limits, X.bytes, X.same.trans (hsame.setVm s.vm)⟩,
      ⟨g, mk, s₂, L, E, ce, rfl, rfl, hx, hce, hcv, hcl, rfl, hL, rfl, rfl⟩, ?_⟩
    show Steps p.tables e below _ (((({ U with heap := s₂.heap, slotsUsed := s₂.slotsUsed } : State).setVm s₂.vm).setTop g).pushFrame (.throwing q))
    rw [← hs₂]
    exact hsteps
end
variable {p : Program} {l : Launch} {e : Env} {R : Room} {s : State} {m : MethodId} {args : Array Value} {below : List Frame} {meth : Method} {c : Code} {T : State} {H : Heap} {locs : List Loc} {cells slots : Nat}
theorem vx_callVX (X : Stand p l e R s m args below meth c T locs cells slots) (hexec : p.tables.exec = Jvm.exec) {own C : String} {index : Nat} {y : MethodName} {bytes : ByteArray} {maxL : Nat} {ret : Option FieldType} {hh : List (Nat × Nat × Nat × Nat)}
    (hown : s.vm.findClass own = some m.cls) (hlink : (Cond.methodLink own index y).before args s = true) (hinst : (Cond.instanceMethod y).before args s = true) (hsel : (Cond.selects C y y).before args s = true)
    (hcode : (Cond.codeWith y bytes maxL ret hh).before args s = true) (hy : y.cls ≠ "java/lang/invoke/MethodHandle" ∧ y.cls ≠ "java/lang/invoke/VarHandle")
    {W9 : Nat} {Pre : Pt → Array Value → Prop} {Post : Pt → Array Value → Option Value → Pt → Prop} {PostX : Pt → Array Value → Addr → Pt → Prop} (hK : vx_Back l R p e below s args y 3 W9 Pre Post PostX)
    {b : Addr} {cellB : Cell} (hcell : T.heap[b]? = some cellB) (hobj : cellB.vm.isStatics = false) (hcls : s.vm.findClass C = some cellB.cls)
    {g : JFrame} (hg : g.method = m) (hsize : g.locals.size = c.maxLocals) {argsL rest : List Value} (hlen : ∀ sig, parseMethodDescriptor y.desc = some sig → argsL.length = sig.parameters.length)
    (hstack : g.stack = argsL.reverse ++ .ref b :: rest) (hW : 2 * g.monitorRoom + (rest.map fun v => v.category).sum ≤ W9) (hdg : decode c.code g.pc = .ok (.invokevirtual index, 3))
    (hpre : ∀ vm₁, s.WarmedH vm₁ → Pre ⟨T.setVm vm₁, locs, cells, slots⟩ (Value.ref b :: argsL).toArray) :
    (∃ (v : Option Value) (vm₁ : Vm) (B : Pt), s.WarmedH vm₁ ∧ Stand p l e R s m args below meth c B.U B.locs B.cells B.slots ∧ Post ⟨T.setVm vm₁, locs, cells, slots⟩ (Value.ref b :: argsL).toArray v B ∧
      ∀ target, Steps p.tables e below (B.U.setTop { g with pc := g.pc + 3, stack := v.toList ++ rest }) target → Steps p.tables e below (T.setTop g) target) ∨
    (∃ (q : Addr) (vm₁ : Vm) (B : Pt), s.WarmedH vm₁ ∧ Stand p l e R s m args below meth c B.U B.locs B.cells B.slots ∧ PostX ⟨T.setVm vm₁, locs, cells, slots⟩ (Value.ref b :: argsL).toArray q B ∧
      Steps p.tables e below (T.setTop g) ((B.U.setTop { g with stack := rest }).pushFrame (.throwing q))) := by
  obtain ⟨mk, methM, hnamed, hmethM, hstM, habM⟩ := Cond.instanceMethod_spec hinst
  obtain ⟨m8, methM', cM, hn8, hmethM', -, -, -, -, -, -, hsigM⟩ := Cond.codeWith_spec hcode
  cases Option.some.inj (hn8.symm.trans hnamed)
  cases hmethM.symm.trans hmethM'
  obtain ⟨c2, r2, m2, q1, q2, q3, q4, kP, hkP, hkPi⟩ := Cond.selects_spec hsel
  cases hcls.symm.trans q1
  cases (State.methodFound?_of_named hnamed hy).symm.trans q2
  cases hnamed.symm.trans q3
  have hselP : selectMethod e.platform s.vm cellB.cls mk = .method mk := by rw [Launch.admits_selectMethod X.admits]; exact q4
  obtain ⟨vm₁, X₁, hstep₁⟩ := X.invokevirtual hexec hown hlink hnamed hmethM hstM hkP hkPi hy (a := b) (cell := cellB) hcell
    (fun z h => by rw [h] at hobj; cases hobj) hselP hmethM habM hkP hkPi (g := g) hg (argsL := argsL) (rest := rest) (hlen _ hsigM) hstack hdg
  rcases hK m meth c ⟨T.setVm vm₁, locs, cells, slots⟩ { g with stack := rest } (.invokevirtual index) mk (Value.ref b :: argsL).toArray X₁ hg hsize hdg hW (X₁.named hnamed) (hpre vm₁ X₁.warmed) with ⟨v, B, X', hpost, hsteps⟩ | ⟨q, B, X', hpost, hsteps⟩
  · exact Or.inl ⟨v, vm₁, B, X₁.warmed, X', hpost, fun target h => hstep₁ _ fun acts => by rw [doInvoke_state]; exact hsteps.trans h⟩
  · exact Or.inr ⟨q, vm₁, B, X₁.warmed, X', hpost, hstep₁ _ fun acts => by rw [doInvoke_state]; exact hsteps⟩
theorem vx_callSX (X : Stand p l e R s m args below meth c T locs cells slots) (hexec : p.tables.exec = Jvm.exec) {own : String} {index : Nat} {y : MethodName} {bytes : ByteArray} {maxL : Nat} {ret : Option FieldType} {hh : List (Nat × Nat × Nat × Nat)}
    (hown : s.vm.findClass own = some m.cls) (hlink : (Cond.methodLink own index y).before args s = true) (hstat : (Cond.static y).before args s = true) (hinit : (Cond.initialized y.cls).before args s = true)
    (hcode : (Cond.codeWith y bytes maxL ret hh).before args s = true) (hy : y.cls ≠ "java/lang/invoke/MethodHandle" ∧ y.cls ≠ "java/lang/invoke/VarHandle")
    {W9 : Nat} {Pre : Pt → Array Value → Prop} {Post : Pt → Array Value → Option Value → Pt → Prop} {PostX : Pt → Array Value → Addr → Pt → Prop} (hK : vx_Back l R p e below s args y 3 W9 Pre Post PostX)
    {g : JFrame} (hg : g.method = m) (hsize : g.locals.size = c.maxLocals) {argsL rest : List Value} (hlen : ∀ sig, parseMethodDescriptor y.desc = some sig → argsL.length = sig.parameters.length)
    (hstack : g.stack = argsL.reverse ++ rest) (hW : 2 * g.monitorRoom + (rest.map fun v => v.category).sum ≤ W9) (hdg : decode c.code g.pc = .ok (.invokestatic index, 3))
    (hpre : ∀ vm₁, s.WarmedH vm₁ → Pre ⟨T.setVm vm₁, locs, cells, slots⟩ argsL.toArray) :
    (∃ (v : Option Value) (vm₁ : Vm) (B : Pt), s.WarmedH vm₁ ∧ Stand p l e R s m args below meth c B.U B.locs B.cells B.slots ∧ Post ⟨T.setVm vm₁, locs, cells, slots⟩ argsL.toArray v B ∧
      ∀ target, Steps p.tables e below (B.U.setTop { g with pc := g.pc + 3, stack := v.toList ++ rest }) target → Steps p.tables e below (T.setTop g) target) ∨
    (∃ (q : Addr) (vm₁ : Vm) (B : Pt), s.WarmedH vm₁ ∧ Stand p l e R s m args below meth c B.U B.locs B.cells B.slots ∧ PostX ⟨T.setVm vm₁, locs, cells, slots⟩ argsL.toArray q B ∧
      Steps p.tables e below (T.setTop g) ((B.U.setTop { g with stack := rest }).pushFrame (.throwing q))) := by
  obtain ⟨mk, methM, cM, hnamed, hmethM, -, -, -, -, -, -, hsigM⟩ := Cond.codeWith_spec hcode
  have hstatic : methM.isStatic = true := Cond.static_spec hnamed hmethM hstat
  obtain ⟨kP, hkP, -⟩ := className_of_methodNamed hnamed
  have hinitP : kP.init = .initialized := Cond.initialized_spec (findClass_of_methodNamed hnamed) hkP hinit
  obtain ⟨vm₁, X₁, hstep₁⟩ := X.invokestatic hexec hown hlink hnamed hmethM hstatic hkP hinitP hy (g := g) hg (argsL := argsL) (rest := rest) (hlen _ hsigM) hstack hdg
  rcases hK m meth c ⟨T.setVm vm₁, locs, cells, slots⟩ { g with stack := rest } (.invokestatic index) mk argsL.toArray X₁ hg hsize hdg hW (X₁.named hnamed) (hpre vm₁ X₁.warmed) with ⟨v, B, X', hpost, hsteps⟩ | ⟨q, B, X', hpost, hsteps⟩
  · exact Or.inl ⟨v, vm₁, B, X₁.warmed, X', hpost, fun target h => hstep₁ _ fun acts => by rw [doInvoke_state]; exact hsteps.trans h⟩
  · exact Or.inr ⟨q, vm₁, B, X₁.warmed, X', hpost, hstep₁ _ fun acts => by rw [doInvoke_state]; exact hsteps⟩
theorem vx_callVW (X : Stand p l e R s m args below meth c T locs cells slots) (hexec : p.tables.exec = Jvm.exec) {own C : String} {index : Nat} {y : MethodName} {bytes : ByteArray} {maxL : Nat} {ret : Option FieldType} {hh : List (Nat × Nat × Nat × Nat)}
    (hown : s.vm.findClass own = some m.cls) (hlink : (Cond.methodLink own index y).before args s = true) (hinst : (Cond.instanceMethod y).before args s = true) (hsel : (Cond.selects C y y).before args s = true)
    (hcode : (Cond.codeWith y bytes maxL ret hh).before args s = true) (hy : y.cls ≠ "java/lang/invoke/MethodHandle" ∧ y.cls ≠ "java/lang/invoke/VarHandle")
    {W9 : Nat} {Pre : Pt → Array Value → Prop} {Post : Pt → Array Value → Option Value → Pt → Prop} (hK : Back l R p e below s args y 3 W9 Pre Post)
    {b : Addr} {cellB : Cell} (hcell : T.heap[b]? = some cellB) (hobj : cellB.vm.isStatics = false) (hcls : s.vm.findClass C = some cellB.cls)
    {g : JFrame} (hg : g.method = m) (hsize : g.locals.size = c.maxLocals) {argsL rest : List Value} (hlen : ∀ sig, parseMethodDescriptor y.desc = some sig → argsL.length = sig.parameters.length)
    (hstack : g.stack = argsL.reverse ++ .ref b :: rest) (hW : 2 * g.monitorRoom + (rest.map fun v => v.category).sum ≤ W9) (hdg : decode c.code g.pc = .ok (.invokevirtual index, 3))
    (hpre : ∀ vm₁, s.WarmedH vm₁ → Pre ⟨T.setVm vm₁, locs, cells, slots⟩ (Value.ref b :: argsL).toArray) :
    ∃ (v : Option Value) (vm₁ : Vm) (B : Pt), s.WarmedH vm₁ ∧ Stand p l e R s m args below meth c B.U B.locs B.cells B.slots ∧ Post ⟨T.setVm vm₁, locs, cells, slots⟩ (Value.ref b :: argsL).toArray v B ∧
      ∀ target, Steps p.tables e below (B.U.setTop { g with pc := g.pc + 3, stack := v.toList ++ rest }) target → Steps p.tables e below (T.setTop g) target := by
  obtain ⟨mk, methM, hnamed, hmethM, hstM, habM⟩ := Cond.instanceMethod_spec hinst
  obtain ⟨m8, methM', cM, hn8, hmethM', -, -, -, -, -, -, hsigM⟩ := Cond.codeWith_spec hcode
  cases Option.some.inj (hn8.symm.trans hnamed)
  cases hmethM.symm.trans hmethM'
  obtain ⟨c2, r2, m2, q1, q2, q3, q4, kP, hkP, hkPi⟩ := Cond.selects_spec hsel
  cases hcls.symm.trans q1
  cases (State.methodFound?_of_named hnamed hy).symm.trans q2
  cases hnamed.symm.trans q3
  have hselP : selectMethod e.platform s.vm cellB.cls mk = .method mk := by rw [Launch.admits_selectMethod X.admits]; exact q4
  obtain ⟨vm₁, X₁, hstep₁⟩ := X.invokevirtual hexec hown hlink hnamed hmethM hstM hkP hkPi hy (a := b) (cell := cellB) hcell
    (fun z h => by rw [h] at hobj; cases hobj) hselP hmethM habM hkP hkPi (g := g) hg (argsL := argsL) (rest := rest) (hlen _ hsigM) hstack hdg
  obtain ⟨v, B, X', hpost, hsteps⟩ := hK m meth c ⟨T.setVm vm₁, locs, cells, slots⟩ { g with stack := rest } (.invokevirtual index) mk (Value.ref b :: argsL).toArray X₁ hg hsize hdg hW (X₁.named hnamed) (hpre vm₁ X₁.warmed)
  exact ⟨v, vm₁, B, X₁.warmed, X', hpost, fun target h => hstep₁ _ fun acts => by rw [doInvoke_state]; exact hsteps.trans h⟩
abbrev vx_CVW (R : Room) (s : State) (args : Array Value) (own C : String) (index : Nat) (y : MethodName) (bytes : ByteArray) (maxL : Nat) (ret : Option FieldType) (hh : List (Nat × Nat × Nat × Nat)) (ws : List Cond) (rm : Room) (mc ms n : Nat) : Prop :=
  (rm.cells = mc ∧ rm.slots = ms ∧ rm.frames + 1 ≤ R.frames ∧ 8 + (maxL + 11) + rm.locals ≤ R.locals ∧ (∀ w ∈ ws, ∀ (a' : Array Value) (U : State), s.WarmedH U.vm → w.before a' U = true) ∧ Cond.codeWith y bytes maxL ret hh ∈ ws) ∧
  (Cond.codeWith y bytes maxL ret hh).before args s = true ∧ (Cond.initialized y.cls).before args s = true ∧ (y.cls ≠ "java/lang/invoke/MethodHandle" ∧ y.cls ≠ "java/lang/invoke/VarHandle") ∧
  (∀ sig, parseMethodDescriptor y.desc = some sig → n = sig.parameters.length) ∧ (Cond.methodLink own index y).before args s = true ∧ (Cond.instanceMethod y).before args s = true ∧ (Cond.selects C y y).before args s = true
theorem vx_cwVW {own C : String} {index maxL mc ms : Nat} {y : MethodName} {bytes : ByteArray} {ret : Option FieldType} {hh : List (Nat × Nat × Nat × Nat)} {Ts ws ws' : List Cond} {rm : Room} (n : Nat) (ht : ∀ w ∈ Ts, w.before args s = true) (hT : GoodIn Ts (wsV own index C y ws)) (hw : ws = Cond.codeWith y bytes maxL ret hh :: ws') (hrc : rm.cells = mc) (hrs : rm.slots = ms)
    (hd : y.cls = C ∧ y.cls ≠ "java/lang/invoke/MethodHandle" ∧ y.cls ≠ "java/lang/invoke/VarHandle" ∧ (parseMethodDescriptor y.desc).map (fun d => d.parameters.length) = some n) (hR : rm.frames + 1 ≤ R.frames ∧ 8 + (maxL + 11) + rm.locals ≤ R.locals) :
    vx_CVW R s args own C index y bytes maxL ret hh ws rm mc ms n := by
  obtain ⟨hC, hd⟩ := hd
  subst hC
  have ok : ∀ w ∈ wsV own index y.cls y ws, w.before args s = true := fun w h => ht w (hT w h).1
  have hG : GoodIn Ts ws := fun w h => hT w (by unfold wsV; exact List.mem_append_right _ h)
  have hc : Cond.codeWith y bytes maxL ret hh ∈ ws := by rw [hw]; exact List.mem_cons_self
  refine ⟨⟨hrc, hrs, hR.1, hR.2, pay_in ht hG, hc⟩, ht _ (hG _ hc).1, ok _ (by simp [wsV]), ⟨hd.1, hd.2.1⟩, fun sig h => ?_, ok _ (by simp [wsV]), ok _ (by simp [wsV]), ok _ (by simp [wsV])⟩
  have h2 := hd.2.2
  rw [h] at h2
  exact (Option.some.inj h2).symm
theorem vx_runVW {y : MethodName} {bytes cc : ByteArray} {maxL nL mc ms n index : Nat} {ret : Option FieldType} {hh : List (Nat × Nat × Nat × Nat)} {ws : List Cond} {rm : Room} {Pc : Array Value → State → Prop} {Qc : Array Value → State → Outcome → State → Prop} {free : Addr → Prop} {Ts : List Cond} {own C : String} {b : Addr} {As rest : List Value} {g : JFrame}
    (S : CallFix p m c cc nL s args Ts own) (hM : Met l y ws rm Pc Qc mc ms free) (cw : vx_CVW R s args own C index y bytes maxL ret hh ws rm mc ms n) (hp : PreV s H C b Pc As)
    (hg : g.method = m) (hn : As.length = n) (hsize : g.locals.size = nL) (hstack : g.stack = As.reverse ++ .ref b :: rest) (hW : 2 * g.monitorRoom + (rest.map fun v => v.category).sum ≤ 8) (hdg : decode cc g.pc = .ok (.invokevirtual index, 3)) (hf : cells + mc ≤ R.cells ∧ slots + ms ≤ R.slots) :
    va_Run p l e R s m args below meth c H locs cells slots mc ms g rest (Qc (Value.ref b :: As).toArray) free := by
  obtain ⟨⟨hrc, hrs, hfr, hlo, hws, hcw⟩, hcode, hini, hy, hlen, hl, hin, hse⟩ := cw
  have hK : Back l R p e below s args y 3 8 (PreOf R mc ms Pc) (PostOf Qc mc ms free) := va_backW (hh := hh) (bytes := bytes) (maxL := maxL) (ret := ret) hM hp.1 hrc hrs hfr hlo hws hcw (fun a' U hW => word_at hW (Or.inl (by first | rfl | simp [Cond.onTables, Cond.keeps, Cond.steady])) hini)
  obtain ⟨hx, hb, hml, ho, -⟩ := S
  obtain ⟨-, ⟨cellB, hcB, hoB, hclB⟩, hPc⟩ := hp
  intro T hT X
  obtain ⟨v, vm₁, ⟨U', l2, c2, s2⟩, hW₁, X', ⟨g', mk, t, L, e1, e2, hq, h1, hL, h2, h3⟩, st⟩ := vx_callVW X hx (C := C) (hh := hh) (bytes := bytes) (maxL := maxL) (ret := ret) ho hl hin hse hcode hy hK (by rw [hT]; exact hcB) hoB hclB hg (hsize.trans hml.symm) (argsL := As) (rest := rest) (fun sig h => hn.trans (hlen sig h)) hstack hW (by rw [hb]; exact hdg)
    (fun vm₁ hW₁ => ⟨hf.1, hf.2, hPc (T.setVm vm₁) hT hW₁⟩)
  dsimp only [Pt.U, Pt.locs, Pt.cells, Pt.slots] at X' e1 e2 h1 h2 h3 st
  subst h1; subst h2; subst h3
  exact ⟨v, (T.setVm vm₁).calling g' mk (Value.ref b :: As).toArray, t, U', L, hT, X', hL, e1, e2, hq, st⟩
section
variable {y : MethodName} {bytes cc : ByteArray} {maxL nL mc ms n index : Nat} {ret : Option FieldType} {ws : List Cond} {rm : Room} {Pc : Array Value → State → Prop} {Qc : Array Value → State → Outcome → State → Prop} {XC : String → State → State → Prop} {free : Addr → Prop} {Ts : List Cond} {own C : String} {b : Addr} {As rest : List Value} {g : JFrame}
theorem vx_runVX {hh : List (Nat × Nat × Nat × Nat)} (S : CallFix p m c cc nL s args Ts own) (hM : vx_Met l y ws rm Pc Qc XC mc ms free) (cw : vx_CVW R s args own C index y bytes maxL ret hh ws rm mc ms n) (hp : PreV s H C b Pc As)
    (hg : g.method = m) (hn : As.length = n) (hsize : g.locals.size = nL) (hstack : g.stack = As.reverse ++ .ref b :: rest) (hW : 2 * g.monitorRoom + (rest.map fun v => v.category).sum ≤ 8) (hdg : decode cc g.pc = .ok (.invokevirtual index, 3)) (hf : cells + mc ≤ R.cells ∧ slots + ms ≤ R.slots) :
    vx_Run p l e R s m args below meth c H locs cells slots mc ms g rest (Qc (Value.ref b :: As).toArray) XC free := by
  obtain ⟨⟨hrc, hrs, hfr, hlo, hws, hcw⟩, hcode, hini, hy, hlen, hl, hin, hse⟩ := cw
  have hK : vx_Back l R p e below s args y 3 8 (PreOf R mc ms Pc) (PostOf Qc mc ms free) (vx_Post XC mc ms free) := vx_backW (hh := hh) (bytes := bytes) (maxL := maxL) (ret := ret) hM hp.1 hrc hrs hfr hlo hws hcw (fun a' U hW => word_at hW (Or.inl (by first | rfl | simp [Cond.onTables, Cond.keeps, Cond.steady])) hini)
  obtain ⟨hx, hb, hml, ho, -⟩ := S
  obtain ⟨-, ⟨cellB, hcB, hoB, hclB⟩, hPc⟩ := hp
  intro T hT X
  rcases vx_callVX X hx (C := C) (hh := hh) (bytes := bytes) (maxL := maxL) (ret := ret) ho hl hin hse hcode hy hK (by rw [hT]; exact hcB) hoB hclB hg (hsize.trans hml.symm) (argsL := As) (rest := rest) (fun sig h => hn.trans (hlen sig h)) hstack hW (by rw [hb]; exact hdg)
    (fun vm₁ hW₁ => ⟨hf.1, hf.2, hPc (T.setVm vm₁) hT hW₁⟩) with ⟨v, vm₁, ⟨U', l2, c2, s2⟩, hW₁, X', ⟨g', mk, t, L, e1, e2, hq, h1, hL, h2, h3⟩, st⟩ | ⟨q, vm₁, ⟨U', l2, c2, s2⟩, hW₁, X', ⟨g', mk, t, L, E, ce, e1, e2, hq, hce, hcv, hcl, h1, hL, h2, h3⟩, st⟩
  · dsimp only [Pt.U, Pt.locs, Pt.cells, Pt.slots] at X' e1 e2 h1 h2 h3 st
    subst h1; subst h2; subst h3
    exact Or.inl ⟨v, (T.setVm vm₁).calling g' mk (Value.ref b :: As).toArray, t, U', L, hT, X', hL, e1, e2, hq, st⟩
  · dsimp only [Pt.U, Pt.locs, Pt.cells, Pt.slots] at X' e1 e2 h1 h2 h3 st hcl
    subst h1; subst h2; subst h3
    exact Or.inr ⟨q, (T.setVm vm₁).calling g' mk (Value.ref b :: As).toArray, t, U', L, E, ce, hT, X', hL, e1, e2, hq, hce, hcv, vx_cls hW₁ hcl, st⟩
theorem vx_runSX {hh : List (Nat × Nat × Nat × Nat)} (S : CallFix p m c cc nL s args Ts own) (hM : vx_Met l y ws rm Pc Qc XC mc ms free) (cw : vx_CSW R s args own index y bytes maxL ret hh ws rm mc ms n) (hp : PreS s H Pc As)
    (hg : g.method = m) (hn : As.length = n) (hsize : g.locals.size = nL) (hstack : g.stack = As.reverse ++ rest) (hW : 2 * g.monitorRoom + (rest.map fun v => v.category).sum ≤ 8) (hdg : decode cc g.pc = .ok (.invokestatic index, 3)) (hf : cells + mc ≤ R.cells ∧ slots + ms ≤ R.slots) :
    vx_Run p l e R s m args below meth c H locs cells slots mc ms g rest (Qc As.toArray) XC free := by
  obtain ⟨⟨hrc, hrs, hfr, hlo, hws, hcw⟩, hcode, hini, hy, hlen, hl, hstt⟩ := cw
  have hK : vx_Back l R p e below s args y 3 8 (PreOf R mc ms Pc) (PostOf Qc mc ms free) (vx_Post XC mc ms free) := vx_backW (hh := hh) (bytes := bytes) (maxL := maxL) (ret := ret) hM hp.1 hrc hrs hfr hlo hws hcw (fun a' U hW => word_at hW (Or.inl (by first | rfl | simp [Cond.onTables, Cond.keeps, Cond.steady])) hini)
  obtain ⟨hx, hb, hml, ho, -⟩ := S
  intro T hT X
  rcases vx_callSX X hx (hh := hh) (bytes := bytes) (maxL := maxL) (ret := ret) ho hl hstt hini hcode hy hK hg (hsize.trans hml.symm) (argsL := As) (rest := rest) (fun sig h => hn.trans (hlen sig h)) hstack hW (by rw [hb]; exact hdg)
    (fun vm₁ hW₁ => ⟨hf.1, hf.2, hp.2 (T.setVm vm₁) hT hW₁⟩) with ⟨v, vm₁, ⟨U', l2, c2, s2⟩, hW₁, X', ⟨g', mk, t, L, e1, e2, hq, h1, hL, h2, h3⟩, st⟩ | ⟨q, vm₁, ⟨U', l2, c2, s2⟩, hW₁, X', ⟨g', mk, t, L, E, ce, e1, e2, hq, hce, hcv, hcl, h1, hL, h2, h3⟩, st⟩
  · dsimp only [Pt.U, Pt.locs, Pt.cells, Pt.slots] at X' e1 e2 h1 h2 h3 st
    subst h1; subst h2; subst h3
    exact Or.inl ⟨v, (T.setVm vm₁).calling g' mk As.toArray, t, U', L, hT, X', hL, e1, e2, hq, st⟩
  · dsimp only [Pt.U, Pt.locs, Pt.cells, Pt.slots] at X' e1 e2 h1 h2 h3 st hcl
    subst h1; subst h2; subst h3
    exact Or.inr ⟨q, (T.setVm vm₁).calling g' mk As.toArray, t, U', L, E, ce, hT, X', hL, e1, e2, hq, hce, hcv, vx_cls hW₁ hcl, st⟩
end
end VXH
theorem vx_ofWH {l : Launch} {y : MethodName} {ws ws' : List Cond} {rm : Room} {Pc : Array Value → State → Prop} {Qc : Array Value → State → Outcome → State → Prop} {XC : String → State → State → Prop} {mc ms : Nat} {free : Addr → Prop} {cc : ByteArray} {maxL : Nat} {ret : Option FieldType} {hh : List (Nat × Nat × Nat × Nat)}
    (hy : plainName y.cls = true) (hw : ws = Cond.codeWith y cc maxL ret hh :: ws')
    (body : ∀ p e s m args below meth c s₁, BodyLoose p l y (headSpec ws rm) cc maxL ret e s m args below meth c s₁ → c.maxLocals = maxL → Pc args s →
      W p l e (headSpec ws rm).room s m args below meth c s.heap [] 0 0 (vx_MQ below Qc XC args s mc ms free) (entryFrame m args maxL)) : vx_Met l y ws rm Pc Qc XC mc ms free := by
  refine MetFree.of_bodyS (code := cc) (maxLocals := maxL) (ret := ret) hy ?_ ?_
  · intro args s m h hn
    obtain ⟨m9, meth, c, hn9, h1, h2, h3, h4, -, h5, h6, -⟩ := Cond.codeWith_spec (atoms_spec (ws := ws) h _ (by rw [hw]; exact List.mem_cons_self))
    cases hn.symm.trans hn9
    exact ⟨meth, c, h1, h2, h3, h4, h5, h6⟩
  · intro p e s m args below meth c s₁ B hml hP _
    have hh0 : s₁.heap = s.heap := by rw [B.state]; rfl
    obtain ⟨t, a1, o, b1, b2, b3⟩ := body p e s m args below meth c s₁ B hml hP s₁ hh0 (Stand.of_body B)
    exact ⟨t, o, a1, b1, b2, b3⟩
/-! ===== END ===== -/
end
section

/-! THE CLAIM OUT OF ONE WALK OF THE LAW'S BODY. Your part is whole_start (and what it stands on); all else here is the same for every law, but numbers. -/
def R_law : String := "ShapedRowsLaw"
def lw_P (b : Addr) (xs : List Int32) (args : Array Value) (s : State) : Prop := args = #[.ref b] ∧ s.IntsAt b xs ∧ xs.length ≤ 2560 ∧ (Jvm.Cond.and given_1 narrow_1).before args s = true
/-- what a walk over the start with the record d0 says of its end, said of the start itself -/
theorem lw_closed {s t : State} {o : Outcome} {d0 : Drawn} {L : List Loc} {k n : Nat} (hd0 : s.drawn.sameBut d0 lw_cs) (hv : ∃ v, o = .returned v) (hW : (s.setDrawn d0).WarmedH t.vm) (hs : (s.setDrawn d0).sameButNew ({ t with vm := s.vm } : State) L k n) : State.butDraws s t lw_cs (fun t1 => Framed s o t1 L k n) := by
  have h2 : t.drawn = d0 := congrArg State.drawn hs.1
  refine ⟨⟨hv, hW, State.sameButNew.setDrawn hs s.drawn⟩, ?_, by decide⟩
  rw [h2]
  exact hd0
def lw_Q (_ : Array Value) (s : State) (o : Outcome) (t : State) : Prop := o = .returned (some (.int 1)) ∧ State.butDraws s t lw_cs (fun t1 => Framed s o t1 [] 601024 7293033)
def lw_Z (below : List Frame) (a : Array Value) (s : State) : State → Prop := fun t => ∃ o, t.status = .running ∧ Ended t below o ∧ lw_Q a s o t
/-- the law's own end, with 1 on the stack, nothing written that was there before, its room as the claim has it; d0: the record of draws at this point (at the entry s.drawn: begin with 'refine W.base ?_' and 'have hd0 := Drawn.sameBut.refl s.drawn lw_cs') -/
theorem lw_ret {p : Program} {l : Launch} {e : Env} {s : State} {m : MethodId} {below : List Frame} {meth : Method} {c : Code} {b : Nat} {d0 : Drawn} (hd0 : s.drawn.sameBut d0 lw_cs) (hx : p.tables.exec = Jvm.exec) (hb : c.code = code) (hr : meth.sig.returnType = ret) (hlocks : meth.locks = false) {pc : Nat} {H : Heap} {ls : Array Slot} (hdg : decode code pc = .ok (.ireturn, 1)) : W p l e room_1 (s.setDrawn d0) m #[Value.ref b] below meth c H [] 601024 7293033 (lw_Z below #[Value.ref b] s) (F0 m pc ls [.int 1]) := by
  intro T hT X
  obtain ⟨fs, hret, hrun, hended, hW, hframe⟩ := X.leave (v := some (.int 1)) (hlocks := hlocks) (fun h => by rw [hr] at h; cases h)
  have hmeth' : T.vm.method? m = some meth := X.method'
  refine ⟨T.setFrames fs, ?_, .returned (some (.int 1)), hrun, hended, rfl, lw_closed hd0 ⟨_, rfl⟩ hW hframe⟩
  jvm_step X.here [X.here.top, hx, hb, hdg, hmeth', hr, ret, narrow_b1]
  (try refine ⟨rfl, ?_⟩); (try refine ⟨rfl, ?_⟩)
  first | (intro acts; rw [hret _ acts rfl rfl rfl]) | rw [hret _ _ rfl rfl rfl]
  exact Steps.refl _
/-- what holds at the law's entry: the machine, the code, the tables' words (any of lw_tbl by 'hts w (by decide +kernel)'), the script of L ints xs at the cell b, what the Statement gives of the start (any of its parts by flat_of_before) -/
def lw_At (p : Program) (s : State) (m : MethodId) (meth : Method) (c : Code) (b L : Nat) (xs : Nat → Int32) : Prop :=
  p.tables.exec = Jvm.exec ∧ c.code = code ∧ meth.sig.returnType = ret ∧ c.maxLocals = 9 ∧ s.vm.findClass R_law = some m.cls ∧ (∀ w ∈ lw_tbl, w.before #[Value.ref b] s = true) ∧ va_X b L xs s s.heap ∧ b < s.heap.size ∧ meth.locks = false ∧ (Jvm.Cond.and given_1 narrow_1).before #[Value.ref b] s = true
def RX0 : String := "ShapedRows$History"
def TX0 : u_T := fun k => match k with
  | 0 => ("ShapedRows$History", "slots", "[LShapedRows$State;", true)
  | _ => ("ShapedRows$History", "size", "I", false)
def tyX0 : Nat → FieldType := fun k => match k with
  | 0 => .array (.object "ShapedRows$State")
  | _ => .int
abbrev wsX00 : List Cond := u_ws RX0 TX0 2
theorem nmX0 : ∀ a, a < 2 → ∀ b, b < 2 → a ≠ b → (TX0 a).2.1 ≠ (TX0 b).2.1 := by decide +kernel
theorem tyX0_ok : ∀ k, k < 2 → parseFieldDescriptor (TX0 k).2.2.1 = some (tyX0 k) := by decide +kernel
abbrev cX0_init : ByteArray := prog_2_method_1_code
def yX0_init : MethodName := ⟨RX0, "<init>", "()V"⟩
abbrev cX0_size : ByteArray := prog_2_method_2_code
def yX0_size : MethodName := ⟨RX0, "size", "()I"⟩
abbrev cX0_save : ByteArray := prog_2_method_3_code
def yX0_save : MethodName := ⟨RX0, "save", "(LShapedRows$State;)V"⟩
abbrev cX0_restore : ByteArray := prog_2_method_4_code
def yX0_restore : MethodName := ⟨RX0, "restore", "(LShapedRows$State;)I"⟩
abbrev cX0_slotAt : ByteArray := prog_2_method_5_code
def yX0_slotAt : MethodName := ⟨RX0, "slotAt", "(I)LShapedRows$State;"⟩
abbrev cX0_dropOldest : ByteArray := prog_2_method_6_code
def yX0_dropOldest : MethodName := ⟨RX0, "dropOldest", "()V"⟩
def RX1 : String := "ShapedRows$Rows"
def TX1 : u_T := fun k => match k with
  | 0 => ("ShapedRows$Rows", "size", "I", false)
  | 1 => ("ShapedRows$Rows", "cursor", "I", false)
  | 2 => ("ShapedRows$Rows", "rewritten", "I", false)
  | 3 => ("ShapedRows$Rows", "writes", "I", false)
  | 4 => ("ShapedRows$Rows", "shapes", "[I", true)
  | 5 => ("ShapedRows$Rows", "rewrites", "[I", true)
  | _ => ("ShapedRows$Rows", "values", "[I", true)
def tyX1 : Nat → FieldType := fun k => match k with
  | 0 => .int
  | 1 => .int
  | 2 => .int
  | 3 => .int
  | 4 => .array .int
  | 5 => .array .int
  | _ => .array .int
abbrev wsX10 : List Cond := u_ws RX1 TX1 7
theorem nmX1 : ∀ a, a < 7 → ∀ b, b < 7 → a ≠ b → (TX1 a).2.1 ≠ (TX1 b).2.1 := by decide +kernel
theorem tyX1_ok : ∀ k, k < 7 → parseFieldDescriptor (TX1 k).2.2.1 = some (tyX1 k) := by decide +kernel
abbrev cX1_init : ByteArray := prog_3_method_1_code
def yX1_init : MethodName := ⟨RX1, "<init>", "()V"⟩
abbrev cX1_size : ByteArray := prog_3_method_2_code
def yX1_size : MethodName := ⟨RX1, "size", "()I"⟩
abbrev cX1_cursor : ByteArray := prog_3_method_3_code
def yX1_cursor : MethodName := ⟨RX1, "cursor", "()I"⟩
abbrev cX1_rewritten : ByteArray := prog_3_method_4_code
def yX1_rewritten : MethodName := ⟨RX1, "rewritten", "()I"⟩
abbrev cX1_writes : ByteArray := prog_3_method_5_code
def yX1_writes : MethodName := ⟨RX1, "writes", "()I"⟩
abbrev cX1_isThere : ByteArray := prog_3_method_6_code
def yX1_isThere : MethodName := ⟨RX1, "isThere", "(I)Z"⟩
abbrev cX1_isFull : ByteArray := prog_3_method_7_code
def yX1_isFull : MethodName := ⟨RX1, "isFull", "()Z"⟩
abbrev cX1_shapeOf : ByteArray := prog_3_method_8_code
def yX1_shapeOf : MethodName := ⟨RX1, "shapeOf", "(I)I"⟩
abbrev cX1_rewritesOf : ByteArray := prog_3_method_9_code
def yX1_rewritesOf : MethodName := ⟨RX1, "rewritesOf", "(I)I"⟩
abbrev cX1_value : ByteArray := prog_3_method_10_code
def yX1_value : MethodName := ⟨RX1, "value", "(II)I"⟩
abbrev cX1_addRow : ByteArray := prog_3_method_11_code
def yX1_addRow : MethodName := ⟨RX1, "addRow", "(I)I"⟩
abbrev cX1_takeOut : ByteArray := prog_3_method_12_code
def yX1_takeOut : MethodName := ⟨RX1, "takeOut", "(I)I"⟩
abbrev cX1_overwrite : ByteArray := prog_3_method_13_code
def yX1_overwrite : MethodName := ⟨RX1, "overwrite", "(III)V"⟩
abbrev cX1_rewrite : ByteArray := prog_3_method_14_code
def yX1_rewrite : MethodName := ⟨RX1, "rewrite", "(II[I)V"⟩
abbrev cX1_nextRow : ByteArray := prog_3_method_15_code
def yX1_nextRow : MethodName := ⟨RX1, "nextRow", "()I"⟩
abbrev cX1_setCursor : ByteArray := prog_3_method_16_code
def yX1_setCursor : MethodName := ⟨RX1, "setCursor", "(I)V"⟩
abbrev cX1_copyValues : ByteArray := prog_3_method_17_code
def yX1_copyValues : MethodName := ⟨RX1, "copyValues", "(I[I)V"⟩
abbrev cX1_takeFrom : ByteArray := prog_3_method_18_code
def yX1_takeFrom : MethodName := ⟨RX1, "takeFrom", "(LShapedRows$Rows;)V"⟩
abbrev cX1_moveDown : ByteArray := prog_3_method_19_code
def yX1_moveDown : MethodName := ⟨RX1, "moveDown", "(I)V"⟩
def RX2 : String := "ShapedRows$Shapes"
def TX2 : u_T := fun k => match k with
  | 0 => ("ShapedRows$Shapes", "size", "I", false)
  | 1 => ("ShapedRows$Shapes", "mark", "I", false)
  | 2 => ("ShapedRows$Shapes", "changes", "[I", true)
  | 3 => ("ShapedRows$Shapes", "numbers", "[I", true)
  | 4 => ("ShapedRows$Shapes", "sources", "[I", true)
  | 5 => ("ShapedRows$Shapes", "addends", "[I", true)
  | 6 => ("ShapedRows$Shapes", "widths", "[I", true)
  | 7 => ("ShapedRows$Shapes", "columns", "[I", true)
  | _ => ("ShapedRows$Shapes", "letters", "[I", true)
def tyX2 : Nat → FieldType := fun k => match k with
  | 0 => .int
  | 1 => .int
  | 2 => .array .int
  | 3 => .array .int
  | 4 => .array .int
  | 5 => .array .int
  | 6 => .array .int
  | 7 => .array .int
  | _ => .array .int
abbrev wsX20 : List Cond := u_ws RX2 TX2 9
theorem nmX2 : ∀ a, a < 9 → ∀ b, b < 9 → a ≠ b → (TX2 a).2.1 ≠ (TX2 b).2.1 := by decide +kernel
theorem tyX2_ok : ∀ k, k < 9 → parseFieldDescriptor (TX2 k).2.2.1 = some (tyX2 k) := by decide +kernel
abbrev cX2_init : ByteArray := prog_4_method_1_code
def yX2_init : MethodName := ⟨RX2, "<init>", "()V"⟩
abbrev cX2_size : ByteArray := prog_4_method_2_code
def yX2_size : MethodName := ⟨RX2, "size", "()I"⟩
abbrev cX2_mark : ByteArray := prog_4_method_3_code
def yX2_mark : MethodName := ⟨RX2, "mark", "()I"⟩
abbrev cX2_newest : ByteArray := prog_4_method_4_code
def yX2_newest : MethodName := ⟨RX2, "newest", "()I"⟩
abbrev cX2_isThere : ByteArray := prog_4_method_5_code
def yX2_isThere : MethodName := ⟨RX2, "isThere", "(I)Z"⟩
abbrev cX2_isRetired : ByteArray := prog_4_method_6_code
def yX2_isRetired : MethodName := ⟨RX2, "isRetired", "(I)Z"⟩
abbrev cX2_isUsable : ByteArray := prog_4_method_7_code
def yX2_isUsable : MethodName := ⟨RX2, "isUsable", "(I)Z"⟩
abbrev cX2_width : ByteArray := prog_4_method_8_code
def yX2_width : MethodName := ⟨RX2, "width", "(I)I"⟩
abbrev cX2_changeOf : ByteArray := prog_4_method_9_code
def yX2_changeOf : MethodName := ⟨RX2, "changeOf", "(I)I"⟩
abbrev cX2_columnAt : ByteArray := prog_4_method_10_code
def yX2_columnAt : MethodName := ⟨RX2, "columnAt", "(II)I"⟩
abbrev cX2_columnOfLetter : ByteArray := prog_4_method_11_code
def yX2_columnOfLetter : MethodName := ⟨RX2, "columnOfLetter", "(II)I"⟩
abbrev cX2_hasColumn : ByteArray := prog_4_method_12_code
def yX2_hasColumn : MethodName := ⟨RX2, "hasColumn", "(II)Z"⟩
abbrev cX2_letterMask : ByteArray := prog_4_method_13_code
def yX2_letterMask : MethodName := ⟨RX2, "letterMask", "(I)I"⟩
abbrev cX2_columnProperty : ByteArray := prog_4_method_14_code
def yX2_columnProperty : MethodName := ⟨RX2, "columnProperty", "(III)I"⟩
abbrev cX2_canAdd : ByteArray := prog_4_method_15_code
def yX2_canAdd : MethodName := ⟨RX2, "canAdd", "(I)Z"⟩
abbrev cX2_canAddFrom : ByteArray := prog_4_method_16_code
def yX2_canAddFrom : MethodName := ⟨RX2, "canAddFrom", "(III)Z"⟩
abbrev cX2_canDrop : ByteArray := prog_4_method_17_code
def yX2_canDrop : MethodName := ⟨RX2, "canDrop", "(I)Z"⟩
abbrev cX2_canRename : ByteArray := prog_4_method_18_code
def yX2_canRename : MethodName := ⟨RX2, "canRename", "(II)Z"⟩
abbrev cX2_extendByNumber : ByteArray := prog_4_method_19_code
def yX2_extendByNumber : MethodName := ⟨RX2, "extendByNumber", "(II)I"⟩
abbrev cX2_extendFrom : ByteArray := prog_4_method_20_code
def yX2_extendFrom : MethodName := ⟨RX2, "extendFrom", "(III)I"⟩
abbrev cX2_leaveOut : ByteArray := prog_4_method_21_code
def yX2_leaveOut : MethodName := ⟨RX2, "leaveOut", "(II)I"⟩
abbrev cX2_exchangeLetter : ByteArray := prog_4_method_22_code
def yX2_exchangeLetter : MethodName := ⟨RX2, "exchangeLetter", "(II)I"⟩
abbrev cX2_setMark : ByteArray := prog_4_method_23_code
def yX2_setMark : MethodName := ⟨RX2, "setMark", "(I)I"⟩
abbrev cX2_carryForth : ByteArray := prog_4_method_24_code
def yX2_carryForth : MethodName := ⟨RX2, "carryForth", "([III)V"⟩
abbrev cX2_carryBack : ByteArray := prog_4_method_25_code
def yX2_carryBack : MethodName := ⟨RX2, "carryBack", "([III)V"⟩
abbrev cX2_takeFrom : ByteArray := prog_4_method_26_code
def yX2_takeFrom : MethodName := ⟨RX2, "takeFrom", "(LShapedRows$Shapes;)V"⟩
abbrev cX2_isFull : ByteArray := prog_4_method_27_code
def yX2_isFull : MethodName := ⟨RX2, "isFull", "()Z"⟩
abbrev cX2_newestHas : ByteArray := prog_4_method_28_code
def yX2_newestHas : MethodName := ⟨RX2, "newestHas", "(I)Z"⟩
abbrev cX2_placeOfLetter : ByteArray := prog_4_method_29_code
def yX2_placeOfLetter : MethodName := ⟨RX2, "placeOfLetter", "(II)I"⟩
abbrev cX2_placeOfColumn : ByteArray := prog_4_method_30_code
def yX2_placeOfColumn : MethodName := ⟨RX2, "placeOfColumn", "(II)I"⟩
abbrev cX2_letterAt : ByteArray := prog_4_method_31_code
def yX2_letterAt : MethodName := ⟨RX2, "letterAt", "(II)I"⟩
abbrev cX2_comeBy : ByteArray := prog_4_method_32_code
def yX2_comeBy : MethodName := ⟨RX2, "comeBy", "(I)I"⟩
abbrev cX2_addLast : ByteArray := prog_4_method_33_code
def yX2_addLast : MethodName := ⟨RX2, "addLast", "(II)V"⟩
abbrev cX2_closeGap : ByteArray := prog_4_method_34_code
def yX2_closeGap : MethodName := ⟨RX2, "closeGap", "(II)V"⟩
def RX3 : String := "ShapedRows$State"
def TX3 : u_T := fun k => match k with
  | 0 => ("ShapedRows$State", "shapes", "LShapedRows$Shapes;", true)
  | 1 => ("ShapedRows$State", "rows", "LShapedRows$Rows;", true)
  | 2 => ("ShapedRows$State", "held", "[I", true)
  | _ => ("ShapedRows$State", "carried", "[I", true)
def tyX3 : Nat → FieldType := fun k => match k with
  | 0 => .object "ShapedRows$Shapes"
  | 1 => .object "ShapedRows$Rows"
  | 2 => .array .int
  | _ => .array .int
abbrev wsX30 : List Cond := u_ws RX3 TX3 4
theorem nmX3 : ∀ a, a < 4 → ∀ b, b < 4 → a ≠ b → (TX3 a).2.1 ≠ (TX3 b).2.1 := by decide +kernel
theorem tyX3_ok : ∀ k, k < 4 → parseFieldDescriptor (TX3 k).2.2.1 = some (tyX3 k) := by decide +kernel
abbrev cX3_init : ByteArray := prog_5_method_1_code
def yX3_init : MethodName := ⟨RX3, "<init>", "()V"⟩
abbrev cX3_heldBy : ByteArray := prog_5_method_2_code
def yX3_heldBy : MethodName := ⟨RX3, "heldBy", "(I)I"⟩
abbrev cX3_letHold : ByteArray := prog_5_method_3_code
def yX3_letHold : MethodName := ⟨RX3, "letHold", "(II)I"⟩
abbrev cX3_valuesRead : ByteArray := prog_5_method_4_code
def yX3_valuesRead : MethodName := ⟨RX3, "valuesRead", "(II)[I"⟩
abbrev cX3_valueRead : ByteArray := prog_5_method_5_code
def yX3_valueRead : MethodName := ⟨RX3, "valueRead", "(III)I"⟩
abbrev cX3_refusal : ByteArray := prog_5_method_6_code
def yX3_refusal : MethodName := ⟨RX3, "refusal", "(III)I"⟩
abbrev cX3_writeValue : ByteArray := prog_5_method_7_code
def yX3_writeValue : MethodName := ⟨RX3, "writeValue", "(IIII)I"⟩
abbrev cX3_stepOn : ByteArray := prog_5_method_8_code
def yX3_stepOn : MethodName := ⟨RX3, "stepOn", "(I)I"⟩
abbrev cX3_stepsLeft : ByteArray := prog_5_method_9_code
def yX3_stepsLeft : MethodName := ⟨RX3, "stepsLeft", "()I"⟩
abbrev cX3_rowsBehind : ByteArray := prog_5_method_10_code
def yX3_rowsBehind : MethodName := ⟨RX3, "rowsBehind", "()I"⟩
abbrev cX3_oldestNeeded : ByteArray := prog_5_method_11_code
def yX3_oldestNeeded : MethodName := ⟨RX3, "oldestNeeded", "()I"⟩
abbrev cX3_valuesLost : ByteArray := prog_5_method_12_code
def yX3_valuesLost : MethodName := ⟨RX3, "valuesLost", "(II)I"⟩
abbrev cX3_rowsWith : ByteArray := prog_5_method_13_code
def yX3_rowsWith : MethodName := ⟨RX3, "rowsWith", "(III)I"⟩
abbrev cX3_shapeProperty : ByteArray := prog_5_method_14_code
def yX3_shapeProperty : MethodName := ⟨RX3, "shapeProperty", "(II)I"⟩
abbrev cX3_rowProperty : ByteArray := prog_5_method_15_code
def yX3_rowProperty : MethodName := ⟨RX3, "rowProperty", "(II)I"⟩
abbrev cX3_takeFrom : ByteArray := prog_5_method_16_code
def yX3_takeFrom : MethodName := ⟨RX3, "takeFrom", "(LShapedRows$State;)V"⟩
abbrev cX3_stepOnce : ByteArray := prog_5_method_17_code
def yX3_stepOnce : MethodName := ⟨RX3, "stepOnce", "()V"⟩
abbrev cX3_isBehind : ByteArray := prog_5_method_18_code
def yX3_isBehind : MethodName := ⟨RX3, "isBehind", "(I)Z"⟩
abbrev cX3_sumRead : ByteArray := prog_5_method_19_code
def yX3_sumRead : MethodName := ⟨RX3, "sumRead", "(II)I"⟩
abbrev cX3_rowsOfShape : ByteArray := prog_5_method_20_code
def yX3_rowsOfShape : MethodName := ⟨RX3, "rowsOfShape", "(I)I"⟩
abbrev cX3_readersOfShape : ByteArray := prog_5_method_21_code
def yX3_readersOfShape : MethodName := ⟨RX3, "readersOfShape", "(I)I"⟩
def RX4 : String := "ShapedRows$Text"
def TX4 : u_T := fun k => match k with
  | 0 => ("ShapedRows$Text", "codes", "[I", true)
  | _ => ("ShapedRows$Text", "length", "I", false)
def tyX4 : Nat → FieldType := fun k => match k with
  | 0 => .array .int
  | _ => .int
abbrev wsX40 : List Cond := u_ws RX4 TX4 2
theorem nmX4 : ∀ a, a < 2 → ∀ b, b < 2 → a ≠ b → (TX4 a).2.1 ≠ (TX4 b).2.1 := by decide +kernel
theorem tyX4_ok : ∀ k, k < 2 → parseFieldDescriptor (TX4 k).2.2.1 = some (tyX4 k) := by decide +kernel
abbrev cX4_init : ByteArray := prog_6_method_1_code
def yX4_init : MethodName := ⟨RX4, "<init>", "()V"⟩
abbrev cX4_length : ByteArray := prog_6_method_2_code
def yX4_length : MethodName := ⟨RX4, "length", "()I"⟩
abbrev cX4_isFull : ByteArray := prog_6_method_3_code
def yX4_isFull : MethodName := ⟨RX4, "isFull", "()Z"⟩
abbrev cX4_add : ByteArray := prog_6_method_4_code
def yX4_add : MethodName := ⟨RX4, "add", "(I)I"⟩
abbrev cX4_clear : ByteArray := prog_6_method_5_code
def yX4_clear : MethodName := ⟨RX4, "clear", "()I"⟩
abbrev cX4_code : ByteArray := prog_6_method_6_code
def yX4_code : MethodName := ⟨RX4, "code", "(I)I"⟩
abbrev cX4_letter : ByteArray := prog_6_method_7_code
def yX4_letter : MethodName := ⟨RX4, "letter", "(I)I"⟩
abbrev cX4_number : ByteArray := prog_6_method_8_code
def yX4_number : MethodName := ⟨RX4, "number", "(II)I"⟩
abbrev cX4_endsOrder : ByteArray := prog_6_method_9_code
def yX4_endsOrder : MethodName := ⟨RX4, "endsOrder", "(I)Z"⟩
abbrev cX4_errorPlace : ByteArray := prog_6_method_10_code
def yX4_errorPlace : MethodName := ⟨RX4, "errorPlace", "()I"⟩
abbrev cX4_isComplete : ByteArray := prog_6_method_11_code
def yX4_isComplete : MethodName := ⟨RX4, "isComplete", "()Z"⟩
abbrev cX4_mayEnd : ByteArray := prog_6_method_12_code
def yX4_mayEnd : MethodName := ⟨RX4, "mayEnd", "(I)Z"⟩
abbrev cX4_next : ByteArray := prog_6_method_13_code
def yX4_next : MethodName := ⟨RX4, "next", "(II)I"⟩
abbrev cX4_afterFirst : ByteArray := prog_6_method_14_code
def yX4_afterFirst : MethodName := ⟨RX4, "afterFirst", "(I)I"⟩
abbrev cX4_afterLetter : ByteArray := prog_6_method_15_code
def yX4_afterLetter : MethodName := ⟨RX4, "afterLetter", "(I)I"⟩
abbrev cX4_oneOf : ByteArray := prog_6_method_16_code
def yX4_oneOf : MethodName := ⟨RX4, "oneOf", "(CCII)I"⟩
def RX5 : String := "ShapedRows"
def TX5 : u_T := fun k => match k with
  | 0 => ("ShapedRows", "state", "LShapedRows$State;", true)
  | 1 => ("ShapedRows", "history", "LShapedRows$History;", true)
  | _ => ("ShapedRows", "text", "LShapedRows$Text;", true)
def tyX5 : Nat → FieldType := fun k => match k with
  | 0 => .object "ShapedRows$State"
  | 1 => .object "ShapedRows$History"
  | _ => .object "ShapedRows$Text"
abbrev wsX50 : List Cond := u_ws RX5 TX5 3
theorem nmX5 : ∀ a, a < 3 → ∀ b, b < 3 → a ≠ b → (TX5 a).2.1 ≠ (TX5 b).2.1 := by decide +kernel
theorem tyX5_ok : ∀ k, k < 3 → parseFieldDescriptor (TX5 k).2.2.1 = some (tyX5 k) := by decide +kernel
abbrev cX5_init : ByteArray := prog_1_method_1_code
def yX5_init : MethodName := ⟨RX5, "<init>", "()V"⟩
abbrev cX5_addNumber : ByteArray := prog_1_method_2_code
def yX5_addNumber : MethodName := ⟨RX5, "addNumber", "(II)I"⟩
abbrev cX5_addCopy : ByteArray := prog_1_method_3_code
def yX5_addCopy : MethodName := ⟨RX5, "addCopy", "(III)I"⟩
abbrev cX5_drop : ByteArray := prog_1_method_4_code
def yX5_drop : MethodName := ⟨RX5, "drop", "(II)I"⟩
abbrev cX5_rename : ByteArray := prog_1_method_5_code
def yX5_rename : MethodName := ⟨RX5, "rename", "(II)I"⟩
abbrev cX5_insert : ByteArray := prog_1_method_6_code
def yX5_insert : MethodName := ⟨RX5, "insert", "()I"⟩
abbrev cX5_insertBy : ByteArray := prog_1_method_7_code
def yX5_insertBy : MethodName := ⟨RX5, "insertBy", "(I)I"⟩
abbrev cX5_write : ByteArray := prog_1_method_8_code
def yX5_write : MethodName := ⟨RX5, "write", "(IIII)I"⟩
abbrev cX5_remove : ByteArray := prog_1_method_9_code
def yX5_remove : MethodName := ⟨RX5, "remove", "(I)I"⟩
abbrev cX5_goOn : ByteArray := prog_1_method_10_code
def yX5_goOn : MethodName := ⟨RX5, "goOn", "(I)I"⟩
abbrev cX5_hold : ByteArray := prog_1_method_11_code
def yX5_hold : MethodName := ⟨RX5, "hold", "(II)I"⟩
abbrev cX5_retire : ByteArray := prog_1_method_12_code
def yX5_retire : MethodName := ⟨RX5, "retire", "(I)I"⟩
abbrev cX5_append : ByteArray := prog_1_method_13_code
def yX5_append : MethodName := ⟨RX5, "append", "(I)I"⟩
abbrev cX5_clearBuffer : ByteArray := prog_1_method_14_code
def yX5_clearBuffer : MethodName := ⟨RX5, "clearBuffer", "()I"⟩
abbrev cX5_firstError : ByteArray := prog_1_method_15_code
def yX5_firstError : MethodName := ⟨RX5, "firstError", "()I"⟩
abbrev cX5_run : ByteArray := prog_1_method_16_code
def yX5_run : MethodName := ⟨RX5, "run", "()I"⟩
abbrev cX5_undo : ByteArray := prog_1_method_17_code
def yX5_undo : MethodName := ⟨RX5, "undo", "()I"⟩
abbrev cX5_read : ByteArray := prog_1_method_18_code
def yX5_read : MethodName := ⟨RX5, "read", "(III)I"⟩
abbrev cX5_readAs : ByteArray := prog_1_method_19_code
def yX5_readAs : MethodName := ⟨RX5, "readAs", "(III)I"⟩
abbrev cX5_column : ByteArray := prog_1_method_20_code
def yX5_column : MethodName := ⟨RX5, "column", "(III)I"⟩
abbrev cX5_shape : ByteArray := prog_1_method_21_code
def yX5_shape : MethodName := ⟨RX5, "shape", "(II)I"⟩
abbrev cX5_row : ByteArray := prog_1_method_22_code
def yX5_row : MethodName := ⟨RX5, "row", "(II)I"⟩
abbrev cX5_count : ByteArray := prog_1_method_23_code
def yX5_count : MethodName := ⟨RX5, "count", "(I)I"⟩
abbrev cX5_lost : ByteArray := prog_1_method_24_code
def yX5_lost : MethodName := ⟨RX5, "lost", "(II)I"⟩
abbrev cX5_against : ByteArray := prog_1_method_25_code
def yX5_against : MethodName := ⟨RX5, "against", "(III)I"⟩
abbrev cX5_toGo : ByteArray := prog_1_method_26_code
def yX5_toGo : MethodName := ⟨RX5, "toGo", "()I"⟩
abbrev cX5_find : ByteArray := prog_1_method_27_code
def yX5_find : MethodName := ⟨RX5, "find", "(III)I"⟩
abbrev cX5_freshShare : ByteArray := prog_1_method_28_code
def yX5_freshShare : MethodName := ⟨RX5, "freshShare", "()D"⟩
abbrev cX5_digest : ByteArray := prog_1_method_29_code
def yX5_digest : MethodName := ⟨RX5, "digest", "()J"⟩
abbrev cX5_counted : ByteArray := prog_1_method_30_code
def yX5_counted : MethodName := ⟨RX5, "counted", "(I)I"⟩
abbrev cX5_carriesOut : ByteArray := prog_1_method_31_code
def yX5_carriesOut : MethodName := ⟨RX5, "carriesOut", "(II)Z"⟩
abbrev cX5_addsNumber : ByteArray := prog_1_method_32_code
def yX5_addsNumber : MethodName := ⟨RX5, "addsNumber", "(II)Z"⟩
abbrev cX5_addsFrom : ByteArray := prog_1_method_33_code
def yX5_addsFrom : MethodName := ⟨RX5, "addsFrom", "(II)Z"⟩
abbrev cX5_drops : ByteArray := prog_1_method_34_code
def yX5_drops : MethodName := ⟨RX5, "drops", "(II)Z"⟩
abbrev cX5_renames : ByteArray := prog_1_method_35_code
def yX5_renames : MethodName := ⟨RX5, "renames", "(I)Z"⟩
abbrev cX5_inserts : ByteArray := prog_1_method_36_code
def yX5_inserts : MethodName := ⟨RX5, "inserts", "()Z"⟩
abbrev cX5_mixedShapes : ByteArray := prog_1_method_37_code
def yX5_mixedShapes : MethodName := ⟨RX5, "mixedShapes", "(J)J"⟩
abbrev cX5_mixedRow : ByteArray := prog_1_method_38_code
def yX5_mixedRow : MethodName := ⟨RX5, "mixedRow", "(JI)J"⟩
abbrev cX5_mixedText : ByteArray := prog_1_method_39_code
def yX5_mixedText : MethodName := ⟨RX5, "mixedText", "(J)J"⟩
abbrev cX5_mixed : ByteArray := prog_1_method_40_code
def yX5_mixed : MethodName := ⟨RX5, "mixed", "(JJ)J"⟩
abbrev cX5_bitsOfShare : ByteArray := prog_1_method_41_code
def yX5_bitsOfShare : MethodName := ⟨RX5, "bitsOfShare", "(D)J"⟩
abbrev cX5_isLetter : ByteArray := prog_1_method_42_code
def yX5_isLetter : MethodName := ⟨RX5, "isLetter", "(I)Z"⟩
abbrev cX5_isLetterOrNone : ByteArray := prog_1_method_43_code
def yX5_isLetterOrNone : MethodName := ⟨RX5, "isLetterOrNone", "(I)Z"⟩
abbrev cX5_isNumber : ByteArray := prog_1_method_44_code
def yX5_isNumber : MethodName := ⟨RX5, "isNumber", "(I)Z"⟩
abbrev cX5_isValue : ByteArray := prog_1_method_45_code
def yX5_isValue : MethodName := ⟨RX5, "isValue", "(I)Z"⟩
abbrev cX5_isReader : ByteArray := prog_1_method_46_code
def yX5_isReader : MethodName := ⟨RX5, "isReader", "(I)Z"⟩
abbrev cX5_at : ByteArray := prog_1_method_47_code
def yX5_at : MethodName := ⟨RX5, "at", "([II)I"⟩
abbrev cX5_put : ByteArray := prog_1_method_48_code
def yX5_put : MethodName := ⟨RX5, "put", "([III)V"⟩
abbrev cX5_copyAll : ByteArray := prog_1_method_49_code
def yX5_copyAll : MethodName := ⟨RX5, "copyAll", "([I[I)V"⟩
def RX6 : String := "ShapedRowsModel"
def TX6 : u_T := fun k => match k with
  | 0 => ("ShapedRowsModel", "thrown", "I", false)
  | 1 => ("ShapedRowsModel", "s", "[I", true)
  | 2 => ("ShapedRowsModel", "saved", "[I", true)
  | 3 => ("ShapedRowsModel", "savedMany", "I", false)
  | 4 => ("ShapedRowsModel", "buffer", "[I", true)
  | 5 => ("ShapedRowsModel", "length", "I", false)
  | 6 => ("ShapedRowsModel", "values", "[I", true)
  | 7 => ("ShapedRowsModel", "many", "I", false)
  | 8 => ("ShapedRowsModel", "at", "I", false)
  | 9 => ("ShapedRowsModel", "isWell", "Z", false)
  | 10 => ("ShapedRowsModel", "orders", "[I", true)
  | 11 => ("ShapedRowsModel", "orderMany", "I", false)
  | _ => ("ShapedRowsModel", "hash", "J", false)
def tyX6 : Nat → FieldType := fun k => match k with
  | 0 => .int
  | 1 => .array .int
  | 2 => .array .int
  | 3 => .int
  | 4 => .array .int
  | 5 => .int
  | 6 => .array .int
  | 7 => .int
  | 8 => .int
  | 9 => .boolean
  | 10 => .array .int
  | 11 => .int
  | _ => .long
abbrev wsX60 : List Cond := u_ws RX6 TX6 13
theorem nmX6 : ∀ a, a < 13 → ∀ b, b < 13 → a ≠ b → (TX6 a).2.1 ≠ (TX6 b).2.1 := by decide +kernel
theorem tyX6_ok : ∀ k, k < 13 → parseFieldDescriptor (TX6 k).2.2.1 = some (tyX6 k) := by decide +kernel
abbrev cX6_init : ByteArray := prog_8_method_1_code
def yX6_init : MethodName := ⟨RX6, "<init>", "()V"⟩
abbrev cX6_thrown : ByteArray := prog_8_method_2_code
def yX6_thrown : MethodName := ⟨RX6, "thrown", "()I"⟩
abbrev cX6_in : ByteArray := prog_8_method_3_code
def yX6_in : MethodName := ⟨RX6, "in", "(III)Z"⟩
abbrev cX6_fails : ByteArray := prog_8_method_4_code
def yX6_fails : MethodName := ⟨RX6, "fails", "(I)I"⟩
abbrev cX6_saves : ByteArray := prog_8_method_5_code
def yX6_saves : MethodName := ⟨RX6, "saves", "()V"⟩
abbrev cX6_get : ByteArray := prog_8_method_6_code
def yX6_get : MethodName := ⟨RX6, "get", "(II)I"⟩
abbrev cX6_lay : ByteArray := prog_8_method_7_code
def yX6_lay : MethodName := ⟨RX6, "lay", "(III)V"⟩
abbrev cX6_newest : ByteArray := prog_8_method_8_code
def yX6_newest : MethodName := ⟨RX6, "newest", "()I"⟩
abbrev cX6_isLetter : ByteArray := prog_8_method_9_code
def yX6_isLetter : MethodName := ⟨RX6, "isLetter", "(I)Z"⟩
abbrev cX6_isShape : ByteArray := prog_8_method_10_code
def yX6_isShape : MethodName := ⟨RX6, "isShape", "(I)Z"⟩
abbrev cX6_isInUse : ByteArray := prog_8_method_11_code
def yX6_isInUse : MethodName := ⟨RX6, "isInUse", "(I)Z"⟩
abbrev cX6_placeOf : ByteArray := prog_8_method_12_code
def yX6_placeOf : MethodName := ⟨RX6, "placeOf", "(II)I"⟩
abbrev cX6_placeOfColumn : ByteArray := prog_8_method_13_code
def yX6_placeOfColumn : MethodName := ⟨RX6, "placeOfColumn", "(II)I"⟩
abbrev cX6_comes : ByteArray := prog_8_method_14_code
def yX6_comes : MethodName := ⟨RX6, "comes", "(III)V"⟩
abbrev cX6_getsColumn : ByteArray := prog_8_method_15_code
def yX6_getsColumn : MethodName := ⟨RX6, "getsColumn", "(I)V"⟩
abbrev cX6_has : ByteArray := prog_8_method_16_code
def yX6_has : MethodName := ⟨RX6, "has", "(I)Z"⟩
abbrev cX6_isFull : ByteArray := prog_8_method_17_code
def yX6_isFull : MethodName := ⟨RX6, "isFull", "()Z"⟩
abbrev cX6_refusesNumber : ByteArray := prog_8_method_18_code
def yX6_refusesNumber : MethodName := ⟨RX6, "refusesNumber", "(II)I"⟩
abbrev cX6_refusesCopy : ByteArray := prog_8_method_19_code
def yX6_refusesCopy : MethodName := ⟨RX6, "refusesCopy", "(III)I"⟩
abbrev cX6_refusesDrop : ByteArray := prog_8_method_20_code
def yX6_refusesDrop : MethodName := ⟨RX6, "refusesDrop", "(II)I"⟩
abbrev cX6_refusesRename : ByteArray := prog_8_method_21_code
def yX6_refusesRename : MethodName := ⟨RX6, "refusesRename", "(II)I"⟩
abbrev cX6_addsNumber : ByteArray := prog_8_method_22_code
def yX6_addsNumber : MethodName := ⟨RX6, "addsNumber", "(II)V"⟩
abbrev cX6_addsCopy : ByteArray := prog_8_method_23_code
def yX6_addsCopy : MethodName := ⟨RX6, "addsCopy", "(III)V"⟩
abbrev cX6_drops : ByteArray := prog_8_method_24_code
def yX6_drops : MethodName := ⟨RX6, "drops", "(II)V"⟩
abbrev cX6_renames : ByteArray := prog_8_method_25_code
def yX6_renames : MethodName := ⟨RX6, "renames", "(II)V"⟩
abbrev cX6_addNumber : ByteArray := prog_8_method_26_code
def yX6_addNumber : MethodName := ⟨RX6, "addNumber", "(II)I"⟩
abbrev cX6_addCopy : ByteArray := prog_8_method_27_code
def yX6_addCopy : MethodName := ⟨RX6, "addCopy", "(III)I"⟩
abbrev cX6_drop : ByteArray := prog_8_method_28_code
def yX6_drop : MethodName := ⟨RX6, "drop", "(II)I"⟩
abbrev cX6_rename : ByteArray := prog_8_method_29_code
def yX6_rename : MethodName := ⟨RX6, "rename", "(II)I"⟩
abbrev cX6_rowOf : ByteArray := prog_8_method_30_code
def yX6_rowOf : MethodName := ⟨RX6, "rowOf", "(II)I"⟩
abbrev cX6_layRow : ByteArray := prog_8_method_31_code
def yX6_layRow : MethodName := ⟨RX6, "layRow", "(III)V"⟩
abbrev cX6_isRow : ByteArray := prog_8_method_32_code
def yX6_isRow : MethodName := ⟨RX6, "isRow", "(I)Z"⟩
abbrev cX6_goesOver : ByteArray := prog_8_method_33_code
def yX6_goesOver : MethodName := ⟨RX6, "goesOver", "(I)V"⟩
abbrev cX6_goesBack : ByteArray := prog_8_method_34_code
def yX6_goesBack : MethodName := ⟨RX6, "goesBack", "(I)V"⟩
abbrev cX6_goes : ByteArray := prog_8_method_35_code
def yX6_goes : MethodName := ⟨RX6, "goes", "(II)V"⟩
abbrev cX6_reads : ByteArray := prog_8_method_36_code
def yX6_reads : MethodName := ⟨RX6, "reads", "(II)V"⟩
abbrev cX6_rewrites : ByteArray := prog_8_method_37_code
def yX6_rewrites : MethodName := ⟨RX6, "rewrites", "(II)V"⟩
abbrev cX6_inserts : ByteArray := prog_8_method_38_code
def yX6_inserts : MethodName := ⟨RX6, "inserts", "(I)V"⟩
abbrev cX6_insert : ByteArray := prog_8_method_39_code
def yX6_insert : MethodName := ⟨RX6, "insert", "()I"⟩
abbrev cX6_insertBy : ByteArray := prog_8_method_40_code
def yX6_insertBy : MethodName := ⟨RX6, "insertBy", "(I)I"⟩
abbrev cX6_isAgainst : ByteArray := prog_8_method_41_code
def yX6_isAgainst : MethodName := ⟨RX6, "isAgainst", "(III)I"⟩
abbrev cX6_write : ByteArray := prog_8_method_42_code
def yX6_write : MethodName := ⟨RX6, "write", "(IIII)I"⟩
abbrev cX6_remove : ByteArray := prog_8_method_43_code
def yX6_remove : MethodName := ⟨RX6, "remove", "(I)I"⟩
abbrev cX6_goesOn : ByteArray := prog_8_method_44_code
def yX6_goesOn : MethodName := ⟨RX6, "goesOn", "(I)I"⟩
abbrev cX6_goOn : ByteArray := prog_8_method_45_code
def yX6_goOn : MethodName := ⟨RX6, "goOn", "(I)I"⟩
abbrev cX6_isReader : ByteArray := prog_8_method_46_code
def yX6_isReader : MethodName := ⟨RX6, "isReader", "(I)Z"⟩
abbrev cX6_hold : ByteArray := prog_8_method_47_code
def yX6_hold : MethodName := ⟨RX6, "hold", "(II)I"⟩
abbrev cX6_oldest : ByteArray := prog_8_method_48_code
def yX6_oldest : MethodName := ⟨RX6, "oldest", "()I"⟩
abbrev cX6_retire : ByteArray := prog_8_method_49_code
def yX6_retire : MethodName := ⟨RX6, "retire", "(I)I"⟩
abbrev cX6_append : ByteArray := prog_8_method_50_code
def yX6_append : MethodName := ⟨RX6, "append", "(I)I"⟩
abbrev cX6_clearBuffer : ByteArray := prog_8_method_51_code
def yX6_clearBuffer : MethodName := ⟨RX6, "clearBuffer", "()I"⟩
abbrev cX6_sign : ByteArray := prog_8_method_52_code
def yX6_sign : MethodName := ⟨RX6, "sign", "()I"⟩
abbrev cX6_takes : ByteArray := prog_8_method_53_code
def yX6_takes : MethodName := ⟨RX6, "takes", "(II)I"⟩
abbrev cX6_number : ByteArray := prog_8_method_54_code
def yX6_number : MethodName := ⟨RX6, "number", "()I"⟩
abbrev cX6_rowsToGo : ByteArray := prog_8_method_55_code
def yX6_rowsToGo : MethodName := ⟨RX6, "rowsToGo", "()I"⟩
abbrev cX6_lays : ByteArray := prog_8_method_56_code
def yX6_lays : MethodName := ⟨RX6, "lays", "(IIII)V"⟩
abbrev cX6_readsAdding : ByteArray := prog_8_method_57_code
def yX6_readsAdding : MethodName := ⟨RX6, "readsAdding", "()V"⟩
abbrev cX6_readsOrder : ByteArray := prog_8_method_58_code
def yX6_readsOrder : MethodName := ⟨RX6, "readsOrder", "()V"⟩
abbrev cX6_readsAll : ByteArray := prog_8_method_59_code
def yX6_readsAll : MethodName := ⟨RX6, "readsAll", "()V"⟩
abbrev cX6_firstError : ByteArray := prog_8_method_60_code
def yX6_firstError : MethodName := ⟨RX6, "firstError", "()I"⟩
abbrev cX6_does : ByteArray := prog_8_method_61_code
def yX6_does : MethodName := ⟨RX6, "does", "(I)Z"⟩
abbrev cX6_run : ByteArray := prog_8_method_62_code
def yX6_run : MethodName := ⟨RX6, "run", "()I"⟩
abbrev cX6_undo : ByteArray := prog_8_method_63_code
def yX6_undo : MethodName := ⟨RX6, "undo", "()I"⟩
abbrev cX6_valueBy : ByteArray := prog_8_method_64_code
def yX6_valueBy : MethodName := ⟨RX6, "valueBy", "(III)I"⟩
abbrev cX6_read : ByteArray := prog_8_method_65_code
def yX6_read : MethodName := ⟨RX6, "read", "(III)I"⟩
abbrev cX6_readAs : ByteArray := prog_8_method_66_code
def yX6_readAs : MethodName := ⟨RX6, "readAs", "(III)I"⟩
abbrev cX6_columnOf : ByteArray := prog_8_method_67_code
def yX6_columnOf : MethodName := ⟨RX6, "columnOf", "(III)I"⟩
abbrev cX6_column : ByteArray := prog_8_method_68_code
def yX6_column : MethodName := ⟨RX6, "column", "(III)I"⟩
abbrev cX6_rowsWith : ByteArray := prog_8_method_69_code
def yX6_rowsWith : MethodName := ⟨RX6, "rowsWith", "(I)I"⟩
abbrev cX6_readersWith : ByteArray := prog_8_method_70_code
def yX6_readersWith : MethodName := ⟨RX6, "readersWith", "(I)I"⟩
abbrev cX6_shapeOf : ByteArray := prog_8_method_71_code
def yX6_shapeOf : MethodName := ⟨RX6, "shapeOf", "(II)I"⟩
abbrev cX6_shape : ByteArray := prog_8_method_72_code
def yX6_shape : MethodName := ⟨RX6, "shape", "(II)I"⟩
abbrev cX6_sumBy : ByteArray := prog_8_method_73_code
def yX6_sumBy : MethodName := ⟨RX6, "sumBy", "(II)I"⟩
abbrev cX6_tellsRow : ByteArray := prog_8_method_74_code
def yX6_tellsRow : MethodName := ⟨RX6, "tellsRow", "(II)I"⟩
abbrev cX6_row : ByteArray := prog_8_method_75_code
def yX6_row : MethodName := ⟨RX6, "row", "(II)I"⟩
abbrev cX6_counts : ByteArray := prog_8_method_76_code
def yX6_counts : MethodName := ⟨RX6, "counts", "(I)I"⟩
abbrev cX6_count : ByteArray := prog_8_method_77_code
def yX6_count : MethodName := ⟨RX6, "count", "(I)I"⟩
abbrev cX6_losses : ByteArray := prog_8_method_78_code
def yX6_losses : MethodName := ⟨RX6, "losses", "(II)I"⟩
abbrev cX6_lost : ByteArray := prog_8_method_79_code
def yX6_lost : MethodName := ⟨RX6, "lost", "(II)I"⟩
abbrev cX6_against : ByteArray := prog_8_method_80_code
def yX6_against : MethodName := ⟨RX6, "against", "(III)I"⟩
abbrev cX6_steps : ByteArray := prog_8_method_81_code
def yX6_steps : MethodName := ⟨RX6, "steps", "()I"⟩
abbrev cX6_toGo : ByteArray := prog_8_method_82_code
def yX6_toGo : MethodName := ⟨RX6, "toGo", "()I"⟩
abbrev cX6_found : ByteArray := prog_8_method_83_code
def yX6_found : MethodName := ⟨RX6, "found", "(III)I"⟩
abbrev cX6_find : ByteArray := prog_8_method_84_code
def yX6_find : MethodName := ⟨RX6, "find", "(III)I"⟩
abbrev cX6_freshShare : ByteArray := prog_8_method_85_code
def yX6_freshShare : MethodName := ⟨RX6, "freshShare", "()D"⟩
abbrev cX6_hashes : ByteArray := prog_8_method_86_code
def yX6_hashes : MethodName := ⟨RX6, "hashes", "(J)V"⟩
abbrev cX6_hashesRow : ByteArray := prog_8_method_87_code
def yX6_hashesRow : MethodName := ⟨RX6, "hashesRow", "(I)V"⟩
abbrev cX6_digest : ByteArray := prog_8_method_88_code
def yX6_digest : MethodName := ⟨RX6, "digest", "()J"⟩
def RJ9 : String := "java/lang/Math"
def TJ9 : u_T := fun k => match k with
  | _ => ("", "", "", false)
def tyJ9 : Nat → FieldType := fun k => match k with
  | _ => .int
theorem nmJ9 : ∀ a, a < 0 → ∀ b, b < 0 → a ≠ b → (TJ9 a).2.1 ≠ (TJ9 b).2.1 := by decide +kernel
theorem tyJ9_ok : ∀ k, k < 0 → parseFieldDescriptor (TJ9 k).2.2.1 = some (tyJ9 k) := by decide +kernel
abbrev cJ9_min_7cf53 : ByteArray := prog_14_method_69_code
def yJ9_min_7cf53 : MethodName := ⟨RJ9, "min", "(II)I"⟩
def RJ0 : String := "java/lang/String"
def TJ0 : u_T := fun k => match k with
  | _ => ("", "", "", false)
def tyJ0 : Nat → FieldType := fun k => match k with
  | _ => .int
theorem nmJ0 : ∀ a, a < 0 → ∀ b, b < 0 → a ≠ b → (TJ0 a).2.1 ≠ (TJ0 b).2.1 := by decide +kernel
theorem tyJ0_ok : ∀ k, k < 0 → parseFieldDescriptor (TJ0 k).2.2.1 = some (tyJ0 k) := by decide +kernel
def RJ10 : String := "java/lang/System"
def TJ10 : u_T := fun k => match k with
  | _ => ("", "", "", false)
def tyJ10 : Nat → FieldType := fun k => match k with
  | _ => .int
theorem nmJ10 : ∀ a, a < 0 → ∀ b, b < 0 → a ≠ b → (TJ10 a).2.1 ≠ (TJ10 b).2.1 := by decide +kernel
theorem tyJ10_ok : ∀ k, k < 0 → parseFieldDescriptor (TJ10 k).2.2.1 = some (tyJ10 k) := by decide +kernel
def RL : String := "ShapedRowsLaw"
abbrev cL_addNumber : ByteArray := method_3_code
def yL_addNumber : MethodName := ⟨RL, "addNumber", "(LShapedRows;II[J)I"⟩
abbrev cL_addCopy : ByteArray := method_4_code
def yL_addCopy : MethodName := ⟨RL, "addCopy", "(LShapedRows;III[J)I"⟩
abbrev cL_drop : ByteArray := method_5_code
def yL_drop : MethodName := ⟨RL, "drop", "(LShapedRows;II[J)I"⟩
abbrev cL_rename : ByteArray := method_6_code
def yL_rename : MethodName := ⟨RL, "rename", "(LShapedRows;II[J)I"⟩
abbrev cL_insert : ByteArray := method_7_code
def yL_insert : MethodName := ⟨RL, "insert", "(LShapedRows;[J)I"⟩
abbrev cL_insertBy : ByteArray := method_8_code
def yL_insertBy : MethodName := ⟨RL, "insertBy", "(LShapedRows;I[J)I"⟩
abbrev cL_write : ByteArray := method_9_code
def yL_write : MethodName := ⟨RL, "write", "(LShapedRows;IIII[J)I"⟩
abbrev cL_remove : ByteArray := method_10_code
def yL_remove : MethodName := ⟨RL, "remove", "(LShapedRows;I[J)I"⟩
abbrev cL_goOn : ByteArray := method_11_code
def yL_goOn : MethodName := ⟨RL, "goOn", "(LShapedRows;I[J)I"⟩
abbrev cL_hold : ByteArray := method_12_code
def yL_hold : MethodName := ⟨RL, "hold", "(LShapedRows;II[J)I"⟩
abbrev cL_retire : ByteArray := method_13_code
def yL_retire : MethodName := ⟨RL, "retire", "(LShapedRows;I[J)I"⟩
abbrev cL_append : ByteArray := method_14_code
def yL_append : MethodName := ⟨RL, "append", "(LShapedRows;I[J)I"⟩
abbrev cL_run : ByteArray := method_15_code
def yL_run : MethodName := ⟨RL, "run", "(LShapedRows;[J)I"⟩
abbrev cL_undo : ByteArray := method_16_code
def yL_undo : MethodName := ⟨RL, "undo", "(LShapedRows;[J)I"⟩
abbrev cL_read : ByteArray := method_17_code
def yL_read : MethodName := ⟨RL, "read", "(LShapedRows;III[J)I"⟩
abbrev cL_readAs : ByteArray := method_18_code
def yL_readAs : MethodName := ⟨RL, "readAs", "(LShapedRows;III[J)I"⟩
abbrev cL_column : ByteArray := method_19_code
def yL_column : MethodName := ⟨RL, "column", "(LShapedRows;III[J)I"⟩
abbrev cL_shape : ByteArray := method_20_code
def yL_shape : MethodName := ⟨RL, "shape", "(LShapedRows;II[J)I"⟩
abbrev cL_row : ByteArray := method_21_code
def yL_row : MethodName := ⟨RL, "row", "(LShapedRows;II[J)I"⟩
abbrev cL_count : ByteArray := method_22_code
def yL_count : MethodName := ⟨RL, "count", "(LShapedRows;I[J)I"⟩
abbrev cL_lost : ByteArray := method_23_code
def yL_lost : MethodName := ⟨RL, "lost", "(LShapedRows;II[J)I"⟩
abbrev cL_against : ByteArray := method_24_code
def yL_against : MethodName := ⟨RL, "against", "(LShapedRows;III[J)I"⟩
abbrev cL_find : ByteArray := method_25_code
def yL_find : MethodName := ⟨RL, "find", "(LShapedRows;III[J)I"⟩
abbrev cL_law : ByteArray := code
def yL_law : MethodName := ⟨RL, "law", "([I)Z"⟩
abbrev vwCl : List vw_C := [(RX0, TX0, 2), (RX1, TX1, 7), (RX2, TX2, 9), (RX3, TX3, 4), (RX4, TX4, 2), (RX5, TX5, 3), (RX6, TX6, 13)]
end
section
theorem dX0_init_0 : decode cX0_init 0 = .ok (.aload_n 0, 1) := by decide +kernel
theorem dX0_init_1 : decode cX0_init 1 = .ok (.invokespecial 3, 3) := by decide +kernel
theorem dX0_init_4 : decode cX0_init 4 = .ok (.aload_n 0, 1) := by decide +kernel
theorem dX0_init_5 : decode cX0_init 5 = .ok (.bipush 6, 2) := by decide +kernel
theorem dX0_init_7 : decode cX0_init 7 = .ok (.anewarray 9, 3) := by decide +kernel
theorem dX0_init_10 : decode cX0_init 10 = .ok (.putfield 11, 3) := by decide +kernel
theorem dX0_init_13 : decode cX0_init 13 = .ok (.aload_n 0, 1) := by decide +kernel
theorem dX0_init_14 : decode cX0_init 14 = .ok (.iconst 0, 1) := by decide +kernel
theorem dX0_init_15 : decode cX0_init 15 = .ok (.putfield 17, 3) := by decide +kernel
theorem dX0_init_18 : decode cX0_init 18 = .ok (.iconst 0, 1) := by decide +kernel
theorem dX0_init_19 : decode cX0_init 19 = .ok (.istore_n 1, 1) := by decide +kernel
theorem dX0_init_20 : decode cX0_init 20 = .ok (.iload_n 1, 1) := by decide +kernel
theorem dX0_init_21 : decode cX0_init 21 = .ok (.aload_n 0, 1) := by decide +kernel
theorem dX0_init_22 : decode cX0_init 22 = .ok (.getfield 11, 3) := by decide +kernel
theorem dX0_init_25 : decode cX0_init 25 = .ok (.arraylength, 1) := by decide +kernel
theorem dX0_init_26 : decode cX0_init 26 = .ok (.if_icmp .ge 22, 3) := by decide +kernel
theorem dX0_init_29 : decode cX0_init 29 = .ok (.aload_n 0, 1) := by decide +kernel
theorem dX0_init_30 : decode cX0_init 30 = .ok (.getfield 11, 3) := by decide +kernel
theorem dX0_init_33 : decode cX0_init 33 = .ok (.iload_n 1, 1) := by decide +kernel
theorem dX0_init_34 : decode cX0_init 34 = .ok (.new 9, 3) := by decide +kernel
theorem dX0_init_37 : decode cX0_init 37 = .ok (.dup, 1) := by decide +kernel
theorem dX0_init_38 : decode cX0_init 38 = .ok (.invokespecial 21, 3) := by decide +kernel
theorem dX0_init_41 : decode cX0_init 41 = .ok (.aastore, 1) := by decide +kernel
theorem dX0_init_42 : decode cX0_init 42 = .ok (.iinc 1 1, 3) := by decide +kernel
theorem dX0_init_45 : decode cX0_init 45 = .ok (.goto (-25), 3) := by decide +kernel
theorem dX0_init_48 : decode cX0_init 48 = .ok (.return_, 1) := by decide +kernel
theorem dX0_size_0 : decode cX0_size 0 = .ok (.aload_n 0, 1) := by decide +kernel
theorem dX0_size_1 : decode cX0_size 1 = .ok (.getfield 17, 3) := by decide +kernel
theorem dX0_size_4 : decode cX0_size 4 = .ok (.ireturn, 1) := by decide +kernel
theorem dX0_save_0 : decode cX0_save 0 = .ok (.aload_n 0, 1) := by decide +kernel
theorem dX0_save_1 : decode cX0_save 1 = .ok (.getfield 17, 3) := by decide +kernel
theorem dX0_save_4 : decode cX0_save 4 = .ok (.bipush 6, 2) := by decide +kernel
theorem dX0_save_6 : decode cX0_save 6 = .ok (.if_icmp .lt 7, 3) := by decide +kernel
theorem dX0_save_9 : decode cX0_save 9 = .ok (.aload_n 0, 1) := by decide +kernel
theorem dX0_save_10 : decode cX0_save 10 = .ok (.invokevirtual 22, 3) := by decide +kernel
theorem dX0_save_13 : decode cX0_save 13 = .ok (.aload_n 0, 1) := by decide +kernel
theorem dX0_save_14 : decode cX0_save 14 = .ok (.aload_n 0, 1) := by decide +kernel
theorem dX0_save_15 : decode cX0_save 15 = .ok (.getfield 17, 3) := by decide +kernel
theorem dX0_save_18 : decode cX0_save 18 = .ok (.invokevirtual 25, 3) := by decide +kernel
theorem dX0_save_21 : decode cX0_save 21 = .ok (.astore_n 2, 1) := by decide +kernel
theorem dX0_save_22 : decode cX0_save 22 = .ok (.aload_n 2, 1) := by decide +kernel
theorem dX0_save_23 : decode cX0_save 23 = .ok (.ifnull 18, 3) := by decide +kernel
theorem dX0_save_26 : decode cX0_save 26 = .ok (.aload_n 2, 1) := by decide +kernel
theorem dX0_save_27 : decode cX0_save 27 = .ok (.aload_n 1, 1) := by decide +kernel
theorem dX0_save_28 : decode cX0_save 28 = .ok (.invokevirtual 29, 3) := by decide +kernel
theorem dX0_save_31 : decode cX0_save 31 = .ok (.aload_n 0, 1) := by decide +kernel
theorem dX0_save_32 : decode cX0_save 32 = .ok (.dup, 1) := by decide +kernel
theorem dX0_save_33 : decode cX0_save 33 = .ok (.getfield 17, 3) := by decide +kernel
theorem dX0_save_36 : decode cX0_save 36 = .ok (.iconst 1, 1) := by decide +kernel
theorem dX0_save_37 : decode cX0_save 37 = .ok (.iadd, 1) := by decide +kernel
theorem dX0_save_38 : decode cX0_save 38 = .ok (.putfield 17, 3) := by decide +kernel
theorem dX0_save_41 : decode cX0_save 41 = .ok (.return_, 1) := by decide +kernel
theorem dX0_restore_0 : decode cX0_restore 0 = .ok (.aload_n 0, 1) := by decide +kernel
theorem dX0_restore_1 : decode cX0_restore 1 = .ok (.aload_n 0, 1) := by decide +kernel
theorem dX0_restore_2 : decode cX0_restore 2 = .ok (.getfield 17, 3) := by decide +kernel
theorem dX0_restore_5 : decode cX0_restore 5 = .ok (.iconst 1, 1) := by decide +kernel
theorem dX0_restore_6 : decode cX0_restore 6 = .ok (.isub, 1) := by decide +kernel
theorem dX0_restore_7 : decode cX0_restore 7 = .ok (.invokevirtual 25, 3) := by decide +kernel
theorem dX0_restore_10 : decode cX0_restore 10 = .ok (.astore_n 2, 1) := by decide +kernel
theorem dX0_restore_11 : decode cX0_restore 11 = .ok (.aload_n 2, 1) := by decide +kernel
theorem dX0_restore_12 : decode cX0_restore 12 = .ok (.ifnull 18, 3) := by decide +kernel
theorem dX0_restore_15 : decode cX0_restore 15 = .ok (.aload_n 1, 1) := by decide +kernel
theorem dX0_restore_16 : decode cX0_restore 16 = .ok (.aload_n 2, 1) := by decide +kernel
theorem dX0_restore_17 : decode cX0_restore 17 = .ok (.invokevirtual 29, 3) := by decide +kernel
theorem dX0_restore_20 : decode cX0_restore 20 = .ok (.aload_n 0, 1) := by decide +kernel
theorem dX0_restore_21 : decode cX0_restore 21 = .ok (.dup, 1) := by decide +kernel
theorem dX0_restore_22 : decode cX0_restore 22 = .ok (.getfield 17, 3) := by decide +kernel
theorem dX0_restore_25 : decode cX0_restore 25 = .ok (.iconst 1, 1) := by decide +kernel
theorem dX0_restore_26 : decode cX0_restore 26 = .ok (.isub, 1) := by decide +kernel
theorem dX0_restore_27 : decode cX0_restore 27 = .ok (.putfield 17, 3) := by decide +kernel
theorem dX0_restore_30 : decode cX0_restore 30 = .ok (.aload_n 0, 1) := by decide +kernel
theorem dX0_restore_31 : decode cX0_restore 31 = .ok (.getfield 17, 3) := by decide +kernel
theorem dX0_restore_34 : decode cX0_restore 34 = .ok (.ireturn, 1) := by decide +kernel
theorem dX0_slotAt_0 : decode cX0_slotAt 0 = .ok (.iload_n 1, 1) := by decide +kernel
theorem dX0_slotAt_1 : decode cX0_slotAt 1 = .ok (.ifCond .lt 21, 3) := by decide +kernel
theorem dX0_slotAt_4 : decode cX0_slotAt 4 = .ok (.iload_n 1, 1) := by decide +kernel
theorem dX0_slotAt_5 : decode cX0_slotAt 5 = .ok (.aload_n 0, 1) := by decide +kernel
theorem dX0_slotAt_6 : decode cX0_slotAt 6 = .ok (.getfield 11, 3) := by decide +kernel
theorem dX0_slotAt_9 : decode cX0_slotAt 9 = .ok (.arraylength, 1) := by decide +kernel
theorem dX0_slotAt_10 : decode cX0_slotAt 10 = .ok (.if_icmp .ge 12, 3) := by decide +kernel
theorem dX0_slotAt_13 : decode cX0_slotAt 13 = .ok (.aload_n 0, 1) := by decide +kernel
theorem dX0_slotAt_14 : decode cX0_slotAt 14 = .ok (.getfield 11, 3) := by decide +kernel
theorem dX0_slotAt_17 : decode cX0_slotAt 17 = .ok (.iload_n 1, 1) := by decide +kernel
theorem dX0_slotAt_18 : decode cX0_slotAt 18 = .ok (.aaload, 1) := by decide +kernel
theorem dX0_slotAt_19 : decode cX0_slotAt 19 = .ok (.goto 4, 3) := by decide +kernel
theorem dX0_slotAt_22 : decode cX0_slotAt 22 = .ok (.aconst_null, 1) := by decide +kernel
theorem dX0_slotAt_23 : decode cX0_slotAt 23 = .ok (.areturn, 1) := by decide +kernel
theorem dX0_dropOldest_0 : decode cX0_dropOldest 0 = .ok (.aload_n 0, 1) := by decide +kernel
theorem dX0_dropOldest_1 : decode cX0_dropOldest 1 = .ok (.iconst 0, 1) := by decide +kernel
theorem dX0_dropOldest_2 : decode cX0_dropOldest 2 = .ok (.invokevirtual 25, 3) := by decide +kernel
theorem dX0_dropOldest_5 : decode cX0_dropOldest 5 = .ok (.astore_n 1, 1) := by decide +kernel
theorem dX0_dropOldest_6 : decode cX0_dropOldest 6 = .ok (.iconst 1, 1) := by decide +kernel
theorem dX0_dropOldest_7 : decode cX0_dropOldest 7 = .ok (.istore_n 2, 1) := by decide +kernel
theorem dX0_dropOldest_8 : decode cX0_dropOldest 8 = .ok (.iload_n 2, 1) := by decide +kernel
theorem dX0_dropOldest_9 : decode cX0_dropOldest 9 = .ok (.aload_n 0, 1) := by decide +kernel
theorem dX0_dropOldest_10 : decode cX0_dropOldest 10 = .ok (.getfield 11, 3) := by decide +kernel
theorem dX0_dropOldest_13 : decode cX0_dropOldest 13 = .ok (.arraylength, 1) := by decide +kernel
theorem dX0_dropOldest_14 : decode cX0_dropOldest 14 = .ok (.if_icmp .ge 23, 3) := by decide +kernel
theorem dX0_dropOldest_17 : decode cX0_dropOldest 17 = .ok (.aload_n 0, 1) := by decide +kernel
theorem dX0_dropOldest_18 : decode cX0_dropOldest 18 = .ok (.getfield 11, 3) := by decide +kernel
theorem dX0_dropOldest_21 : decode cX0_dropOldest 21 = .ok (.iload_n 2, 1) := by decide +kernel
theorem dX0_dropOldest_22 : decode cX0_dropOldest 22 = .ok (.iconst 1, 1) := by decide +kernel
theorem dX0_dropOldest_23 : decode cX0_dropOldest 23 = .ok (.isub, 1) := by decide +kernel
theorem dX0_dropOldest_24 : decode cX0_dropOldest 24 = .ok (.aload_n 0, 1) := by decide +kernel
theorem dX0_dropOldest_25 : decode cX0_dropOldest 25 = .ok (.getfield 11, 3) := by decide +kernel
theorem dX0_dropOldest_28 : decode cX0_dropOldest 28 = .ok (.iload_n 2, 1) := by decide +kernel
theorem dX0_dropOldest_29 : decode cX0_dropOldest 29 = .ok (.aaload, 1) := by decide +kernel
theorem dX0_dropOldest_30 : decode cX0_dropOldest 30 = .ok (.aastore, 1) := by decide +kernel
theorem dX0_dropOldest_31 : decode cX0_dropOldest 31 = .ok (.iinc 2 1, 3) := by decide +kernel
theorem dX0_dropOldest_34 : decode cX0_dropOldest 34 = .ok (.goto (-26), 3) := by decide +kernel
theorem dX0_dropOldest_37 : decode cX0_dropOldest 37 = .ok (.aload_n 0, 1) := by decide +kernel
theorem dX0_dropOldest_38 : decode cX0_dropOldest 38 = .ok (.getfield 17, 3) := by decide +kernel
theorem dX0_dropOldest_41 : decode cX0_dropOldest 41 = .ok (.ifCond .le 38, 3) := by decide +kernel
theorem dX0_dropOldest_44 : decode cX0_dropOldest 44 = .ok (.aload_n 0, 1) := by decide +kernel
theorem dX0_dropOldest_45 : decode cX0_dropOldest 45 = .ok (.getfield 17, 3) := by decide +kernel
theorem dX0_dropOldest_48 : decode cX0_dropOldest 48 = .ok (.aload_n 0, 1) := by decide +kernel
theorem dX0_dropOldest_49 : decode cX0_dropOldest 49 = .ok (.getfield 11, 3) := by decide +kernel
theorem dX0_dropOldest_52 : decode cX0_dropOldest 52 = .ok (.arraylength, 1) := by decide +kernel
theorem dX0_dropOldest_53 : decode cX0_dropOldest 53 = .ok (.if_icmp .gt 26, 3) := by decide +kernel
theorem dX0_dropOldest_56 : decode cX0_dropOldest 56 = .ok (.aload_n 0, 1) := by decide +kernel
theorem dX0_dropOldest_57 : decode cX0_dropOldest 57 = .ok (.getfield 11, 3) := by decide +kernel
theorem dX0_dropOldest_60 : decode cX0_dropOldest 60 = .ok (.aload_n 0, 1) := by decide +kernel
theorem dX0_dropOldest_61 : decode cX0_dropOldest 61 = .ok (.getfield 11, 3) := by decide +kernel
theorem dX0_dropOldest_64 : decode cX0_dropOldest 64 = .ok (.arraylength, 1) := by decide +kernel
theorem dX0_dropOldest_65 : decode cX0_dropOldest 65 = .ok (.iconst 1, 1) := by decide +kernel
theorem dX0_dropOldest_66 : decode cX0_dropOldest 66 = .ok (.isub, 1) := by decide +kernel
theorem dX0_dropOldest_67 : decode cX0_dropOldest 67 = .ok (.aload_n 1, 1) := by decide +kernel
theorem dX0_dropOldest_68 : decode cX0_dropOldest 68 = .ok (.aastore, 1) := by decide +kernel
theorem dX0_dropOldest_69 : decode cX0_dropOldest 69 = .ok (.aload_n 0, 1) := by decide +kernel
theorem dX0_dropOldest_70 : decode cX0_dropOldest 70 = .ok (.dup, 1) := by decide +kernel
theorem dX0_dropOldest_71 : decode cX0_dropOldest 71 = .ok (.getfield 17, 3) := by decide +kernel
theorem dX0_dropOldest_74 : decode cX0_dropOldest 74 = .ok (.iconst 1, 1) := by decide +kernel
theorem dX0_dropOldest_75 : decode cX0_dropOldest 75 = .ok (.isub, 1) := by decide +kernel
theorem dX0_dropOldest_76 : decode cX0_dropOldest 76 = .ok (.putfield 17, 3) := by decide +kernel
theorem dX0_dropOldest_79 : decode cX0_dropOldest 79 = .ok (.return_, 1) := by decide +kernel
theorem dX1_init_0 : decode cX1_init 0 = .ok (.aload_n 0, 1) := by decide +kernel
theorem dX1_init_1 : decode cX1_init 1 = .ok (.invokespecial 3, 3) := by decide +kernel
theorem dX1_init_4 : decode cX1_init 4 = .ok (.aload_n 0, 1) := by decide +kernel
theorem dX1_init_5 : decode cX1_init 5 = .ok (.iconst 0, 1) := by decide +kernel
theorem dX1_init_6 : decode cX1_init 6 = .ok (.putfield 9, 3) := by decide +kernel
theorem dX1_init_9 : decode cX1_init 9 = .ok (.aload_n 0, 1) := by decide +kernel
theorem dX1_init_10 : decode cX1_init 10 = .ok (.iconst 0, 1) := by decide +kernel
theorem dX1_init_11 : decode cX1_init 11 = .ok (.putfield 15, 3) := by decide +kernel
theorem dX1_init_14 : decode cX1_init 14 = .ok (.aload_n 0, 1) := by decide +kernel
theorem dX1_init_15 : decode cX1_init 15 = .ok (.iconst 0, 1) := by decide +kernel
theorem dX1_init_16 : decode cX1_init 16 = .ok (.putfield 18, 3) := by decide +kernel
theorem dX1_init_19 : decode cX1_init 19 = .ok (.aload_n 0, 1) := by decide +kernel
theorem dX1_init_20 : decode cX1_init 20 = .ok (.iconst 0, 1) := by decide +kernel
theorem dX1_init_21 : decode cX1_init 21 = .ok (.putfield 21, 3) := by decide +kernel
theorem dX1_init_24 : decode cX1_init 24 = .ok (.aload_n 0, 1) := by decide +kernel
theorem dX1_init_25 : decode cX1_init 25 = .ok (.bipush 12, 2) := by decide +kernel
theorem dX1_init_27 : decode cX1_init 27 = .ok (.newarray .int, 2) := by decide +kernel
theorem dX1_init_29 : decode cX1_init 29 = .ok (.putfield 24, 3) := by decide +kernel
theorem dX1_init_32 : decode cX1_init 32 = .ok (.aload_n 0, 1) := by decide +kernel
theorem dX1_init_33 : decode cX1_init 33 = .ok (.bipush 12, 2) := by decide +kernel
theorem dX1_init_35 : decode cX1_init 35 = .ok (.newarray .int, 2) := by decide +kernel
theorem dX1_init_37 : decode cX1_init 37 = .ok (.putfield 28, 3) := by decide +kernel
theorem dX1_init_40 : decode cX1_init 40 = .ok (.aload_n 0, 1) := by decide +kernel
theorem dX1_init_41 : decode cX1_init 41 = .ok (.sipush 144, 3) := by decide +kernel
theorem dX1_init_44 : decode cX1_init 44 = .ok (.newarray .int, 2) := by decide +kernel
theorem dX1_init_46 : decode cX1_init 46 = .ok (.putfield 31, 3) := by decide +kernel
theorem dX1_init_49 : decode cX1_init 49 = .ok (.return_, 1) := by decide +kernel
theorem dX1_size_0 : decode cX1_size 0 = .ok (.aload_n 0, 1) := by decide +kernel
theorem dX1_size_1 : decode cX1_size 1 = .ok (.getfield 9, 3) := by decide +kernel
theorem dX1_size_4 : decode cX1_size 4 = .ok (.ireturn, 1) := by decide +kernel
theorem dX1_cursor_0 : decode cX1_cursor 0 = .ok (.aload_n 0, 1) := by decide +kernel
theorem dX1_cursor_1 : decode cX1_cursor 1 = .ok (.getfield 15, 3) := by decide +kernel
theorem dX1_cursor_4 : decode cX1_cursor 4 = .ok (.ireturn, 1) := by decide +kernel
theorem dX1_rewritten_0 : decode cX1_rewritten 0 = .ok (.aload_n 0, 1) := by decide +kernel
theorem dX1_rewritten_1 : decode cX1_rewritten 1 = .ok (.getfield 18, 3) := by decide +kernel
theorem dX1_rewritten_4 : decode cX1_rewritten 4 = .ok (.ireturn, 1) := by decide +kernel
theorem dX1_writes_0 : decode cX1_writes 0 = .ok (.aload_n 0, 1) := by decide +kernel
theorem dX1_writes_1 : decode cX1_writes 1 = .ok (.getfield 21, 3) := by decide +kernel
theorem dX1_writes_4 : decode cX1_writes 4 = .ok (.ireturn, 1) := by decide +kernel
theorem dX1_isThere_0 : decode cX1_isThere 0 = .ok (.iload_n 1, 1) := by decide +kernel
theorem dX1_isThere_1 : decode cX1_isThere 1 = .ok (.ifCond .lt 15, 3) := by decide +kernel
theorem dX1_isThere_4 : decode cX1_isThere 4 = .ok (.iload_n 1, 1) := by decide +kernel
theorem dX1_isThere_5 : decode cX1_isThere 5 = .ok (.aload_n 0, 1) := by decide +kernel
theorem dX1_isThere_6 : decode cX1_isThere 6 = .ok (.getfield 9, 3) := by decide +kernel
theorem dX1_isThere_9 : decode cX1_isThere 9 = .ok (.if_icmp .ge 7, 3) := by decide +kernel
theorem dX1_isThere_12 : decode cX1_isThere 12 = .ok (.iconst 1, 1) := by decide +kernel
theorem dX1_isThere_13 : decode cX1_isThere 13 = .ok (.goto 4, 3) := by decide +kernel
theorem dX1_isThere_16 : decode cX1_isThere 16 = .ok (.iconst 0, 1) := by decide +kernel
theorem dX1_isThere_17 : decode cX1_isThere 17 = .ok (.ireturn, 1) := by decide +kernel
theorem dX1_isFull_0 : decode cX1_isFull 0 = .ok (.aload_n 0, 1) := by decide +kernel
theorem dX1_isFull_1 : decode cX1_isFull 1 = .ok (.getfield 9, 3) := by decide +kernel
theorem dX1_isFull_4 : decode cX1_isFull 4 = .ok (.bipush 12, 2) := by decide +kernel
theorem dX1_isFull_6 : decode cX1_isFull 6 = .ok (.if_icmp .lt 7, 3) := by decide +kernel
theorem dX1_isFull_9 : decode cX1_isFull 9 = .ok (.iconst 1, 1) := by decide +kernel
theorem dX1_isFull_10 : decode cX1_isFull 10 = .ok (.goto 4, 3) := by decide +kernel
theorem dX1_isFull_13 : decode cX1_isFull 13 = .ok (.iconst 0, 1) := by decide +kernel
theorem dX1_isFull_14 : decode cX1_isFull 14 = .ok (.ireturn, 1) := by decide +kernel
theorem dX1_shapeOf_0 : decode cX1_shapeOf 0 = .ok (.aload_n 0, 1) := by decide +kernel
theorem dX1_shapeOf_1 : decode cX1_shapeOf 1 = .ok (.getfield 24, 3) := by decide +kernel
theorem dX1_shapeOf_4 : decode cX1_shapeOf 4 = .ok (.iload_n 1, 1) := by decide +kernel
theorem dX1_shapeOf_5 : decode cX1_shapeOf 5 = .ok (.invokestatic 34, 3) := by decide +kernel
theorem dX1_shapeOf_8 : decode cX1_shapeOf 8 = .ok (.ireturn, 1) := by decide +kernel
theorem dX1_rewritesOf_0 : decode cX1_rewritesOf 0 = .ok (.aload_n 0, 1) := by decide +kernel
theorem dX1_rewritesOf_1 : decode cX1_rewritesOf 1 = .ok (.getfield 28, 3) := by decide +kernel
theorem dX1_rewritesOf_4 : decode cX1_rewritesOf 4 = .ok (.iload_n 1, 1) := by decide +kernel
theorem dX1_rewritesOf_5 : decode cX1_rewritesOf 5 = .ok (.invokestatic 34, 3) := by decide +kernel
theorem dX1_rewritesOf_8 : decode cX1_rewritesOf 8 = .ok (.ireturn, 1) := by decide +kernel
theorem dX1_value_0 : decode cX1_value 0 = .ok (.aload_n 0, 1) := by decide +kernel
theorem dX1_value_1 : decode cX1_value 1 = .ok (.getfield 31, 3) := by decide +kernel
theorem dX1_value_4 : decode cX1_value 4 = .ok (.iload_n 1, 1) := by decide +kernel
theorem dX1_value_5 : decode cX1_value 5 = .ok (.bipush 12, 2) := by decide +kernel
theorem dX1_value_7 : decode cX1_value 7 = .ok (.imul, 1) := by decide +kernel
theorem dX1_value_8 : decode cX1_value 8 = .ok (.iload_n 2, 1) := by decide +kernel
theorem dX1_value_9 : decode cX1_value 9 = .ok (.iadd, 1) := by decide +kernel
theorem dX1_value_10 : decode cX1_value 10 = .ok (.invokestatic 34, 3) := by decide +kernel
theorem dX1_value_13 : decode cX1_value 13 = .ok (.ireturn, 1) := by decide +kernel
theorem dX1_addRow_0 : decode cX1_addRow 0 = .ok (.aload_n 0, 1) := by decide +kernel
theorem dX1_addRow_1 : decode cX1_addRow 1 = .ok (.getfield 9, 3) := by decide +kernel
theorem dX1_addRow_4 : decode cX1_addRow 4 = .ok (.istore_n 2, 1) := by decide +kernel
theorem dX1_addRow_5 : decode cX1_addRow 5 = .ok (.aload_n 0, 1) := by decide +kernel
theorem dX1_addRow_6 : decode cX1_addRow 6 = .ok (.getfield 24, 3) := by decide +kernel
theorem dX1_addRow_9 : decode cX1_addRow 9 = .ok (.iload_n 2, 1) := by decide +kernel
theorem dX1_addRow_10 : decode cX1_addRow 10 = .ok (.iload_n 1, 1) := by decide +kernel
theorem dX1_addRow_11 : decode cX1_addRow 11 = .ok (.invokestatic 38, 3) := by decide +kernel
theorem dX1_addRow_14 : decode cX1_addRow 14 = .ok (.aload_n 0, 1) := by decide +kernel
theorem dX1_addRow_15 : decode cX1_addRow 15 = .ok (.getfield 28, 3) := by decide +kernel
theorem dX1_addRow_18 : decode cX1_addRow 18 = .ok (.iload_n 2, 1) := by decide +kernel
theorem dX1_addRow_19 : decode cX1_addRow 19 = .ok (.iconst 0, 1) := by decide +kernel
theorem dX1_addRow_20 : decode cX1_addRow 20 = .ok (.invokestatic 38, 3) := by decide +kernel
theorem dX1_addRow_23 : decode cX1_addRow 23 = .ok (.iconst 0, 1) := by decide +kernel
theorem dX1_addRow_24 : decode cX1_addRow 24 = .ok (.istore_n 3, 1) := by decide +kernel
theorem dX1_addRow_25 : decode cX1_addRow 25 = .ok (.iload_n 3, 1) := by decide +kernel
theorem dX1_addRow_26 : decode cX1_addRow 26 = .ok (.bipush 12, 2) := by decide +kernel
theorem dX1_addRow_28 : decode cX1_addRow 28 = .ok (.if_icmp .ge 23, 3) := by decide +kernel
theorem dX1_addRow_31 : decode cX1_addRow 31 = .ok (.aload_n 0, 1) := by decide +kernel
theorem dX1_addRow_32 : decode cX1_addRow 32 = .ok (.getfield 31, 3) := by decide +kernel
theorem dX1_addRow_35 : decode cX1_addRow 35 = .ok (.iload_n 2, 1) := by decide +kernel
theorem dX1_addRow_36 : decode cX1_addRow 36 = .ok (.bipush 12, 2) := by decide +kernel
theorem dX1_addRow_38 : decode cX1_addRow 38 = .ok (.imul, 1) := by decide +kernel
theorem dX1_addRow_39 : decode cX1_addRow 39 = .ok (.iload_n 3, 1) := by decide +kernel
theorem dX1_addRow_40 : decode cX1_addRow 40 = .ok (.iadd, 1) := by decide +kernel
theorem dX1_addRow_41 : decode cX1_addRow 41 = .ok (.iconst 0, 1) := by decide +kernel
theorem dX1_addRow_42 : decode cX1_addRow 42 = .ok (.invokestatic 38, 3) := by decide +kernel
theorem dX1_addRow_45 : decode cX1_addRow 45 = .ok (.iinc 3 1, 3) := by decide +kernel
theorem dX1_addRow_48 : decode cX1_addRow 48 = .ok (.goto (-23), 3) := by decide +kernel
theorem dX1_addRow_51 : decode cX1_addRow 51 = .ok (.aload_n 0, 1) := by decide +kernel
theorem dX1_addRow_52 : decode cX1_addRow 52 = .ok (.dup, 1) := by decide +kernel
theorem dX1_addRow_53 : decode cX1_addRow 53 = .ok (.getfield 9, 3) := by decide +kernel
theorem dX1_addRow_56 : decode cX1_addRow 56 = .ok (.iconst 1, 1) := by decide +kernel
theorem dX1_addRow_57 : decode cX1_addRow 57 = .ok (.iadd, 1) := by decide +kernel
theorem dX1_addRow_58 : decode cX1_addRow 58 = .ok (.putfield 9, 3) := by decide +kernel
theorem dX1_addRow_61 : decode cX1_addRow 61 = .ok (.iload_n 2, 1) := by decide +kernel
theorem dX1_addRow_62 : decode cX1_addRow 62 = .ok (.ireturn, 1) := by decide +kernel
theorem dX1_takeOut_0 : decode cX1_takeOut 0 = .ok (.iload_n 1, 1) := by decide +kernel
theorem dX1_takeOut_1 : decode cX1_takeOut 1 = .ok (.iconst 1, 1) := by decide +kernel
theorem dX1_takeOut_2 : decode cX1_takeOut 2 = .ok (.iadd, 1) := by decide +kernel
theorem dX1_takeOut_3 : decode cX1_takeOut 3 = .ok (.istore_n 2, 1) := by decide +kernel
theorem dX1_takeOut_4 : decode cX1_takeOut 4 = .ok (.iload_n 2, 1) := by decide +kernel
theorem dX1_takeOut_5 : decode cX1_takeOut 5 = .ok (.aload_n 0, 1) := by decide +kernel
theorem dX1_takeOut_6 : decode cX1_takeOut 6 = .ok (.getfield 9, 3) := by decide +kernel
theorem dX1_takeOut_9 : decode cX1_takeOut 9 = .ok (.if_icmp .ge 14, 3) := by decide +kernel
theorem dX1_takeOut_12 : decode cX1_takeOut 12 = .ok (.aload_n 0, 1) := by decide +kernel
theorem dX1_takeOut_13 : decode cX1_takeOut 13 = .ok (.iload_n 2, 1) := by decide +kernel
theorem dX1_takeOut_14 : decode cX1_takeOut 14 = .ok (.invokevirtual 42, 3) := by decide +kernel
theorem dX1_takeOut_17 : decode cX1_takeOut 17 = .ok (.iinc 2 1, 3) := by decide +kernel
theorem dX1_takeOut_20 : decode cX1_takeOut 20 = .ok (.goto (-16), 3) := by decide +kernel
theorem dX1_takeOut_23 : decode cX1_takeOut 23 = .ok (.aload_n 0, 1) := by decide +kernel
theorem dX1_takeOut_24 : decode cX1_takeOut 24 = .ok (.dup, 1) := by decide +kernel
theorem dX1_takeOut_25 : decode cX1_takeOut 25 = .ok (.getfield 9, 3) := by decide +kernel
theorem dX1_takeOut_28 : decode cX1_takeOut 28 = .ok (.iconst 1, 1) := by decide +kernel
theorem dX1_takeOut_29 : decode cX1_takeOut 29 = .ok (.isub, 1) := by decide +kernel
theorem dX1_takeOut_30 : decode cX1_takeOut 30 = .ok (.putfield 9, 3) := by decide +kernel
theorem dX1_takeOut_33 : decode cX1_takeOut 33 = .ok (.aload_n 0, 1) := by decide +kernel
theorem dX1_takeOut_34 : decode cX1_takeOut 34 = .ok (.getfield 15, 3) := by decide +kernel
theorem dX1_takeOut_37 : decode cX1_takeOut 37 = .ok (.iload_n 1, 1) := by decide +kernel
theorem dX1_takeOut_38 : decode cX1_takeOut 38 = .ok (.if_icmp .le 13, 3) := by decide +kernel
theorem dX1_takeOut_41 : decode cX1_takeOut 41 = .ok (.aload_n 0, 1) := by decide +kernel
theorem dX1_takeOut_42 : decode cX1_takeOut 42 = .ok (.dup, 1) := by decide +kernel
theorem dX1_takeOut_43 : decode cX1_takeOut 43 = .ok (.getfield 15, 3) := by decide +kernel
theorem dX1_takeOut_46 : decode cX1_takeOut 46 = .ok (.iconst 1, 1) := by decide +kernel
theorem dX1_takeOut_47 : decode cX1_takeOut 47 = .ok (.isub, 1) := by decide +kernel
theorem dX1_takeOut_48 : decode cX1_takeOut 48 = .ok (.putfield 15, 3) := by decide +kernel
theorem dX1_takeOut_51 : decode cX1_takeOut 51 = .ok (.aload_n 0, 1) := by decide +kernel
theorem dX1_takeOut_52 : decode cX1_takeOut 52 = .ok (.getfield 9, 3) := by decide +kernel
theorem dX1_takeOut_55 : decode cX1_takeOut 55 = .ok (.ireturn, 1) := by decide +kernel
theorem dX1_overwrite_0 : decode cX1_overwrite 0 = .ok (.aload_n 0, 1) := by decide +kernel
theorem dX1_overwrite_1 : decode cX1_overwrite 1 = .ok (.getfield 31, 3) := by decide +kernel
theorem dX1_overwrite_4 : decode cX1_overwrite 4 = .ok (.iload_n 1, 1) := by decide +kernel
theorem dX1_overwrite_5 : decode cX1_overwrite 5 = .ok (.bipush 12, 2) := by decide +kernel
theorem dX1_overwrite_7 : decode cX1_overwrite 7 = .ok (.imul, 1) := by decide +kernel
theorem dX1_overwrite_8 : decode cX1_overwrite 8 = .ok (.iload_n 2, 1) := by decide +kernel
theorem dX1_overwrite_9 : decode cX1_overwrite 9 = .ok (.iadd, 1) := by decide +kernel
theorem dX1_overwrite_10 : decode cX1_overwrite 10 = .ok (.iload_n 3, 1) := by decide +kernel
theorem dX1_overwrite_11 : decode cX1_overwrite 11 = .ok (.invokestatic 38, 3) := by decide +kernel
theorem dX1_overwrite_14 : decode cX1_overwrite 14 = .ok (.aload_n 0, 1) := by decide +kernel
theorem dX1_overwrite_15 : decode cX1_overwrite 15 = .ok (.dup, 1) := by decide +kernel
theorem dX1_overwrite_16 : decode cX1_overwrite 16 = .ok (.getfield 21, 3) := by decide +kernel
theorem dX1_overwrite_19 : decode cX1_overwrite 19 = .ok (.iconst 1, 1) := by decide +kernel
theorem dX1_overwrite_20 : decode cX1_overwrite 20 = .ok (.iadd, 1) := by decide +kernel
theorem dX1_overwrite_21 : decode cX1_overwrite 21 = .ok (.putfield 21, 3) := by decide +kernel
theorem dX1_overwrite_24 : decode cX1_overwrite 24 = .ok (.return_, 1) := by decide +kernel
theorem dX1_rewrite_0 : decode cX1_rewrite 0 = .ok (.iconst 0, 1) := by decide +kernel
theorem dX1_rewrite_1 : decode cX1_rewrite 1 = .ok (.istore 4, 2) := by decide +kernel
theorem dX1_rewrite_3 : decode cX1_rewrite 3 = .ok (.iload 4, 2) := by decide +kernel
theorem dX1_rewrite_5 : decode cX1_rewrite 5 = .ok (.bipush 12, 2) := by decide +kernel
theorem dX1_rewrite_7 : decode cX1_rewrite 7 = .ok (.if_icmp .ge 29, 3) := by decide +kernel
theorem dX1_rewrite_10 : decode cX1_rewrite 10 = .ok (.aload_n 0, 1) := by decide +kernel
theorem dX1_rewrite_11 : decode cX1_rewrite 11 = .ok (.getfield 31, 3) := by decide +kernel
theorem dX1_rewrite_14 : decode cX1_rewrite 14 = .ok (.iload_n 1, 1) := by decide +kernel
theorem dX1_rewrite_15 : decode cX1_rewrite 15 = .ok (.bipush 12, 2) := by decide +kernel
theorem dX1_rewrite_17 : decode cX1_rewrite 17 = .ok (.imul, 1) := by decide +kernel
theorem dX1_rewrite_18 : decode cX1_rewrite 18 = .ok (.iload 4, 2) := by decide +kernel
theorem dX1_rewrite_20 : decode cX1_rewrite 20 = .ok (.iadd, 1) := by decide +kernel
theorem dX1_rewrite_21 : decode cX1_rewrite 21 = .ok (.aload_n 3, 1) := by decide +kernel
theorem dX1_rewrite_22 : decode cX1_rewrite 22 = .ok (.iload 4, 2) := by decide +kernel
theorem dX1_rewrite_24 : decode cX1_rewrite 24 = .ok (.invokestatic 34, 3) := by decide +kernel
theorem dX1_rewrite_27 : decode cX1_rewrite 27 = .ok (.invokestatic 38, 3) := by decide +kernel
theorem dX1_rewrite_30 : decode cX1_rewrite 30 = .ok (.iinc 4 1, 3) := by decide +kernel
theorem dX1_rewrite_33 : decode cX1_rewrite 33 = .ok (.goto (-30), 3) := by decide +kernel
theorem dX1_rewrite_36 : decode cX1_rewrite 36 = .ok (.aload_n 0, 1) := by decide +kernel
theorem dX1_rewrite_37 : decode cX1_rewrite 37 = .ok (.getfield 24, 3) := by decide +kernel
theorem dX1_rewrite_40 : decode cX1_rewrite 40 = .ok (.iload_n 1, 1) := by decide +kernel
theorem dX1_rewrite_41 : decode cX1_rewrite 41 = .ok (.iload_n 2, 1) := by decide +kernel
theorem dX1_rewrite_42 : decode cX1_rewrite 42 = .ok (.invokestatic 38, 3) := by decide +kernel
theorem dX1_rewrite_45 : decode cX1_rewrite 45 = .ok (.aload_n 0, 1) := by decide +kernel
theorem dX1_rewrite_46 : decode cX1_rewrite 46 = .ok (.getfield 28, 3) := by decide +kernel
theorem dX1_rewrite_49 : decode cX1_rewrite 49 = .ok (.iload_n 1, 1) := by decide +kernel
theorem dX1_rewrite_50 : decode cX1_rewrite 50 = .ok (.aload_n 0, 1) := by decide +kernel
theorem dX1_rewrite_51 : decode cX1_rewrite 51 = .ok (.iload_n 1, 1) := by decide +kernel
theorem dX1_rewrite_52 : decode cX1_rewrite 52 = .ok (.invokevirtual 46, 3) := by decide +kernel
theorem dX1_rewrite_55 : decode cX1_rewrite 55 = .ok (.iconst 1, 1) := by decide +kernel
theorem dX1_rewrite_56 : decode cX1_rewrite 56 = .ok (.iadd, 1) := by decide +kernel
theorem dX1_rewrite_57 : decode cX1_rewrite 57 = .ok (.invokestatic 38, 3) := by decide +kernel
theorem dX1_rewrite_60 : decode cX1_rewrite 60 = .ok (.aload_n 0, 1) := by decide +kernel
theorem dX1_rewrite_61 : decode cX1_rewrite 61 = .ok (.dup, 1) := by decide +kernel
theorem dX1_rewrite_62 : decode cX1_rewrite 62 = .ok (.getfield 18, 3) := by decide +kernel
theorem dX1_rewrite_65 : decode cX1_rewrite 65 = .ok (.iconst 1, 1) := by decide +kernel
theorem dX1_rewrite_66 : decode cX1_rewrite 66 = .ok (.iadd, 1) := by decide +kernel
theorem dX1_rewrite_67 : decode cX1_rewrite 67 = .ok (.putfield 18, 3) := by decide +kernel
theorem dX1_rewrite_70 : decode cX1_rewrite 70 = .ok (.return_, 1) := by decide +kernel
theorem dX1_nextRow_0 : decode cX1_nextRow 0 = .ok (.aload_n 0, 1) := by decide +kernel
theorem dX1_nextRow_1 : decode cX1_nextRow 1 = .ok (.aload_n 0, 1) := by decide +kernel
theorem dX1_nextRow_2 : decode cX1_nextRow 2 = .ok (.getfield 15, 3) := by decide +kernel
theorem dX1_nextRow_5 : decode cX1_nextRow 5 = .ok (.invokevirtual 50, 3) := by decide +kernel
theorem dX1_nextRow_8 : decode cX1_nextRow 8 = .ok (.ifCond .eq 10, 3) := by decide +kernel
theorem dX1_nextRow_11 : decode cX1_nextRow 11 = .ok (.aload_n 0, 1) := by decide +kernel
theorem dX1_nextRow_12 : decode cX1_nextRow 12 = .ok (.getfield 15, 3) := by decide +kernel
theorem dX1_nextRow_15 : decode cX1_nextRow 15 = .ok (.goto 4, 3) := by decide +kernel
theorem dX1_nextRow_18 : decode cX1_nextRow 18 = .ok (.iconst 0, 1) := by decide +kernel
theorem dX1_nextRow_19 : decode cX1_nextRow 19 = .ok (.ireturn, 1) := by decide +kernel
theorem dX1_setCursor_0 : decode cX1_setCursor 0 = .ok (.aload_n 0, 1) := by decide +kernel
theorem dX1_setCursor_1 : decode cX1_setCursor 1 = .ok (.iload_n 1, 1) := by decide +kernel
theorem dX1_setCursor_2 : decode cX1_setCursor 2 = .ok (.putfield 15, 3) := by decide +kernel
theorem dX1_setCursor_5 : decode cX1_setCursor 5 = .ok (.return_, 1) := by decide +kernel
theorem dX1_copyValues_0 : decode cX1_copyValues 0 = .ok (.iconst 0, 1) := by decide +kernel
theorem dX1_copyValues_1 : decode cX1_copyValues 1 = .ok (.istore_n 3, 1) := by decide +kernel
theorem dX1_copyValues_2 : decode cX1_copyValues 2 = .ok (.iload_n 3, 1) := by decide +kernel
theorem dX1_copyValues_3 : decode cX1_copyValues 3 = .ok (.bipush 12, 2) := by decide +kernel
theorem dX1_copyValues_5 : decode cX1_copyValues 5 = .ok (.if_icmp .ge 27, 3) := by decide +kernel
theorem dX1_copyValues_8 : decode cX1_copyValues 8 = .ok (.aload_n 2, 1) := by decide +kernel
theorem dX1_copyValues_9 : decode cX1_copyValues 9 = .ok (.iload_n 3, 1) := by decide +kernel
theorem dX1_copyValues_10 : decode cX1_copyValues 10 = .ok (.aload_n 0, 1) := by decide +kernel
theorem dX1_copyValues_11 : decode cX1_copyValues 11 = .ok (.getfield 31, 3) := by decide +kernel
theorem dX1_copyValues_14 : decode cX1_copyValues 14 = .ok (.iload_n 1, 1) := by decide +kernel
theorem dX1_copyValues_15 : decode cX1_copyValues 15 = .ok (.bipush 12, 2) := by decide +kernel
theorem dX1_copyValues_17 : decode cX1_copyValues 17 = .ok (.imul, 1) := by decide +kernel
theorem dX1_copyValues_18 : decode cX1_copyValues 18 = .ok (.iload_n 3, 1) := by decide +kernel
theorem dX1_copyValues_19 : decode cX1_copyValues 19 = .ok (.iadd, 1) := by decide +kernel
theorem dX1_copyValues_20 : decode cX1_copyValues 20 = .ok (.invokestatic 34, 3) := by decide +kernel
theorem dX1_copyValues_23 : decode cX1_copyValues 23 = .ok (.invokestatic 38, 3) := by decide +kernel
theorem dX1_copyValues_26 : decode cX1_copyValues 26 = .ok (.iinc 3 1, 3) := by decide +kernel
theorem dX1_copyValues_29 : decode cX1_copyValues 29 = .ok (.goto (-27), 3) := by decide +kernel
theorem dX1_copyValues_32 : decode cX1_copyValues 32 = .ok (.return_, 1) := by decide +kernel
theorem dX1_takeFrom_0 : decode cX1_takeFrom 0 = .ok (.aload_n 0, 1) := by decide +kernel
theorem dX1_takeFrom_1 : decode cX1_takeFrom 1 = .ok (.aload_n 1, 1) := by decide +kernel
theorem dX1_takeFrom_2 : decode cX1_takeFrom 2 = .ok (.getfield 9, 3) := by decide +kernel
theorem dX1_takeFrom_5 : decode cX1_takeFrom 5 = .ok (.putfield 9, 3) := by decide +kernel
theorem dX1_takeFrom_8 : decode cX1_takeFrom 8 = .ok (.aload_n 0, 1) := by decide +kernel
theorem dX1_takeFrom_9 : decode cX1_takeFrom 9 = .ok (.aload_n 1, 1) := by decide +kernel
theorem dX1_takeFrom_10 : decode cX1_takeFrom 10 = .ok (.getfield 15, 3) := by decide +kernel
theorem dX1_takeFrom_13 : decode cX1_takeFrom 13 = .ok (.putfield 15, 3) := by decide +kernel
theorem dX1_takeFrom_16 : decode cX1_takeFrom 16 = .ok (.aload_n 0, 1) := by decide +kernel
theorem dX1_takeFrom_17 : decode cX1_takeFrom 17 = .ok (.aload_n 1, 1) := by decide +kernel
theorem dX1_takeFrom_18 : decode cX1_takeFrom 18 = .ok (.getfield 18, 3) := by decide +kernel
theorem dX1_takeFrom_21 : decode cX1_takeFrom 21 = .ok (.putfield 18, 3) := by decide +kernel
theorem dX1_takeFrom_24 : decode cX1_takeFrom 24 = .ok (.aload_n 0, 1) := by decide +kernel
theorem dX1_takeFrom_25 : decode cX1_takeFrom 25 = .ok (.aload_n 1, 1) := by decide +kernel
theorem dX1_takeFrom_26 : decode cX1_takeFrom 26 = .ok (.getfield 21, 3) := by decide +kernel
theorem dX1_takeFrom_29 : decode cX1_takeFrom 29 = .ok (.putfield 21, 3) := by decide +kernel
theorem dX1_takeFrom_32 : decode cX1_takeFrom 32 = .ok (.aload_n 1, 1) := by decide +kernel
theorem dX1_takeFrom_33 : decode cX1_takeFrom 33 = .ok (.getfield 24, 3) := by decide +kernel
theorem dX1_takeFrom_36 : decode cX1_takeFrom 36 = .ok (.aload_n 0, 1) := by decide +kernel
theorem dX1_takeFrom_37 : decode cX1_takeFrom 37 = .ok (.getfield 24, 3) := by decide +kernel
theorem dX1_takeFrom_40 : decode cX1_takeFrom 40 = .ok (.invokestatic 54, 3) := by decide +kernel
theorem dX1_takeFrom_43 : decode cX1_takeFrom 43 = .ok (.aload_n 1, 1) := by decide +kernel
theorem dX1_takeFrom_44 : decode cX1_takeFrom 44 = .ok (.getfield 28, 3) := by decide +kernel
theorem dX1_takeFrom_47 : decode cX1_takeFrom 47 = .ok (.aload_n 0, 1) := by decide +kernel
theorem dX1_takeFrom_48 : decode cX1_takeFrom 48 = .ok (.getfield 28, 3) := by decide +kernel
theorem dX1_takeFrom_51 : decode cX1_takeFrom 51 = .ok (.invokestatic 54, 3) := by decide +kernel
theorem dX1_takeFrom_54 : decode cX1_takeFrom 54 = .ok (.aload_n 1, 1) := by decide +kernel
theorem dX1_takeFrom_55 : decode cX1_takeFrom 55 = .ok (.getfield 31, 3) := by decide +kernel
theorem dX1_takeFrom_58 : decode cX1_takeFrom 58 = .ok (.aload_n 0, 1) := by decide +kernel
theorem dX1_takeFrom_59 : decode cX1_takeFrom 59 = .ok (.getfield 31, 3) := by decide +kernel
theorem dX1_takeFrom_62 : decode cX1_takeFrom 62 = .ok (.invokestatic 54, 3) := by decide +kernel
theorem dX1_takeFrom_65 : decode cX1_takeFrom 65 = .ok (.return_, 1) := by decide +kernel
theorem dX1_moveDown_0 : decode cX1_moveDown 0 = .ok (.aload_n 0, 1) := by decide +kernel
theorem dX1_moveDown_1 : decode cX1_moveDown 1 = .ok (.getfield 24, 3) := by decide +kernel
theorem dX1_moveDown_4 : decode cX1_moveDown 4 = .ok (.iload_n 1, 1) := by decide +kernel
theorem dX1_moveDown_5 : decode cX1_moveDown 5 = .ok (.iconst 1, 1) := by decide +kernel
theorem dX1_moveDown_6 : decode cX1_moveDown 6 = .ok (.isub, 1) := by decide +kernel
theorem dX1_moveDown_7 : decode cX1_moveDown 7 = .ok (.aload_n 0, 1) := by decide +kernel
theorem dX1_moveDown_8 : decode cX1_moveDown 8 = .ok (.iload_n 1, 1) := by decide +kernel
theorem dX1_moveDown_9 : decode cX1_moveDown 9 = .ok (.invokevirtual 58, 3) := by decide +kernel
theorem dX1_moveDown_12 : decode cX1_moveDown 12 = .ok (.invokestatic 38, 3) := by decide +kernel
theorem dX1_moveDown_15 : decode cX1_moveDown 15 = .ok (.aload_n 0, 1) := by decide +kernel
theorem dX1_moveDown_16 : decode cX1_moveDown 16 = .ok (.getfield 28, 3) := by decide +kernel
theorem dX1_moveDown_19 : decode cX1_moveDown 19 = .ok (.iload_n 1, 1) := by decide +kernel
theorem dX1_moveDown_20 : decode cX1_moveDown 20 = .ok (.iconst 1, 1) := by decide +kernel
theorem dX1_moveDown_21 : decode cX1_moveDown 21 = .ok (.isub, 1) := by decide +kernel
theorem dX1_moveDown_22 : decode cX1_moveDown 22 = .ok (.aload_n 0, 1) := by decide +kernel
theorem dX1_moveDown_23 : decode cX1_moveDown 23 = .ok (.iload_n 1, 1) := by decide +kernel
theorem dX1_moveDown_24 : decode cX1_moveDown 24 = .ok (.invokevirtual 46, 3) := by decide +kernel
theorem dX1_moveDown_27 : decode cX1_moveDown 27 = .ok (.invokestatic 38, 3) := by decide +kernel
theorem dX1_moveDown_30 : decode cX1_moveDown 30 = .ok (.iconst 0, 1) := by decide +kernel
theorem dX1_moveDown_31 : decode cX1_moveDown 31 = .ok (.istore_n 2, 1) := by decide +kernel
theorem dX1_moveDown_32 : decode cX1_moveDown 32 = .ok (.iload_n 2, 1) := by decide +kernel
theorem dX1_moveDown_33 : decode cX1_moveDown 33 = .ok (.bipush 12, 2) := by decide +kernel
theorem dX1_moveDown_35 : decode cX1_moveDown 35 = .ok (.if_icmp .ge 30, 3) := by decide +kernel
theorem dX1_moveDown_38 : decode cX1_moveDown 38 = .ok (.aload_n 0, 1) := by decide +kernel
theorem dX1_moveDown_39 : decode cX1_moveDown 39 = .ok (.getfield 31, 3) := by decide +kernel
theorem dX1_moveDown_42 : decode cX1_moveDown 42 = .ok (.iload_n 1, 1) := by decide +kernel
theorem dX1_moveDown_43 : decode cX1_moveDown 43 = .ok (.iconst 1, 1) := by decide +kernel
theorem dX1_moveDown_44 : decode cX1_moveDown 44 = .ok (.isub, 1) := by decide +kernel
theorem dX1_moveDown_45 : decode cX1_moveDown 45 = .ok (.bipush 12, 2) := by decide +kernel
theorem dX1_moveDown_47 : decode cX1_moveDown 47 = .ok (.imul, 1) := by decide +kernel
theorem dX1_moveDown_48 : decode cX1_moveDown 48 = .ok (.iload_n 2, 1) := by decide +kernel
theorem dX1_moveDown_49 : decode cX1_moveDown 49 = .ok (.iadd, 1) := by decide +kernel
theorem dX1_moveDown_50 : decode cX1_moveDown 50 = .ok (.aload_n 0, 1) := by decide +kernel
theorem dX1_moveDown_51 : decode cX1_moveDown 51 = .ok (.iload_n 1, 1) := by decide +kernel
theorem dX1_moveDown_52 : decode cX1_moveDown 52 = .ok (.iload_n 2, 1) := by decide +kernel
theorem dX1_moveDown_53 : decode cX1_moveDown 53 = .ok (.invokevirtual 61, 3) := by decide +kernel
theorem dX1_moveDown_56 : decode cX1_moveDown 56 = .ok (.invokestatic 38, 3) := by decide +kernel
theorem dX1_moveDown_59 : decode cX1_moveDown 59 = .ok (.iinc 2 1, 3) := by decide +kernel
theorem dX1_moveDown_62 : decode cX1_moveDown 62 = .ok (.goto (-30), 3) := by decide +kernel
theorem dX1_moveDown_65 : decode cX1_moveDown 65 = .ok (.return_, 1) := by decide +kernel
theorem dX2_init_0 : decode cX2_init 0 = .ok (.aload_n 0, 1) := by decide +kernel
theorem dX2_init_1 : decode cX2_init 1 = .ok (.invokespecial 3, 3) := by decide +kernel
theorem dX2_init_4 : decode cX2_init 4 = .ok (.aload_n 0, 1) := by decide +kernel
theorem dX2_init_5 : decode cX2_init 5 = .ok (.iconst 1, 1) := by decide +kernel
theorem dX2_init_6 : decode cX2_init 6 = .ok (.putfield 9, 3) := by decide +kernel
theorem dX2_init_9 : decode cX2_init 9 = .ok (.aload_n 0, 1) := by decide +kernel
theorem dX2_init_10 : decode cX2_init 10 = .ok (.iconst 0, 1) := by decide +kernel
theorem dX2_init_11 : decode cX2_init 11 = .ok (.putfield 15, 3) := by decide +kernel
theorem dX2_init_14 : decode cX2_init 14 = .ok (.aload_n 0, 1) := by decide +kernel
theorem dX2_init_15 : decode cX2_init 15 = .ok (.bipush 12, 2) := by decide +kernel
theorem dX2_init_17 : decode cX2_init 17 = .ok (.newarray .int, 2) := by decide +kernel
theorem dX2_init_19 : decode cX2_init 19 = .ok (.putfield 18, 3) := by decide +kernel
theorem dX2_init_22 : decode cX2_init 22 = .ok (.aload_n 0, 1) := by decide +kernel
theorem dX2_init_23 : decode cX2_init 23 = .ok (.bipush 12, 2) := by decide +kernel
theorem dX2_init_25 : decode cX2_init 25 = .ok (.newarray .int, 2) := by decide +kernel
theorem dX2_init_27 : decode cX2_init 27 = .ok (.putfield 22, 3) := by decide +kernel
theorem dX2_init_30 : decode cX2_init 30 = .ok (.aload_n 0, 1) := by decide +kernel
theorem dX2_init_31 : decode cX2_init 31 = .ok (.bipush 12, 2) := by decide +kernel
theorem dX2_init_33 : decode cX2_init 33 = .ok (.newarray .int, 2) := by decide +kernel
theorem dX2_init_35 : decode cX2_init 35 = .ok (.putfield 25, 3) := by decide +kernel
theorem dX2_init_38 : decode cX2_init 38 = .ok (.aload_n 0, 1) := by decide +kernel
theorem dX2_init_39 : decode cX2_init 39 = .ok (.bipush 12, 2) := by decide +kernel
theorem dX2_init_41 : decode cX2_init 41 = .ok (.newarray .int, 2) := by decide +kernel
theorem dX2_init_43 : decode cX2_init 43 = .ok (.putfield 28, 3) := by decide +kernel
theorem dX2_init_46 : decode cX2_init 46 = .ok (.aload_n 0, 1) := by decide +kernel
theorem dX2_init_47 : decode cX2_init 47 = .ok (.bipush 12, 2) := by decide +kernel
theorem dX2_init_49 : decode cX2_init 49 = .ok (.newarray .int, 2) := by decide +kernel
theorem dX2_init_51 : decode cX2_init 51 = .ok (.putfield 31, 3) := by decide +kernel
theorem dX2_init_54 : decode cX2_init 54 = .ok (.aload_n 0, 1) := by decide +kernel
theorem dX2_init_55 : decode cX2_init 55 = .ok (.bipush 96, 2) := by decide +kernel
theorem dX2_init_57 : decode cX2_init 57 = .ok (.newarray .int, 2) := by decide +kernel
theorem dX2_init_59 : decode cX2_init 59 = .ok (.putfield 34, 3) := by decide +kernel
theorem dX2_init_62 : decode cX2_init 62 = .ok (.aload_n 0, 1) := by decide +kernel
theorem dX2_init_63 : decode cX2_init 63 = .ok (.bipush 96, 2) := by decide +kernel
theorem dX2_init_65 : decode cX2_init 65 = .ok (.newarray .int, 2) := by decide +kernel
theorem dX2_init_67 : decode cX2_init 67 = .ok (.putfield 37, 3) := by decide +kernel
theorem dX2_init_70 : decode cX2_init 70 = .ok (.return_, 1) := by decide +kernel
theorem dX2_size_0 : decode cX2_size 0 = .ok (.aload_n 0, 1) := by decide +kernel
theorem dX2_size_1 : decode cX2_size 1 = .ok (.getfield 9, 3) := by decide +kernel
theorem dX2_size_4 : decode cX2_size 4 = .ok (.ireturn, 1) := by decide +kernel
theorem dX2_mark_0 : decode cX2_mark 0 = .ok (.aload_n 0, 1) := by decide +kernel
theorem dX2_mark_1 : decode cX2_mark 1 = .ok (.getfield 15, 3) := by decide +kernel
theorem dX2_mark_4 : decode cX2_mark 4 = .ok (.ireturn, 1) := by decide +kernel
theorem dX2_newest_0 : decode cX2_newest 0 = .ok (.aload_n 0, 1) := by decide +kernel
theorem dX2_newest_1 : decode cX2_newest 1 = .ok (.getfield 9, 3) := by decide +kernel
theorem dX2_newest_4 : decode cX2_newest 4 = .ok (.iconst 1, 1) := by decide +kernel
theorem dX2_newest_5 : decode cX2_newest 5 = .ok (.isub, 1) := by decide +kernel
theorem dX2_newest_6 : decode cX2_newest 6 = .ok (.ireturn, 1) := by decide +kernel
theorem dX2_isThere_0 : decode cX2_isThere 0 = .ok (.iload_n 1, 1) := by decide +kernel
theorem dX2_isThere_1 : decode cX2_isThere 1 = .ok (.ifCond .lt 15, 3) := by decide +kernel
theorem dX2_isThere_4 : decode cX2_isThere 4 = .ok (.iload_n 1, 1) := by decide +kernel
theorem dX2_isThere_5 : decode cX2_isThere 5 = .ok (.aload_n 0, 1) := by decide +kernel
theorem dX2_isThere_6 : decode cX2_isThere 6 = .ok (.getfield 9, 3) := by decide +kernel
theorem dX2_isThere_9 : decode cX2_isThere 9 = .ok (.if_icmp .ge 7, 3) := by decide +kernel
theorem dX2_isThere_12 : decode cX2_isThere 12 = .ok (.iconst 1, 1) := by decide +kernel
theorem dX2_isThere_13 : decode cX2_isThere 13 = .ok (.goto 4, 3) := by decide +kernel
theorem dX2_isThere_16 : decode cX2_isThere 16 = .ok (.iconst 0, 1) := by decide +kernel
theorem dX2_isThere_17 : decode cX2_isThere 17 = .ok (.ireturn, 1) := by decide +kernel
theorem dX2_isRetired_0 : decode cX2_isRetired 0 = .ok (.iload_n 1, 1) := by decide +kernel
theorem dX2_isRetired_1 : decode cX2_isRetired 1 = .ok (.aload_n 0, 1) := by decide +kernel
theorem dX2_isRetired_2 : decode cX2_isRetired 2 = .ok (.getfield 15, 3) := by decide +kernel
theorem dX2_isRetired_5 : decode cX2_isRetired 5 = .ok (.if_icmp .ge 7, 3) := by decide +kernel
theorem dX2_isRetired_8 : decode cX2_isRetired 8 = .ok (.iconst 1, 1) := by decide +kernel
theorem dX2_isRetired_9 : decode cX2_isRetired 9 = .ok (.goto 4, 3) := by decide +kernel
theorem dX2_isRetired_12 : decode cX2_isRetired 12 = .ok (.iconst 0, 1) := by decide +kernel
theorem dX2_isRetired_13 : decode cX2_isRetired 13 = .ok (.ireturn, 1) := by decide +kernel
theorem dX2_isUsable_0 : decode cX2_isUsable 0 = .ok (.aload_n 0, 1) := by decide +kernel
theorem dX2_isUsable_1 : decode cX2_isUsable 1 = .ok (.iload_n 1, 1) := by decide +kernel
theorem dX2_isUsable_2 : decode cX2_isUsable 2 = .ok (.invokevirtual 40, 3) := by decide +kernel
theorem dX2_isUsable_5 : decode cX2_isUsable 5 = .ok (.ifCond .eq 15, 3) := by decide +kernel
theorem dX2_isUsable_8 : decode cX2_isUsable 8 = .ok (.aload_n 0, 1) := by decide +kernel
theorem dX2_isUsable_9 : decode cX2_isUsable 9 = .ok (.iload_n 1, 1) := by decide +kernel
theorem dX2_isUsable_10 : decode cX2_isUsable 10 = .ok (.invokevirtual 44, 3) := by decide +kernel
theorem dX2_isUsable_13 : decode cX2_isUsable 13 = .ok (.ifCond .ne 7, 3) := by decide +kernel
theorem dX2_isUsable_16 : decode cX2_isUsable 16 = .ok (.iconst 1, 1) := by decide +kernel
theorem dX2_isUsable_17 : decode cX2_isUsable 17 = .ok (.goto 4, 3) := by decide +kernel
theorem dX2_isUsable_20 : decode cX2_isUsable 20 = .ok (.iconst 0, 1) := by decide +kernel
theorem dX2_isUsable_21 : decode cX2_isUsable 21 = .ok (.ireturn, 1) := by decide +kernel
theorem dX2_width_0 : decode cX2_width 0 = .ok (.aload_n 0, 1) := by decide +kernel
theorem dX2_width_1 : decode cX2_width 1 = .ok (.getfield 31, 3) := by decide +kernel
theorem dX2_width_4 : decode cX2_width 4 = .ok (.iload_n 1, 1) := by decide +kernel
theorem dX2_width_5 : decode cX2_width 5 = .ok (.invokestatic 47, 3) := by decide +kernel
theorem dX2_width_8 : decode cX2_width 8 = .ok (.ireturn, 1) := by decide +kernel
theorem dX2_changeOf_0 : decode cX2_changeOf 0 = .ok (.aload_n 0, 1) := by decide +kernel
theorem dX2_changeOf_1 : decode cX2_changeOf 1 = .ok (.getfield 18, 3) := by decide +kernel
theorem dX2_changeOf_4 : decode cX2_changeOf 4 = .ok (.iload_n 1, 1) := by decide +kernel
theorem dX2_changeOf_5 : decode cX2_changeOf 5 = .ok (.invokestatic 47, 3) := by decide +kernel
theorem dX2_changeOf_8 : decode cX2_changeOf 8 = .ok (.ireturn, 1) := by decide +kernel
theorem dX2_columnAt_0 : decode cX2_columnAt 0 = .ok (.aload_n 0, 1) := by decide +kernel
theorem dX2_columnAt_1 : decode cX2_columnAt 1 = .ok (.getfield 34, 3) := by decide +kernel
theorem dX2_columnAt_4 : decode cX2_columnAt 4 = .ok (.iload_n 1, 1) := by decide +kernel
theorem dX2_columnAt_5 : decode cX2_columnAt 5 = .ok (.bipush 8, 2) := by decide +kernel
theorem dX2_columnAt_7 : decode cX2_columnAt 7 = .ok (.imul, 1) := by decide +kernel
theorem dX2_columnAt_8 : decode cX2_columnAt 8 = .ok (.iload_n 2, 1) := by decide +kernel
theorem dX2_columnAt_9 : decode cX2_columnAt 9 = .ok (.iadd, 1) := by decide +kernel
theorem dX2_columnAt_10 : decode cX2_columnAt 10 = .ok (.invokestatic 47, 3) := by decide +kernel
theorem dX2_columnAt_13 : decode cX2_columnAt 13 = .ok (.ireturn, 1) := by decide +kernel
theorem dX2_columnOfLetter_0 : decode cX2_columnOfLetter 0 = .ok (.aload_n 0, 1) := by decide +kernel
theorem dX2_columnOfLetter_1 : decode cX2_columnOfLetter 1 = .ok (.iload_n 1, 1) := by decide +kernel
theorem dX2_columnOfLetter_2 : decode cX2_columnOfLetter 2 = .ok (.iload_n 2, 1) := by decide +kernel
theorem dX2_columnOfLetter_3 : decode cX2_columnOfLetter 3 = .ok (.invokevirtual 51, 3) := by decide +kernel
theorem dX2_columnOfLetter_6 : decode cX2_columnOfLetter 6 = .ok (.istore_n 3, 1) := by decide +kernel
theorem dX2_columnOfLetter_7 : decode cX2_columnOfLetter 7 = .ok (.iload_n 3, 1) := by decide +kernel
theorem dX2_columnOfLetter_8 : decode cX2_columnOfLetter 8 = .ok (.iconst (-1), 1) := by decide +kernel
theorem dX2_columnOfLetter_9 : decode cX2_columnOfLetter 9 = .ok (.if_icmp .ne 7, 3) := by decide +kernel
theorem dX2_columnOfLetter_12 : decode cX2_columnOfLetter 12 = .ok (.iconst (-1), 1) := by decide +kernel
theorem dX2_columnOfLetter_13 : decode cX2_columnOfLetter 13 = .ok (.goto 9, 3) := by decide +kernel
theorem dX2_columnOfLetter_16 : decode cX2_columnOfLetter 16 = .ok (.aload_n 0, 1) := by decide +kernel
theorem dX2_columnOfLetter_17 : decode cX2_columnOfLetter 17 = .ok (.iload_n 1, 1) := by decide +kernel
theorem dX2_columnOfLetter_18 : decode cX2_columnOfLetter 18 = .ok (.iload_n 3, 1) := by decide +kernel
theorem dX2_columnOfLetter_19 : decode cX2_columnOfLetter 19 = .ok (.invokevirtual 55, 3) := by decide +kernel
theorem dX2_columnOfLetter_22 : decode cX2_columnOfLetter 22 = .ok (.ireturn, 1) := by decide +kernel
theorem dX2_hasColumn_0 : decode cX2_hasColumn 0 = .ok (.aload_n 0, 1) := by decide +kernel
theorem dX2_hasColumn_1 : decode cX2_hasColumn 1 = .ok (.iload_n 1, 1) := by decide +kernel
theorem dX2_hasColumn_2 : decode cX2_hasColumn 2 = .ok (.iload_n 2, 1) := by decide +kernel
theorem dX2_hasColumn_3 : decode cX2_hasColumn 3 = .ok (.invokevirtual 58, 3) := by decide +kernel
theorem dX2_hasColumn_6 : decode cX2_hasColumn 6 = .ok (.iconst (-1), 1) := by decide +kernel
theorem dX2_hasColumn_7 : decode cX2_hasColumn 7 = .ok (.if_icmp .eq 7, 3) := by decide +kernel
theorem dX2_hasColumn_10 : decode cX2_hasColumn 10 = .ok (.iconst 1, 1) := by decide +kernel
theorem dX2_hasColumn_11 : decode cX2_hasColumn 11 = .ok (.goto 4, 3) := by decide +kernel
theorem dX2_hasColumn_14 : decode cX2_hasColumn 14 = .ok (.iconst 0, 1) := by decide +kernel
theorem dX2_hasColumn_15 : decode cX2_hasColumn 15 = .ok (.ireturn, 1) := by decide +kernel
theorem dX2_letterMask_0 : decode cX2_letterMask 0 = .ok (.iconst 0, 1) := by decide +kernel
theorem dX2_letterMask_1 : decode cX2_letterMask 1 = .ok (.istore_n 2, 1) := by decide +kernel
theorem dX2_letterMask_2 : decode cX2_letterMask 2 = .ok (.iconst 0, 1) := by decide +kernel
theorem dX2_letterMask_3 : decode cX2_letterMask 3 = .ok (.istore_n 3, 1) := by decide +kernel
theorem dX2_letterMask_4 : decode cX2_letterMask 4 = .ok (.iload_n 3, 1) := by decide +kernel
theorem dX2_letterMask_5 : decode cX2_letterMask 5 = .ok (.bipush 8, 2) := by decide +kernel
theorem dX2_letterMask_7 : decode cX2_letterMask 7 = .ok (.if_icmp .ge 25, 3) := by decide +kernel
theorem dX2_letterMask_10 : decode cX2_letterMask 10 = .ok (.aload_n 0, 1) := by decide +kernel
theorem dX2_letterMask_11 : decode cX2_letterMask 11 = .ok (.iload_n 1, 1) := by decide +kernel
theorem dX2_letterMask_12 : decode cX2_letterMask 12 = .ok (.iload_n 3, 1) := by decide +kernel
theorem dX2_letterMask_13 : decode cX2_letterMask 13 = .ok (.invokevirtual 51, 3) := by decide +kernel
theorem dX2_letterMask_16 : decode cX2_letterMask 16 = .ok (.iconst (-1), 1) := by decide +kernel
theorem dX2_letterMask_17 : decode cX2_letterMask 17 = .ok (.if_icmp .eq 9, 3) := by decide +kernel
theorem dX2_letterMask_20 : decode cX2_letterMask 20 = .ok (.iload_n 2, 1) := by decide +kernel
theorem dX2_letterMask_21 : decode cX2_letterMask 21 = .ok (.iconst 1, 1) := by decide +kernel
theorem dX2_letterMask_22 : decode cX2_letterMask 22 = .ok (.iload_n 3, 1) := by decide +kernel
theorem dX2_letterMask_23 : decode cX2_letterMask 23 = .ok (.ishl, 1) := by decide +kernel
theorem dX2_letterMask_24 : decode cX2_letterMask 24 = .ok (.ior, 1) := by decide +kernel
theorem dX2_letterMask_25 : decode cX2_letterMask 25 = .ok (.istore_n 2, 1) := by decide +kernel
theorem dX2_letterMask_26 : decode cX2_letterMask 26 = .ok (.iinc 3 1, 3) := by decide +kernel
theorem dX2_letterMask_29 : decode cX2_letterMask 29 = .ok (.goto (-25), 3) := by decide +kernel
theorem dX2_letterMask_32 : decode cX2_letterMask 32 = .ok (.iload_n 2, 1) := by decide +kernel
theorem dX2_letterMask_33 : decode cX2_letterMask 33 = .ok (.ireturn, 1) := by decide +kernel
theorem dX2_columnProperty_0 : decode cX2_columnProperty 0 = .ok (.iload_n 2, 1) := by decide +kernel
theorem dX2_columnProperty_1 : decode cX2_columnProperty 1 = .ok (.ifCond .lt 12, 3) := by decide +kernel
theorem dX2_columnProperty_4 : decode cX2_columnProperty 4 = .ok (.iload_n 2, 1) := by decide +kernel
theorem dX2_columnProperty_5 : decode cX2_columnProperty 5 = .ok (.aload_n 0, 1) := by decide +kernel
theorem dX2_columnProperty_6 : decode cX2_columnProperty 6 = .ok (.iload_n 1, 1) := by decide +kernel
theorem dX2_columnProperty_7 : decode cX2_columnProperty 7 = .ok (.invokevirtual 61, 3) := by decide +kernel
theorem dX2_columnProperty_10 : decode cX2_columnProperty 10 = .ok (.if_icmp .lt 5, 3) := by decide +kernel
theorem dX2_columnProperty_13 : decode cX2_columnProperty 13 = .ok (.iconst (-1), 1) := by decide +kernel
theorem dX2_columnProperty_14 : decode cX2_columnProperty 14 = .ok (.ireturn, 1) := by decide +kernel
theorem dX2_columnProperty_15 : decode cX2_columnProperty 15 = .ok (.iload_n 3, 1) := by decide +kernel
theorem dX2_columnProperty_16 : decode cX2_columnProperty 16 = .ok (.lookupswitch 42 #[(0, 28), (1, 35)], 28) := by decide +kernel
theorem dX2_columnProperty_44 : decode cX2_columnProperty 44 = .ok (.aload_n 0, 1) := by decide +kernel
theorem dX2_columnProperty_45 : decode cX2_columnProperty 45 = .ok (.iload_n 1, 1) := by decide +kernel
theorem dX2_columnProperty_46 : decode cX2_columnProperty 46 = .ok (.iload_n 2, 1) := by decide +kernel
theorem dX2_columnProperty_47 : decode cX2_columnProperty 47 = .ok (.invokevirtual 65, 3) := by decide +kernel
theorem dX2_columnProperty_50 : decode cX2_columnProperty 50 = .ok (.ireturn, 1) := by decide +kernel
theorem dX2_columnProperty_51 : decode cX2_columnProperty 51 = .ok (.aload_n 0, 1) := by decide +kernel
theorem dX2_columnProperty_52 : decode cX2_columnProperty 52 = .ok (.iload_n 1, 1) := by decide +kernel
theorem dX2_columnProperty_53 : decode cX2_columnProperty 53 = .ok (.iload_n 2, 1) := by decide +kernel
theorem dX2_columnProperty_54 : decode cX2_columnProperty 54 = .ok (.invokevirtual 55, 3) := by decide +kernel
theorem dX2_columnProperty_57 : decode cX2_columnProperty 57 = .ok (.ireturn, 1) := by decide +kernel
theorem dX2_columnProperty_58 : decode cX2_columnProperty 58 = .ok (.aload_n 0, 1) := by decide +kernel
theorem dX2_columnProperty_59 : decode cX2_columnProperty 59 = .ok (.aload_n 0, 1) := by decide +kernel
theorem dX2_columnProperty_60 : decode cX2_columnProperty 60 = .ok (.invokevirtual 68, 3) := by decide +kernel
theorem dX2_columnProperty_63 : decode cX2_columnProperty 63 = .ok (.aload_n 0, 1) := by decide +kernel
theorem dX2_columnProperty_64 : decode cX2_columnProperty 64 = .ok (.iload_n 1, 1) := by decide +kernel
theorem dX2_columnProperty_65 : decode cX2_columnProperty 65 = .ok (.iload_n 2, 1) := by decide +kernel
theorem dX2_columnProperty_66 : decode cX2_columnProperty 66 = .ok (.invokevirtual 55, 3) := by decide +kernel
theorem dX2_columnProperty_69 : decode cX2_columnProperty 69 = .ok (.invokevirtual 58, 3) := by decide +kernel
theorem dX2_columnProperty_72 : decode cX2_columnProperty 72 = .ok (.ireturn, 1) := by decide +kernel
theorem dX2_canAdd_0 : decode cX2_canAdd 0 = .ok (.aload_n 0, 1) := by decide +kernel
theorem dX2_canAdd_1 : decode cX2_canAdd 1 = .ok (.invokevirtual 72, 3) := by decide +kernel
theorem dX2_canAdd_4 : decode cX2_canAdd 4 = .ok (.ifCond .ne 15, 3) := by decide +kernel
theorem dX2_canAdd_7 : decode cX2_canAdd 7 = .ok (.aload_n 0, 1) := by decide +kernel
theorem dX2_canAdd_8 : decode cX2_canAdd 8 = .ok (.iload_n 1, 1) := by decide +kernel
theorem dX2_canAdd_9 : decode cX2_canAdd 9 = .ok (.invokevirtual 76, 3) := by decide +kernel
theorem dX2_canAdd_12 : decode cX2_canAdd 12 = .ok (.ifCond .ne 7, 3) := by decide +kernel
theorem dX2_canAdd_15 : decode cX2_canAdd 15 = .ok (.iconst 1, 1) := by decide +kernel
theorem dX2_canAdd_16 : decode cX2_canAdd 16 = .ok (.goto 4, 3) := by decide +kernel
theorem dX2_canAdd_19 : decode cX2_canAdd 19 = .ok (.iconst 0, 1) := by decide +kernel
theorem dX2_canAdd_20 : decode cX2_canAdd 20 = .ok (.ireturn, 1) := by decide +kernel
theorem dX2_canAddFrom_0 : decode cX2_canAddFrom 0 = .ok (.aload_n 0, 1) := by decide +kernel
theorem dX2_canAddFrom_1 : decode cX2_canAddFrom 1 = .ok (.invokevirtual 72, 3) := by decide +kernel
theorem dX2_canAddFrom_4 : decode cX2_canAddFrom 4 = .ok (.ifCond .ne 36, 3) := by decide +kernel
theorem dX2_canAddFrom_7 : decode cX2_canAddFrom 7 = .ok (.aload_n 0, 1) := by decide +kernel
theorem dX2_canAddFrom_8 : decode cX2_canAddFrom 8 = .ok (.iload_n 1, 1) := by decide +kernel
theorem dX2_canAddFrom_9 : decode cX2_canAddFrom 9 = .ok (.invokevirtual 76, 3) := by decide +kernel
theorem dX2_canAddFrom_12 : decode cX2_canAddFrom 12 = .ok (.ifCond .ne 28, 3) := by decide +kernel
theorem dX2_canAddFrom_15 : decode cX2_canAddFrom 15 = .ok (.aload_n 0, 1) := by decide +kernel
theorem dX2_canAddFrom_16 : decode cX2_canAddFrom 16 = .ok (.iload_n 2, 1) := by decide +kernel
theorem dX2_canAddFrom_17 : decode cX2_canAddFrom 17 = .ok (.invokevirtual 76, 3) := by decide +kernel
theorem dX2_canAddFrom_20 : decode cX2_canAddFrom 20 = .ok (.ifCond .eq 20, 3) := by decide +kernel
theorem dX2_canAddFrom_23 : decode cX2_canAddFrom 23 = .ok (.iload_n 3, 1) := by decide +kernel
theorem dX2_canAddFrom_24 : decode cX2_canAddFrom 24 = .ok (.iconst (-1), 1) := by decide +kernel
theorem dX2_canAddFrom_25 : decode cX2_canAddFrom 25 = .ok (.if_icmp .eq 11, 3) := by decide +kernel
theorem dX2_canAddFrom_28 : decode cX2_canAddFrom 28 = .ok (.aload_n 0, 1) := by decide +kernel
theorem dX2_canAddFrom_29 : decode cX2_canAddFrom 29 = .ok (.iload_n 3, 1) := by decide +kernel
theorem dX2_canAddFrom_30 : decode cX2_canAddFrom 30 = .ok (.invokevirtual 76, 3) := by decide +kernel
theorem dX2_canAddFrom_33 : decode cX2_canAddFrom 33 = .ok (.ifCond .eq 7, 3) := by decide +kernel
theorem dX2_canAddFrom_36 : decode cX2_canAddFrom 36 = .ok (.iconst 1, 1) := by decide +kernel
theorem dX2_canAddFrom_37 : decode cX2_canAddFrom 37 = .ok (.goto 4, 3) := by decide +kernel
theorem dX2_canAddFrom_40 : decode cX2_canAddFrom 40 = .ok (.iconst 0, 1) := by decide +kernel
theorem dX2_canAddFrom_41 : decode cX2_canAddFrom 41 = .ok (.ireturn, 1) := by decide +kernel
theorem dX2_canDrop_0 : decode cX2_canDrop 0 = .ok (.aload_n 0, 1) := by decide +kernel
theorem dX2_canDrop_1 : decode cX2_canDrop 1 = .ok (.invokevirtual 72, 3) := by decide +kernel
theorem dX2_canDrop_4 : decode cX2_canDrop 4 = .ok (.ifCond .ne 15, 3) := by decide +kernel
theorem dX2_canDrop_7 : decode cX2_canDrop 7 = .ok (.aload_n 0, 1) := by decide +kernel
theorem dX2_canDrop_8 : decode cX2_canDrop 8 = .ok (.iload_n 1, 1) := by decide +kernel
theorem dX2_canDrop_9 : decode cX2_canDrop 9 = .ok (.invokevirtual 76, 3) := by decide +kernel
theorem dX2_canDrop_12 : decode cX2_canDrop 12 = .ok (.ifCond .eq 7, 3) := by decide +kernel
theorem dX2_canDrop_15 : decode cX2_canDrop 15 = .ok (.iconst 1, 1) := by decide +kernel
theorem dX2_canDrop_16 : decode cX2_canDrop 16 = .ok (.goto 4, 3) := by decide +kernel
theorem dX2_canDrop_19 : decode cX2_canDrop 19 = .ok (.iconst 0, 1) := by decide +kernel
theorem dX2_canDrop_20 : decode cX2_canDrop 20 = .ok (.ireturn, 1) := by decide +kernel
theorem dX2_canRename_0 : decode cX2_canRename 0 = .ok (.aload_n 0, 1) := by decide +kernel
theorem dX2_canRename_1 : decode cX2_canRename 1 = .ok (.invokevirtual 72, 3) := by decide +kernel
theorem dX2_canRename_4 : decode cX2_canRename 4 = .ok (.ifCond .ne 23, 3) := by decide +kernel
theorem dX2_canRename_7 : decode cX2_canRename 7 = .ok (.aload_n 0, 1) := by decide +kernel
theorem dX2_canRename_8 : decode cX2_canRename 8 = .ok (.iload_n 1, 1) := by decide +kernel
theorem dX2_canRename_9 : decode cX2_canRename 9 = .ok (.invokevirtual 76, 3) := by decide +kernel
theorem dX2_canRename_12 : decode cX2_canRename 12 = .ok (.ifCond .eq 15, 3) := by decide +kernel
theorem dX2_canRename_15 : decode cX2_canRename 15 = .ok (.aload_n 0, 1) := by decide +kernel
theorem dX2_canRename_16 : decode cX2_canRename 16 = .ok (.iload_n 2, 1) := by decide +kernel
theorem dX2_canRename_17 : decode cX2_canRename 17 = .ok (.invokevirtual 76, 3) := by decide +kernel
theorem dX2_canRename_20 : decode cX2_canRename 20 = .ok (.ifCond .ne 7, 3) := by decide +kernel
theorem dX2_canRename_23 : decode cX2_canRename 23 = .ok (.iconst 1, 1) := by decide +kernel
theorem dX2_canRename_24 : decode cX2_canRename 24 = .ok (.goto 4, 3) := by decide +kernel
theorem dX2_canRename_27 : decode cX2_canRename 27 = .ok (.iconst 0, 1) := by decide +kernel
theorem dX2_canRename_28 : decode cX2_canRename 28 = .ok (.ireturn, 1) := by decide +kernel
theorem dX2_extendByNumber_0 : decode cX2_extendByNumber 0 = .ok (.aload_n 0, 1) := by decide +kernel
theorem dX2_extendByNumber_1 : decode cX2_extendByNumber 1 = .ok (.iconst 1, 1) := by decide +kernel
theorem dX2_extendByNumber_2 : decode cX2_extendByNumber 2 = .ok (.invokevirtual 79, 3) := by decide +kernel
theorem dX2_extendByNumber_5 : decode cX2_extendByNumber 5 = .ok (.istore_n 3, 1) := by decide +kernel
theorem dX2_extendByNumber_6 : decode cX2_extendByNumber 6 = .ok (.aload_n 0, 1) := by decide +kernel
theorem dX2_extendByNumber_7 : decode cX2_extendByNumber 7 = .ok (.getfield 22, 3) := by decide +kernel
theorem dX2_extendByNumber_10 : decode cX2_extendByNumber 10 = .ok (.iload_n 3, 1) := by decide +kernel
theorem dX2_extendByNumber_11 : decode cX2_extendByNumber 11 = .ok (.iload_n 2, 1) := by decide +kernel
theorem dX2_extendByNumber_12 : decode cX2_extendByNumber 12 = .ok (.invokestatic 82, 3) := by decide +kernel
theorem dX2_extendByNumber_15 : decode cX2_extendByNumber 15 = .ok (.aload_n 0, 1) := by decide +kernel
theorem dX2_extendByNumber_16 : decode cX2_extendByNumber 16 = .ok (.iload_n 3, 1) := by decide +kernel
theorem dX2_extendByNumber_17 : decode cX2_extendByNumber 17 = .ok (.iload_n 1, 1) := by decide +kernel
theorem dX2_extendByNumber_18 : decode cX2_extendByNumber 18 = .ok (.invokevirtual 86, 3) := by decide +kernel
theorem dX2_extendByNumber_21 : decode cX2_extendByNumber 21 = .ok (.iload_n 3, 1) := by decide +kernel
theorem dX2_extendByNumber_22 : decode cX2_extendByNumber 22 = .ok (.ireturn, 1) := by decide +kernel
theorem dX2_extendFrom_0 : decode cX2_extendFrom 0 = .ok (.aload_n 0, 1) := by decide +kernel
theorem dX2_extendFrom_1 : decode cX2_extendFrom 1 = .ok (.aload_n 0, 1) := by decide +kernel
theorem dX2_extendFrom_2 : decode cX2_extendFrom 2 = .ok (.invokevirtual 68, 3) := by decide +kernel
theorem dX2_extendFrom_5 : decode cX2_extendFrom 5 = .ok (.iload_n 2, 1) := by decide +kernel
theorem dX2_extendFrom_6 : decode cX2_extendFrom 6 = .ok (.invokevirtual 90, 3) := by decide +kernel
theorem dX2_extendFrom_9 : decode cX2_extendFrom 9 = .ok (.istore 4, 2) := by decide +kernel
theorem dX2_extendFrom_11 : decode cX2_extendFrom 11 = .ok (.aload_n 0, 1) := by decide +kernel
theorem dX2_extendFrom_12 : decode cX2_extendFrom 12 = .ok (.aload_n 0, 1) := by decide +kernel
theorem dX2_extendFrom_13 : decode cX2_extendFrom 13 = .ok (.invokevirtual 68, 3) := by decide +kernel
theorem dX2_extendFrom_16 : decode cX2_extendFrom 16 = .ok (.iload_n 3, 1) := by decide +kernel
theorem dX2_extendFrom_17 : decode cX2_extendFrom 17 = .ok (.invokevirtual 90, 3) := by decide +kernel
theorem dX2_extendFrom_20 : decode cX2_extendFrom 20 = .ok (.istore 5, 2) := by decide +kernel
theorem dX2_extendFrom_22 : decode cX2_extendFrom 22 = .ok (.aload_n 0, 1) := by decide +kernel
theorem dX2_extendFrom_23 : decode cX2_extendFrom 23 = .ok (.iload_n 3, 1) := by decide +kernel
theorem dX2_extendFrom_24 : decode cX2_extendFrom 24 = .ok (.iconst (-1), 1) := by decide +kernel
theorem dX2_extendFrom_25 : decode cX2_extendFrom 25 = .ok (.if_icmp .ne 7, 3) := by decide +kernel
theorem dX2_extendFrom_28 : decode cX2_extendFrom 28 = .ok (.iconst 2, 1) := by decide +kernel
theorem dX2_extendFrom_29 : decode cX2_extendFrom 29 = .ok (.goto 4, 3) := by decide +kernel
theorem dX2_extendFrom_32 : decode cX2_extendFrom 32 = .ok (.iconst 3, 1) := by decide +kernel
theorem dX2_extendFrom_33 : decode cX2_extendFrom 33 = .ok (.invokevirtual 79, 3) := by decide +kernel
theorem dX2_extendFrom_36 : decode cX2_extendFrom 36 = .ok (.istore 6, 2) := by decide +kernel
theorem dX2_extendFrom_38 : decode cX2_extendFrom 38 = .ok (.aload_n 0, 1) := by decide +kernel
theorem dX2_extendFrom_39 : decode cX2_extendFrom 39 = .ok (.getfield 25, 3) := by decide +kernel
theorem dX2_extendFrom_42 : decode cX2_extendFrom 42 = .ok (.iload 6, 2) := by decide +kernel
theorem dX2_extendFrom_44 : decode cX2_extendFrom 44 = .ok (.iload 4, 2) := by decide +kernel
theorem dX2_extendFrom_46 : decode cX2_extendFrom 46 = .ok (.invokestatic 82, 3) := by decide +kernel
theorem dX2_extendFrom_49 : decode cX2_extendFrom 49 = .ok (.aload_n 0, 1) := by decide +kernel
theorem dX2_extendFrom_50 : decode cX2_extendFrom 50 = .ok (.getfield 28, 3) := by decide +kernel
theorem dX2_extendFrom_53 : decode cX2_extendFrom 53 = .ok (.iload 6, 2) := by decide +kernel
theorem dX2_extendFrom_55 : decode cX2_extendFrom 55 = .ok (.iload 5, 2) := by decide +kernel
theorem dX2_extendFrom_57 : decode cX2_extendFrom 57 = .ok (.invokestatic 82, 3) := by decide +kernel
theorem dX2_extendFrom_60 : decode cX2_extendFrom 60 = .ok (.aload_n 0, 1) := by decide +kernel
theorem dX2_extendFrom_61 : decode cX2_extendFrom 61 = .ok (.iload 6, 2) := by decide +kernel
theorem dX2_extendFrom_63 : decode cX2_extendFrom 63 = .ok (.iload_n 1, 1) := by decide +kernel
theorem dX2_extendFrom_64 : decode cX2_extendFrom 64 = .ok (.invokevirtual 86, 3) := by decide +kernel
theorem dX2_extendFrom_67 : decode cX2_extendFrom 67 = .ok (.iload 6, 2) := by decide +kernel
theorem dX2_extendFrom_69 : decode cX2_extendFrom 69 = .ok (.ireturn, 1) := by decide +kernel
theorem dX2_leaveOut_0 : decode cX2_leaveOut 0 = .ok (.aload_n 0, 1) := by decide +kernel
theorem dX2_leaveOut_1 : decode cX2_leaveOut 1 = .ok (.aload_n 0, 1) := by decide +kernel
theorem dX2_leaveOut_2 : decode cX2_leaveOut 2 = .ok (.invokevirtual 68, 3) := by decide +kernel
theorem dX2_leaveOut_5 : decode cX2_leaveOut 5 = .ok (.iload_n 1, 1) := by decide +kernel
theorem dX2_leaveOut_6 : decode cX2_leaveOut 6 = .ok (.invokevirtual 51, 3) := by decide +kernel
theorem dX2_leaveOut_9 : decode cX2_leaveOut 9 = .ok (.istore_n 3, 1) := by decide +kernel
theorem dX2_leaveOut_10 : decode cX2_leaveOut 10 = .ok (.aload_n 0, 1) := by decide +kernel
theorem dX2_leaveOut_11 : decode cX2_leaveOut 11 = .ok (.aload_n 0, 1) := by decide +kernel
theorem dX2_leaveOut_12 : decode cX2_leaveOut 12 = .ok (.invokevirtual 68, 3) := by decide +kernel
theorem dX2_leaveOut_15 : decode cX2_leaveOut 15 = .ok (.iload_n 3, 1) := by decide +kernel
theorem dX2_leaveOut_16 : decode cX2_leaveOut 16 = .ok (.invokevirtual 55, 3) := by decide +kernel
theorem dX2_leaveOut_19 : decode cX2_leaveOut 19 = .ok (.istore 4, 2) := by decide +kernel
theorem dX2_leaveOut_21 : decode cX2_leaveOut 21 = .ok (.aload_n 0, 1) := by decide +kernel
theorem dX2_leaveOut_22 : decode cX2_leaveOut 22 = .ok (.iconst 4, 1) := by decide +kernel
theorem dX2_leaveOut_23 : decode cX2_leaveOut 23 = .ok (.invokevirtual 79, 3) := by decide +kernel
theorem dX2_leaveOut_26 : decode cX2_leaveOut 26 = .ok (.istore 5, 2) := by decide +kernel
theorem dX2_leaveOut_28 : decode cX2_leaveOut 28 = .ok (.aload_n 0, 1) := by decide +kernel
theorem dX2_leaveOut_29 : decode cX2_leaveOut 29 = .ok (.getfield 25, 3) := by decide +kernel
theorem dX2_leaveOut_32 : decode cX2_leaveOut 32 = .ok (.iload 5, 2) := by decide +kernel
theorem dX2_leaveOut_34 : decode cX2_leaveOut 34 = .ok (.iload 4, 2) := by decide +kernel
theorem dX2_leaveOut_36 : decode cX2_leaveOut 36 = .ok (.invokestatic 82, 3) := by decide +kernel
theorem dX2_leaveOut_39 : decode cX2_leaveOut 39 = .ok (.aload_n 0, 1) := by decide +kernel
theorem dX2_leaveOut_40 : decode cX2_leaveOut 40 = .ok (.getfield 22, 3) := by decide +kernel
theorem dX2_leaveOut_43 : decode cX2_leaveOut 43 = .ok (.iload 5, 2) := by decide +kernel
theorem dX2_leaveOut_45 : decode cX2_leaveOut 45 = .ok (.iload_n 2, 1) := by decide +kernel
theorem dX2_leaveOut_46 : decode cX2_leaveOut 46 = .ok (.invokestatic 82, 3) := by decide +kernel
theorem dX2_leaveOut_49 : decode cX2_leaveOut 49 = .ok (.aload_n 0, 1) := by decide +kernel
theorem dX2_leaveOut_50 : decode cX2_leaveOut 50 = .ok (.iload 5, 2) := by decide +kernel
theorem dX2_leaveOut_52 : decode cX2_leaveOut 52 = .ok (.iload_n 3, 1) := by decide +kernel
theorem dX2_leaveOut_53 : decode cX2_leaveOut 53 = .ok (.invokevirtual 93, 3) := by decide +kernel
theorem dX2_leaveOut_56 : decode cX2_leaveOut 56 = .ok (.iload 5, 2) := by decide +kernel
theorem dX2_leaveOut_58 : decode cX2_leaveOut 58 = .ok (.ireturn, 1) := by decide +kernel
theorem dX2_exchangeLetter_0 : decode cX2_exchangeLetter 0 = .ok (.aload_n 0, 1) := by decide +kernel
theorem dX2_exchangeLetter_1 : decode cX2_exchangeLetter 1 = .ok (.aload_n 0, 1) := by decide +kernel
theorem dX2_exchangeLetter_2 : decode cX2_exchangeLetter 2 = .ok (.invokevirtual 68, 3) := by decide +kernel
theorem dX2_exchangeLetter_5 : decode cX2_exchangeLetter 5 = .ok (.iload_n 1, 1) := by decide +kernel
theorem dX2_exchangeLetter_6 : decode cX2_exchangeLetter 6 = .ok (.invokevirtual 51, 3) := by decide +kernel
theorem dX2_exchangeLetter_9 : decode cX2_exchangeLetter 9 = .ok (.istore_n 3, 1) := by decide +kernel
theorem dX2_exchangeLetter_10 : decode cX2_exchangeLetter 10 = .ok (.aload_n 0, 1) := by decide +kernel
theorem dX2_exchangeLetter_11 : decode cX2_exchangeLetter 11 = .ok (.iconst 5, 1) := by decide +kernel
theorem dX2_exchangeLetter_12 : decode cX2_exchangeLetter 12 = .ok (.invokevirtual 79, 3) := by decide +kernel
theorem dX2_exchangeLetter_15 : decode cX2_exchangeLetter 15 = .ok (.istore 4, 2) := by decide +kernel
theorem dX2_exchangeLetter_17 : decode cX2_exchangeLetter 17 = .ok (.aload_n 0, 1) := by decide +kernel
theorem dX2_exchangeLetter_18 : decode cX2_exchangeLetter 18 = .ok (.getfield 37, 3) := by decide +kernel
theorem dX2_exchangeLetter_21 : decode cX2_exchangeLetter 21 = .ok (.iload 4, 2) := by decide +kernel
theorem dX2_exchangeLetter_23 : decode cX2_exchangeLetter 23 = .ok (.bipush 8, 2) := by decide +kernel
theorem dX2_exchangeLetter_25 : decode cX2_exchangeLetter 25 = .ok (.imul, 1) := by decide +kernel
theorem dX2_exchangeLetter_26 : decode cX2_exchangeLetter 26 = .ok (.iload_n 3, 1) := by decide +kernel
theorem dX2_exchangeLetter_27 : decode cX2_exchangeLetter 27 = .ok (.iadd, 1) := by decide +kernel
theorem dX2_exchangeLetter_28 : decode cX2_exchangeLetter 28 = .ok (.iload_n 2, 1) := by decide +kernel
theorem dX2_exchangeLetter_29 : decode cX2_exchangeLetter 29 = .ok (.invokestatic 82, 3) := by decide +kernel
theorem dX2_exchangeLetter_32 : decode cX2_exchangeLetter 32 = .ok (.iload 4, 2) := by decide +kernel
theorem dX2_exchangeLetter_34 : decode cX2_exchangeLetter 34 = .ok (.ireturn, 1) := by decide +kernel
theorem dX2_setMark_0 : decode cX2_setMark 0 = .ok (.aload_n 0, 1) := by decide +kernel
theorem dX2_setMark_1 : decode cX2_setMark 1 = .ok (.iload_n 1, 1) := by decide +kernel
theorem dX2_setMark_2 : decode cX2_setMark 2 = .ok (.putfield 15, 3) := by decide +kernel
theorem dX2_setMark_5 : decode cX2_setMark 5 = .ok (.aload_n 0, 1) := by decide +kernel
theorem dX2_setMark_6 : decode cX2_setMark 6 = .ok (.getfield 9, 3) := by decide +kernel
theorem dX2_setMark_9 : decode cX2_setMark 9 = .ok (.aload_n 0, 1) := by decide +kernel
theorem dX2_setMark_10 : decode cX2_setMark 10 = .ok (.getfield 15, 3) := by decide +kernel
theorem dX2_setMark_13 : decode cX2_setMark 13 = .ok (.isub, 1) := by decide +kernel
theorem dX2_setMark_14 : decode cX2_setMark 14 = .ok (.ireturn, 1) := by decide +kernel
theorem dX2_carryForth_0 : decode cX2_carryForth 0 = .ok (.iload_n 2, 1) := by decide +kernel
theorem dX2_carryForth_1 : decode cX2_carryForth 1 = .ok (.iconst 1, 1) := by decide +kernel
theorem dX2_carryForth_2 : decode cX2_carryForth 2 = .ok (.iadd, 1) := by decide +kernel
theorem dX2_carryForth_3 : decode cX2_carryForth 3 = .ok (.istore 4, 2) := by decide +kernel
theorem dX2_carryForth_5 : decode cX2_carryForth 5 = .ok (.iload 4, 2) := by decide +kernel
theorem dX2_carryForth_7 : decode cX2_carryForth 7 = .ok (.iload_n 3, 1) := by decide +kernel
theorem dX2_carryForth_8 : decode cX2_carryForth 8 = .ok (.if_icmp .gt 117, 3) := by decide +kernel
theorem dX2_carryForth_11 : decode cX2_carryForth 11 = .ok (.aload_n 1, 1) := by decide +kernel
theorem dX2_carryForth_12 : decode cX2_carryForth 12 = .ok (.aload_n 0, 1) := by decide +kernel
theorem dX2_carryForth_13 : decode cX2_carryForth 13 = .ok (.getfield 25, 3) := by decide +kernel
theorem dX2_carryForth_16 : decode cX2_carryForth 16 = .ok (.iload 4, 2) := by decide +kernel
theorem dX2_carryForth_18 : decode cX2_carryForth 18 = .ok (.invokestatic 47, 3) := by decide +kernel
theorem dX2_carryForth_21 : decode cX2_carryForth 21 = .ok (.invokestatic 47, 3) := by decide +kernel
theorem dX2_carryForth_24 : decode cX2_carryForth 24 = .ok (.istore 5, 2) := by decide +kernel
theorem dX2_carryForth_26 : decode cX2_carryForth 26 = .ok (.aload_n 0, 1) := by decide +kernel
theorem dX2_carryForth_27 : decode cX2_carryForth 27 = .ok (.getfield 18, 3) := by decide +kernel
theorem dX2_carryForth_30 : decode cX2_carryForth 30 = .ok (.iload 4, 2) := by decide +kernel
theorem dX2_carryForth_32 : decode cX2_carryForth 32 = .ok (.invokestatic 47, 3) := by decide +kernel
theorem dX2_carryForth_35 : decode cX2_carryForth 35 = .ok (.tableswitch 84 1 3 #[25, 43, 54], 25) := by decide +kernel
theorem dX2_carryForth_60 : decode cX2_carryForth 60 = .ok (.aload_n 1, 1) := by decide +kernel
theorem dX2_carryForth_61 : decode cX2_carryForth 61 = .ok (.iload 4, 2) := by decide +kernel
theorem dX2_carryForth_63 : decode cX2_carryForth 63 = .ok (.aload_n 0, 1) := by decide +kernel
theorem dX2_carryForth_64 : decode cX2_carryForth 64 = .ok (.getfield 22, 3) := by decide +kernel
theorem dX2_carryForth_67 : decode cX2_carryForth 67 = .ok (.iload 4, 2) := by decide +kernel
theorem dX2_carryForth_69 : decode cX2_carryForth 69 = .ok (.invokestatic 47, 3) := by decide +kernel
theorem dX2_carryForth_72 : decode cX2_carryForth 72 = .ok (.invokestatic 82, 3) := by decide +kernel
theorem dX2_carryForth_75 : decode cX2_carryForth 75 = .ok (.goto 44, 3) := by decide +kernel
theorem dX2_carryForth_78 : decode cX2_carryForth 78 = .ok (.aload_n 1, 1) := by decide +kernel
theorem dX2_carryForth_79 : decode cX2_carryForth 79 = .ok (.iload 4, 2) := by decide +kernel
theorem dX2_carryForth_81 : decode cX2_carryForth 81 = .ok (.iload 5, 2) := by decide +kernel
theorem dX2_carryForth_83 : decode cX2_carryForth 83 = .ok (.invokestatic 82, 3) := by decide +kernel
theorem dX2_carryForth_86 : decode cX2_carryForth 86 = .ok (.goto 33, 3) := by decide +kernel
theorem dX2_carryForth_89 : decode cX2_carryForth 89 = .ok (.aload_n 1, 1) := by decide +kernel
theorem dX2_carryForth_90 : decode cX2_carryForth 90 = .ok (.iload 4, 2) := by decide +kernel
theorem dX2_carryForth_92 : decode cX2_carryForth 92 = .ok (.iload 5, 2) := by decide +kernel
theorem dX2_carryForth_94 : decode cX2_carryForth 94 = .ok (.aload_n 1, 1) := by decide +kernel
theorem dX2_carryForth_95 : decode cX2_carryForth 95 = .ok (.aload_n 0, 1) := by decide +kernel
theorem dX2_carryForth_96 : decode cX2_carryForth 96 = .ok (.getfield 28, 3) := by decide +kernel
theorem dX2_carryForth_99 : decode cX2_carryForth 99 = .ok (.iload 4, 2) := by decide +kernel
theorem dX2_carryForth_101 : decode cX2_carryForth 101 = .ok (.invokestatic 47, 3) := by decide +kernel
theorem dX2_carryForth_104 : decode cX2_carryForth 104 = .ok (.invokestatic 47, 3) := by decide +kernel
theorem dX2_carryForth_107 : decode cX2_carryForth 107 = .ok (.iadd, 1) := by decide +kernel
theorem dX2_carryForth_108 : decode cX2_carryForth 108 = .ok (.ldc 96, 2) := by decide +kernel
theorem dX2_carryForth_110 : decode cX2_carryForth 110 = .ok (.invokestatic 97, 3) := by decide +kernel
theorem dX2_carryForth_113 : decode cX2_carryForth 113 = .ok (.invokestatic 82, 3) := by decide +kernel
theorem dX2_carryForth_116 : decode cX2_carryForth 116 = .ok (.goto 3, 3) := by decide +kernel
theorem dX2_carryForth_119 : decode cX2_carryForth 119 = .ok (.iinc 4 1, 3) := by decide +kernel
theorem dX2_carryForth_122 : decode cX2_carryForth 122 = .ok (.goto (-117), 3) := by decide +kernel
theorem dX2_carryForth_125 : decode cX2_carryForth 125 = .ok (.return_, 1) := by decide +kernel
theorem dX2_carryBack_0 : decode cX2_carryBack 0 = .ok (.iload_n 2, 1) := by decide +kernel
theorem dX2_carryBack_1 : decode cX2_carryBack 1 = .ok (.istore 4, 2) := by decide +kernel
theorem dX2_carryBack_3 : decode cX2_carryBack 3 = .ok (.iload 4, 2) := by decide +kernel
theorem dX2_carryBack_5 : decode cX2_carryBack 5 = .ok (.iload_n 3, 1) := by decide +kernel
theorem dX2_carryBack_6 : decode cX2_carryBack 6 = .ok (.if_icmp .le 44, 3) := by decide +kernel
theorem dX2_carryBack_9 : decode cX2_carryBack 9 = .ok (.aload_n 0, 1) := by decide +kernel
theorem dX2_carryBack_10 : decode cX2_carryBack 10 = .ok (.getfield 18, 3) := by decide +kernel
theorem dX2_carryBack_13 : decode cX2_carryBack 13 = .ok (.iload 4, 2) := by decide +kernel
theorem dX2_carryBack_15 : decode cX2_carryBack 15 = .ok (.invokestatic 47, 3) := by decide +kernel
theorem dX2_carryBack_18 : decode cX2_carryBack 18 = .ok (.iconst 4, 1) := by decide +kernel
theorem dX2_carryBack_19 : decode cX2_carryBack 19 = .ok (.if_icmp .ne 25, 3) := by decide +kernel
theorem dX2_carryBack_22 : decode cX2_carryBack 22 = .ok (.aload_n 1, 1) := by decide +kernel
theorem dX2_carryBack_23 : decode cX2_carryBack 23 = .ok (.aload_n 0, 1) := by decide +kernel
theorem dX2_carryBack_24 : decode cX2_carryBack 24 = .ok (.getfield 25, 3) := by decide +kernel
theorem dX2_carryBack_27 : decode cX2_carryBack 27 = .ok (.iload 4, 2) := by decide +kernel
theorem dX2_carryBack_29 : decode cX2_carryBack 29 = .ok (.invokestatic 47, 3) := by decide +kernel
theorem dX2_carryBack_32 : decode cX2_carryBack 32 = .ok (.aload_n 0, 1) := by decide +kernel
theorem dX2_carryBack_33 : decode cX2_carryBack 33 = .ok (.getfield 22, 3) := by decide +kernel
theorem dX2_carryBack_36 : decode cX2_carryBack 36 = .ok (.iload 4, 2) := by decide +kernel
theorem dX2_carryBack_38 : decode cX2_carryBack 38 = .ok (.invokestatic 47, 3) := by decide +kernel
theorem dX2_carryBack_41 : decode cX2_carryBack 41 = .ok (.invokestatic 82, 3) := by decide +kernel
theorem dX2_carryBack_44 : decode cX2_carryBack 44 = .ok (.iinc 4 (-1), 3) := by decide +kernel
theorem dX2_carryBack_47 : decode cX2_carryBack 47 = .ok (.goto (-44), 3) := by decide +kernel
theorem dX2_carryBack_50 : decode cX2_carryBack 50 = .ok (.return_, 1) := by decide +kernel
theorem dX2_takeFrom_0 : decode cX2_takeFrom 0 = .ok (.aload_n 0, 1) := by decide +kernel
theorem dX2_takeFrom_1 : decode cX2_takeFrom 1 = .ok (.aload_n 1, 1) := by decide +kernel
theorem dX2_takeFrom_2 : decode cX2_takeFrom 2 = .ok (.getfield 9, 3) := by decide +kernel
theorem dX2_takeFrom_5 : decode cX2_takeFrom 5 = .ok (.putfield 9, 3) := by decide +kernel
theorem dX2_takeFrom_8 : decode cX2_takeFrom 8 = .ok (.aload_n 0, 1) := by decide +kernel
theorem dX2_takeFrom_9 : decode cX2_takeFrom 9 = .ok (.aload_n 1, 1) := by decide +kernel
theorem dX2_takeFrom_10 : decode cX2_takeFrom 10 = .ok (.getfield 15, 3) := by decide +kernel
theorem dX2_takeFrom_13 : decode cX2_takeFrom 13 = .ok (.putfield 15, 3) := by decide +kernel
theorem dX2_takeFrom_16 : decode cX2_takeFrom 16 = .ok (.aload_n 1, 1) := by decide +kernel
theorem dX2_takeFrom_17 : decode cX2_takeFrom 17 = .ok (.getfield 18, 3) := by decide +kernel
theorem dX2_takeFrom_20 : decode cX2_takeFrom 20 = .ok (.aload_n 0, 1) := by decide +kernel
theorem dX2_takeFrom_21 : decode cX2_takeFrom 21 = .ok (.getfield 18, 3) := by decide +kernel
theorem dX2_takeFrom_24 : decode cX2_takeFrom 24 = .ok (.invokestatic 102, 3) := by decide +kernel
theorem dX2_takeFrom_27 : decode cX2_takeFrom 27 = .ok (.aload_n 1, 1) := by decide +kernel
theorem dX2_takeFrom_28 : decode cX2_takeFrom 28 = .ok (.getfield 22, 3) := by decide +kernel
theorem dX2_takeFrom_31 : decode cX2_takeFrom 31 = .ok (.aload_n 0, 1) := by decide +kernel
theorem dX2_takeFrom_32 : decode cX2_takeFrom 32 = .ok (.getfield 22, 3) := by decide +kernel
theorem dX2_takeFrom_35 : decode cX2_takeFrom 35 = .ok (.invokestatic 102, 3) := by decide +kernel
theorem dX2_takeFrom_38 : decode cX2_takeFrom 38 = .ok (.aload_n 1, 1) := by decide +kernel
theorem dX2_takeFrom_39 : decode cX2_takeFrom 39 = .ok (.getfield 25, 3) := by decide +kernel
theorem dX2_takeFrom_42 : decode cX2_takeFrom 42 = .ok (.aload_n 0, 1) := by decide +kernel
theorem dX2_takeFrom_43 : decode cX2_takeFrom 43 = .ok (.getfield 25, 3) := by decide +kernel
theorem dX2_takeFrom_46 : decode cX2_takeFrom 46 = .ok (.invokestatic 102, 3) := by decide +kernel
theorem dX2_takeFrom_49 : decode cX2_takeFrom 49 = .ok (.aload_n 1, 1) := by decide +kernel
theorem dX2_takeFrom_50 : decode cX2_takeFrom 50 = .ok (.getfield 28, 3) := by decide +kernel
theorem dX2_takeFrom_53 : decode cX2_takeFrom 53 = .ok (.aload_n 0, 1) := by decide +kernel
theorem dX2_takeFrom_54 : decode cX2_takeFrom 54 = .ok (.getfield 28, 3) := by decide +kernel
theorem dX2_takeFrom_57 : decode cX2_takeFrom 57 = .ok (.invokestatic 102, 3) := by decide +kernel
theorem dX2_takeFrom_60 : decode cX2_takeFrom 60 = .ok (.aload_n 1, 1) := by decide +kernel
theorem dX2_takeFrom_61 : decode cX2_takeFrom 61 = .ok (.getfield 31, 3) := by decide +kernel
theorem dX2_takeFrom_64 : decode cX2_takeFrom 64 = .ok (.aload_n 0, 1) := by decide +kernel
theorem dX2_takeFrom_65 : decode cX2_takeFrom 65 = .ok (.getfield 31, 3) := by decide +kernel
theorem dX2_takeFrom_68 : decode cX2_takeFrom 68 = .ok (.invokestatic 102, 3) := by decide +kernel
theorem dX2_takeFrom_71 : decode cX2_takeFrom 71 = .ok (.aload_n 1, 1) := by decide +kernel
theorem dX2_takeFrom_72 : decode cX2_takeFrom 72 = .ok (.getfield 34, 3) := by decide +kernel
theorem dX2_takeFrom_75 : decode cX2_takeFrom 75 = .ok (.aload_n 0, 1) := by decide +kernel
theorem dX2_takeFrom_76 : decode cX2_takeFrom 76 = .ok (.getfield 34, 3) := by decide +kernel
theorem dX2_takeFrom_79 : decode cX2_takeFrom 79 = .ok (.invokestatic 102, 3) := by decide +kernel
theorem dX2_takeFrom_82 : decode cX2_takeFrom 82 = .ok (.aload_n 1, 1) := by decide +kernel
theorem dX2_takeFrom_83 : decode cX2_takeFrom 83 = .ok (.getfield 37, 3) := by decide +kernel
theorem dX2_takeFrom_86 : decode cX2_takeFrom 86 = .ok (.aload_n 0, 1) := by decide +kernel
theorem dX2_takeFrom_87 : decode cX2_takeFrom 87 = .ok (.getfield 37, 3) := by decide +kernel
theorem dX2_takeFrom_90 : decode cX2_takeFrom 90 = .ok (.invokestatic 102, 3) := by decide +kernel
theorem dX2_takeFrom_93 : decode cX2_takeFrom 93 = .ok (.return_, 1) := by decide +kernel
theorem dX2_isFull_0 : decode cX2_isFull 0 = .ok (.aload_n 0, 1) := by decide +kernel
theorem dX2_isFull_1 : decode cX2_isFull 1 = .ok (.getfield 9, 3) := by decide +kernel
theorem dX2_isFull_4 : decode cX2_isFull 4 = .ok (.bipush 12, 2) := by decide +kernel
theorem dX2_isFull_6 : decode cX2_isFull 6 = .ok (.if_icmp .lt 7, 3) := by decide +kernel
theorem dX2_isFull_9 : decode cX2_isFull 9 = .ok (.iconst 1, 1) := by decide +kernel
theorem dX2_isFull_10 : decode cX2_isFull 10 = .ok (.goto 4, 3) := by decide +kernel
theorem dX2_isFull_13 : decode cX2_isFull 13 = .ok (.iconst 0, 1) := by decide +kernel
theorem dX2_isFull_14 : decode cX2_isFull 14 = .ok (.ireturn, 1) := by decide +kernel
theorem dX2_newestHas_0 : decode cX2_newestHas 0 = .ok (.aload_n 0, 1) := by decide +kernel
theorem dX2_newestHas_1 : decode cX2_newestHas 1 = .ok (.aload_n 0, 1) := by decide +kernel
theorem dX2_newestHas_2 : decode cX2_newestHas 2 = .ok (.invokevirtual 68, 3) := by decide +kernel
theorem dX2_newestHas_5 : decode cX2_newestHas 5 = .ok (.iload_n 1, 1) := by decide +kernel
theorem dX2_newestHas_6 : decode cX2_newestHas 6 = .ok (.invokevirtual 51, 3) := by decide +kernel
theorem dX2_newestHas_9 : decode cX2_newestHas 9 = .ok (.iconst (-1), 1) := by decide +kernel
theorem dX2_newestHas_10 : decode cX2_newestHas 10 = .ok (.if_icmp .eq 7, 3) := by decide +kernel
theorem dX2_newestHas_13 : decode cX2_newestHas 13 = .ok (.iconst 1, 1) := by decide +kernel
theorem dX2_newestHas_14 : decode cX2_newestHas 14 = .ok (.goto 4, 3) := by decide +kernel
theorem dX2_newestHas_17 : decode cX2_newestHas 17 = .ok (.iconst 0, 1) := by decide +kernel
theorem dX2_newestHas_18 : decode cX2_newestHas 18 = .ok (.ireturn, 1) := by decide +kernel
theorem dX2_placeOfLetter_0 : decode cX2_placeOfLetter 0 = .ok (.aload_n 0, 1) := by decide +kernel
theorem dX2_placeOfLetter_1 : decode cX2_placeOfLetter 1 = .ok (.getfield 31, 3) := by decide +kernel
theorem dX2_placeOfLetter_4 : decode cX2_placeOfLetter 4 = .ok (.iload_n 1, 1) := by decide +kernel
theorem dX2_placeOfLetter_5 : decode cX2_placeOfLetter 5 = .ok (.invokestatic 47, 3) := by decide +kernel
theorem dX2_placeOfLetter_8 : decode cX2_placeOfLetter 8 = .ok (.istore_n 3, 1) := by decide +kernel
theorem dX2_placeOfLetter_9 : decode cX2_placeOfLetter 9 = .ok (.iconst 0, 1) := by decide +kernel
theorem dX2_placeOfLetter_10 : decode cX2_placeOfLetter 10 = .ok (.istore 4, 2) := by decide +kernel
theorem dX2_placeOfLetter_12 : decode cX2_placeOfLetter 12 = .ok (.iload 4, 2) := by decide +kernel
theorem dX2_placeOfLetter_14 : decode cX2_placeOfLetter 14 = .ok (.iload_n 3, 1) := by decide +kernel
theorem dX2_placeOfLetter_15 : decode cX2_placeOfLetter 15 = .ok (.if_icmp .ge 30, 3) := by decide +kernel
theorem dX2_placeOfLetter_18 : decode cX2_placeOfLetter 18 = .ok (.aload_n 0, 1) := by decide +kernel
theorem dX2_placeOfLetter_19 : decode cX2_placeOfLetter 19 = .ok (.getfield 37, 3) := by decide +kernel
theorem dX2_placeOfLetter_22 : decode cX2_placeOfLetter 22 = .ok (.iload_n 1, 1) := by decide +kernel
theorem dX2_placeOfLetter_23 : decode cX2_placeOfLetter 23 = .ok (.bipush 8, 2) := by decide +kernel
theorem dX2_placeOfLetter_25 : decode cX2_placeOfLetter 25 = .ok (.imul, 1) := by decide +kernel
theorem dX2_placeOfLetter_26 : decode cX2_placeOfLetter 26 = .ok (.iload 4, 2) := by decide +kernel
theorem dX2_placeOfLetter_28 : decode cX2_placeOfLetter 28 = .ok (.iadd, 1) := by decide +kernel
theorem dX2_placeOfLetter_29 : decode cX2_placeOfLetter 29 = .ok (.invokestatic 47, 3) := by decide +kernel
theorem dX2_placeOfLetter_32 : decode cX2_placeOfLetter 32 = .ok (.iload_n 2, 1) := by decide +kernel
theorem dX2_placeOfLetter_33 : decode cX2_placeOfLetter 33 = .ok (.if_icmp .ne 6, 3) := by decide +kernel
theorem dX2_placeOfLetter_36 : decode cX2_placeOfLetter 36 = .ok (.iload 4, 2) := by decide +kernel
theorem dX2_placeOfLetter_38 : decode cX2_placeOfLetter 38 = .ok (.ireturn, 1) := by decide +kernel
theorem dX2_placeOfLetter_39 : decode cX2_placeOfLetter 39 = .ok (.iinc 4 1, 3) := by decide +kernel
theorem dX2_placeOfLetter_42 : decode cX2_placeOfLetter 42 = .ok (.goto (-30), 3) := by decide +kernel
theorem dX2_placeOfLetter_45 : decode cX2_placeOfLetter 45 = .ok (.iconst (-1), 1) := by decide +kernel
theorem dX2_placeOfLetter_46 : decode cX2_placeOfLetter 46 = .ok (.ireturn, 1) := by decide +kernel
theorem dX2_placeOfColumn_0 : decode cX2_placeOfColumn 0 = .ok (.aload_n 0, 1) := by decide +kernel
theorem dX2_placeOfColumn_1 : decode cX2_placeOfColumn 1 = .ok (.getfield 31, 3) := by decide +kernel
theorem dX2_placeOfColumn_4 : decode cX2_placeOfColumn 4 = .ok (.iload_n 1, 1) := by decide +kernel
theorem dX2_placeOfColumn_5 : decode cX2_placeOfColumn 5 = .ok (.invokestatic 47, 3) := by decide +kernel
theorem dX2_placeOfColumn_8 : decode cX2_placeOfColumn 8 = .ok (.istore_n 3, 1) := by decide +kernel
theorem dX2_placeOfColumn_9 : decode cX2_placeOfColumn 9 = .ok (.iconst 0, 1) := by decide +kernel
theorem dX2_placeOfColumn_10 : decode cX2_placeOfColumn 10 = .ok (.istore 4, 2) := by decide +kernel
theorem dX2_placeOfColumn_12 : decode cX2_placeOfColumn 12 = .ok (.iload 4, 2) := by decide +kernel
theorem dX2_placeOfColumn_14 : decode cX2_placeOfColumn 14 = .ok (.iload_n 3, 1) := by decide +kernel
theorem dX2_placeOfColumn_15 : decode cX2_placeOfColumn 15 = .ok (.if_icmp .ge 30, 3) := by decide +kernel
theorem dX2_placeOfColumn_18 : decode cX2_placeOfColumn 18 = .ok (.aload_n 0, 1) := by decide +kernel
theorem dX2_placeOfColumn_19 : decode cX2_placeOfColumn 19 = .ok (.getfield 34, 3) := by decide +kernel
theorem dX2_placeOfColumn_22 : decode cX2_placeOfColumn 22 = .ok (.iload_n 1, 1) := by decide +kernel
theorem dX2_placeOfColumn_23 : decode cX2_placeOfColumn 23 = .ok (.bipush 8, 2) := by decide +kernel
theorem dX2_placeOfColumn_25 : decode cX2_placeOfColumn 25 = .ok (.imul, 1) := by decide +kernel
theorem dX2_placeOfColumn_26 : decode cX2_placeOfColumn 26 = .ok (.iload 4, 2) := by decide +kernel
theorem dX2_placeOfColumn_28 : decode cX2_placeOfColumn 28 = .ok (.iadd, 1) := by decide +kernel
theorem dX2_placeOfColumn_29 : decode cX2_placeOfColumn 29 = .ok (.invokestatic 47, 3) := by decide +kernel
theorem dX2_placeOfColumn_32 : decode cX2_placeOfColumn 32 = .ok (.iload_n 2, 1) := by decide +kernel
theorem dX2_placeOfColumn_33 : decode cX2_placeOfColumn 33 = .ok (.if_icmp .ne 6, 3) := by decide +kernel
theorem dX2_placeOfColumn_36 : decode cX2_placeOfColumn 36 = .ok (.iload 4, 2) := by decide +kernel
theorem dX2_placeOfColumn_38 : decode cX2_placeOfColumn 38 = .ok (.ireturn, 1) := by decide +kernel
theorem dX2_placeOfColumn_39 : decode cX2_placeOfColumn 39 = .ok (.iinc 4 1, 3) := by decide +kernel
theorem dX2_placeOfColumn_42 : decode cX2_placeOfColumn 42 = .ok (.goto (-30), 3) := by decide +kernel
theorem dX2_placeOfColumn_45 : decode cX2_placeOfColumn 45 = .ok (.iconst (-1), 1) := by decide +kernel
theorem dX2_placeOfColumn_46 : decode cX2_placeOfColumn 46 = .ok (.ireturn, 1) := by decide +kernel
theorem dX2_letterAt_0 : decode cX2_letterAt 0 = .ok (.aload_n 0, 1) := by decide +kernel
theorem dX2_letterAt_1 : decode cX2_letterAt 1 = .ok (.getfield 37, 3) := by decide +kernel
theorem dX2_letterAt_4 : decode cX2_letterAt 4 = .ok (.iload_n 1, 1) := by decide +kernel
theorem dX2_letterAt_5 : decode cX2_letterAt 5 = .ok (.bipush 8, 2) := by decide +kernel
theorem dX2_letterAt_7 : decode cX2_letterAt 7 = .ok (.imul, 1) := by decide +kernel
theorem dX2_letterAt_8 : decode cX2_letterAt 8 = .ok (.iload_n 2, 1) := by decide +kernel
theorem dX2_letterAt_9 : decode cX2_letterAt 9 = .ok (.iadd, 1) := by decide +kernel
theorem dX2_letterAt_10 : decode cX2_letterAt 10 = .ok (.invokestatic 47, 3) := by decide +kernel
theorem dX2_letterAt_13 : decode cX2_letterAt 13 = .ok (.ireturn, 1) := by decide +kernel
theorem dX2_comeBy_0 : decode cX2_comeBy 0 = .ok (.aload_n 0, 1) := by decide +kernel
theorem dX2_comeBy_1 : decode cX2_comeBy 1 = .ok (.getfield 9, 3) := by decide +kernel
theorem dX2_comeBy_4 : decode cX2_comeBy 4 = .ok (.istore_n 2, 1) := by decide +kernel
theorem dX2_comeBy_5 : decode cX2_comeBy 5 = .ok (.aload_n 0, 1) := by decide +kernel
theorem dX2_comeBy_6 : decode cX2_comeBy 6 = .ok (.invokevirtual 68, 3) := by decide +kernel
theorem dX2_comeBy_9 : decode cX2_comeBy 9 = .ok (.istore_n 3, 1) := by decide +kernel
theorem dX2_comeBy_10 : decode cX2_comeBy 10 = .ok (.aload_n 0, 1) := by decide +kernel
theorem dX2_comeBy_11 : decode cX2_comeBy 11 = .ok (.getfield 18, 3) := by decide +kernel
theorem dX2_comeBy_14 : decode cX2_comeBy 14 = .ok (.iload_n 2, 1) := by decide +kernel
theorem dX2_comeBy_15 : decode cX2_comeBy 15 = .ok (.iload_n 1, 1) := by decide +kernel
theorem dX2_comeBy_16 : decode cX2_comeBy 16 = .ok (.invokestatic 82, 3) := by decide +kernel
theorem dX2_comeBy_19 : decode cX2_comeBy 19 = .ok (.aload_n 0, 1) := by decide +kernel
theorem dX2_comeBy_20 : decode cX2_comeBy 20 = .ok (.getfield 31, 3) := by decide +kernel
theorem dX2_comeBy_23 : decode cX2_comeBy 23 = .ok (.iload_n 2, 1) := by decide +kernel
theorem dX2_comeBy_24 : decode cX2_comeBy 24 = .ok (.aload_n 0, 1) := by decide +kernel
theorem dX2_comeBy_25 : decode cX2_comeBy 25 = .ok (.iload_n 3, 1) := by decide +kernel
theorem dX2_comeBy_26 : decode cX2_comeBy 26 = .ok (.invokevirtual 61, 3) := by decide +kernel
theorem dX2_comeBy_29 : decode cX2_comeBy 29 = .ok (.invokestatic 82, 3) := by decide +kernel
theorem dX2_comeBy_32 : decode cX2_comeBy 32 = .ok (.iconst 0, 1) := by decide +kernel
theorem dX2_comeBy_33 : decode cX2_comeBy 33 = .ok (.istore 4, 2) := by decide +kernel
theorem dX2_comeBy_35 : decode cX2_comeBy 35 = .ok (.iload 4, 2) := by decide +kernel
theorem dX2_comeBy_37 : decode cX2_comeBy 37 = .ok (.aload_n 0, 1) := by decide +kernel
theorem dX2_comeBy_38 : decode cX2_comeBy 38 = .ok (.iload_n 3, 1) := by decide +kernel
theorem dX2_comeBy_39 : decode cX2_comeBy 39 = .ok (.invokevirtual 61, 3) := by decide +kernel
theorem dX2_comeBy_42 : decode cX2_comeBy 42 = .ok (.if_icmp .ge 51, 3) := by decide +kernel
theorem dX2_comeBy_45 : decode cX2_comeBy 45 = .ok (.aload_n 0, 1) := by decide +kernel
theorem dX2_comeBy_46 : decode cX2_comeBy 46 = .ok (.getfield 34, 3) := by decide +kernel
theorem dX2_comeBy_49 : decode cX2_comeBy 49 = .ok (.iload_n 2, 1) := by decide +kernel
theorem dX2_comeBy_50 : decode cX2_comeBy 50 = .ok (.bipush 8, 2) := by decide +kernel
theorem dX2_comeBy_52 : decode cX2_comeBy 52 = .ok (.imul, 1) := by decide +kernel
theorem dX2_comeBy_53 : decode cX2_comeBy 53 = .ok (.iload 4, 2) := by decide +kernel
theorem dX2_comeBy_55 : decode cX2_comeBy 55 = .ok (.iadd, 1) := by decide +kernel
theorem dX2_comeBy_56 : decode cX2_comeBy 56 = .ok (.aload_n 0, 1) := by decide +kernel
theorem dX2_comeBy_57 : decode cX2_comeBy 57 = .ok (.iload_n 3, 1) := by decide +kernel
theorem dX2_comeBy_58 : decode cX2_comeBy 58 = .ok (.iload 4, 2) := by decide +kernel
theorem dX2_comeBy_60 : decode cX2_comeBy 60 = .ok (.invokevirtual 55, 3) := by decide +kernel
theorem dX2_comeBy_63 : decode cX2_comeBy 63 = .ok (.invokestatic 82, 3) := by decide +kernel
theorem dX2_comeBy_66 : decode cX2_comeBy 66 = .ok (.aload_n 0, 1) := by decide +kernel
theorem dX2_comeBy_67 : decode cX2_comeBy 67 = .ok (.getfield 37, 3) := by decide +kernel
theorem dX2_comeBy_70 : decode cX2_comeBy 70 = .ok (.iload_n 2, 1) := by decide +kernel
theorem dX2_comeBy_71 : decode cX2_comeBy 71 = .ok (.bipush 8, 2) := by decide +kernel
theorem dX2_comeBy_73 : decode cX2_comeBy 73 = .ok (.imul, 1) := by decide +kernel
theorem dX2_comeBy_74 : decode cX2_comeBy 74 = .ok (.iload 4, 2) := by decide +kernel
theorem dX2_comeBy_76 : decode cX2_comeBy 76 = .ok (.iadd, 1) := by decide +kernel
theorem dX2_comeBy_77 : decode cX2_comeBy 77 = .ok (.aload_n 0, 1) := by decide +kernel
theorem dX2_comeBy_78 : decode cX2_comeBy 78 = .ok (.iload_n 3, 1) := by decide +kernel
theorem dX2_comeBy_79 : decode cX2_comeBy 79 = .ok (.iload 4, 2) := by decide +kernel
theorem dX2_comeBy_81 : decode cX2_comeBy 81 = .ok (.invokevirtual 65, 3) := by decide +kernel
theorem dX2_comeBy_84 : decode cX2_comeBy 84 = .ok (.invokestatic 82, 3) := by decide +kernel
theorem dX2_comeBy_87 : decode cX2_comeBy 87 = .ok (.iinc 4 1, 3) := by decide +kernel
theorem dX2_comeBy_90 : decode cX2_comeBy 90 = .ok (.goto (-55), 3) := by decide +kernel
theorem dX2_comeBy_93 : decode cX2_comeBy 93 = .ok (.aload_n 0, 1) := by decide +kernel
theorem dX2_comeBy_94 : decode cX2_comeBy 94 = .ok (.dup, 1) := by decide +kernel
theorem dX2_comeBy_95 : decode cX2_comeBy 95 = .ok (.getfield 9, 3) := by decide +kernel
theorem dX2_comeBy_98 : decode cX2_comeBy 98 = .ok (.iconst 1, 1) := by decide +kernel
theorem dX2_comeBy_99 : decode cX2_comeBy 99 = .ok (.iadd, 1) := by decide +kernel
theorem dX2_comeBy_100 : decode cX2_comeBy 100 = .ok (.putfield 9, 3) := by decide +kernel
theorem dX2_comeBy_103 : decode cX2_comeBy 103 = .ok (.iload_n 2, 1) := by decide +kernel
theorem dX2_comeBy_104 : decode cX2_comeBy 104 = .ok (.ireturn, 1) := by decide +kernel
theorem dX2_addLast_0 : decode cX2_addLast 0 = .ok (.aload_n 0, 1) := by decide +kernel
theorem dX2_addLast_1 : decode cX2_addLast 1 = .ok (.iload_n 1, 1) := by decide +kernel
theorem dX2_addLast_2 : decode cX2_addLast 2 = .ok (.invokevirtual 61, 3) := by decide +kernel
theorem dX2_addLast_5 : decode cX2_addLast 5 = .ok (.istore_n 3, 1) := by decide +kernel
theorem dX2_addLast_6 : decode cX2_addLast 6 = .ok (.aload_n 0, 1) := by decide +kernel
theorem dX2_addLast_7 : decode cX2_addLast 7 = .ok (.getfield 31, 3) := by decide +kernel
theorem dX2_addLast_10 : decode cX2_addLast 10 = .ok (.iload_n 1, 1) := by decide +kernel
theorem dX2_addLast_11 : decode cX2_addLast 11 = .ok (.iload_n 3, 1) := by decide +kernel
theorem dX2_addLast_12 : decode cX2_addLast 12 = .ok (.iconst 1, 1) := by decide +kernel
theorem dX2_addLast_13 : decode cX2_addLast 13 = .ok (.iadd, 1) := by decide +kernel
theorem dX2_addLast_14 : decode cX2_addLast 14 = .ok (.invokestatic 82, 3) := by decide +kernel
theorem dX2_addLast_17 : decode cX2_addLast 17 = .ok (.aload_n 0, 1) := by decide +kernel
theorem dX2_addLast_18 : decode cX2_addLast 18 = .ok (.getfield 34, 3) := by decide +kernel
theorem dX2_addLast_21 : decode cX2_addLast 21 = .ok (.iload_n 1, 1) := by decide +kernel
theorem dX2_addLast_22 : decode cX2_addLast 22 = .ok (.bipush 8, 2) := by decide +kernel
theorem dX2_addLast_24 : decode cX2_addLast 24 = .ok (.imul, 1) := by decide +kernel
theorem dX2_addLast_25 : decode cX2_addLast 25 = .ok (.iload_n 3, 1) := by decide +kernel
theorem dX2_addLast_26 : decode cX2_addLast 26 = .ok (.iadd, 1) := by decide +kernel
theorem dX2_addLast_27 : decode cX2_addLast 27 = .ok (.iload_n 1, 1) := by decide +kernel
theorem dX2_addLast_28 : decode cX2_addLast 28 = .ok (.invokestatic 82, 3) := by decide +kernel
theorem dX2_addLast_31 : decode cX2_addLast 31 = .ok (.aload_n 0, 1) := by decide +kernel
theorem dX2_addLast_32 : decode cX2_addLast 32 = .ok (.getfield 37, 3) := by decide +kernel
theorem dX2_addLast_35 : decode cX2_addLast 35 = .ok (.iload_n 1, 1) := by decide +kernel
theorem dX2_addLast_36 : decode cX2_addLast 36 = .ok (.bipush 8, 2) := by decide +kernel
theorem dX2_addLast_38 : decode cX2_addLast 38 = .ok (.imul, 1) := by decide +kernel
theorem dX2_addLast_39 : decode cX2_addLast 39 = .ok (.iload_n 3, 1) := by decide +kernel
theorem dX2_addLast_40 : decode cX2_addLast 40 = .ok (.iadd, 1) := by decide +kernel
theorem dX2_addLast_41 : decode cX2_addLast 41 = .ok (.iload_n 2, 1) := by decide +kernel
theorem dX2_addLast_42 : decode cX2_addLast 42 = .ok (.invokestatic 82, 3) := by decide +kernel
theorem dX2_addLast_45 : decode cX2_addLast 45 = .ok (.return_, 1) := by decide +kernel
theorem dX2_closeGap_0 : decode cX2_closeGap 0 = .ok (.aload_n 0, 1) := by decide +kernel
theorem dX2_closeGap_1 : decode cX2_closeGap 1 = .ok (.iload_n 1, 1) := by decide +kernel
theorem dX2_closeGap_2 : decode cX2_closeGap 2 = .ok (.invokevirtual 61, 3) := by decide +kernel
theorem dX2_closeGap_5 : decode cX2_closeGap 5 = .ok (.iconst 1, 1) := by decide +kernel
theorem dX2_closeGap_6 : decode cX2_closeGap 6 = .ok (.isub, 1) := by decide +kernel
theorem dX2_closeGap_7 : decode cX2_closeGap 7 = .ok (.istore_n 3, 1) := by decide +kernel
theorem dX2_closeGap_8 : decode cX2_closeGap 8 = .ok (.iload_n 2, 1) := by decide +kernel
theorem dX2_closeGap_9 : decode cX2_closeGap 9 = .ok (.istore 4, 2) := by decide +kernel
theorem dX2_closeGap_11 : decode cX2_closeGap 11 = .ok (.iload 4, 2) := by decide +kernel
theorem dX2_closeGap_13 : decode cX2_closeGap 13 = .ok (.iload_n 3, 1) := by decide +kernel
theorem dX2_closeGap_14 : decode cX2_closeGap 14 = .ok (.if_icmp .ge 55, 3) := by decide +kernel
theorem dX2_closeGap_17 : decode cX2_closeGap 17 = .ok (.aload_n 0, 1) := by decide +kernel
theorem dX2_closeGap_18 : decode cX2_closeGap 18 = .ok (.getfield 34, 3) := by decide +kernel
theorem dX2_closeGap_21 : decode cX2_closeGap 21 = .ok (.iload_n 1, 1) := by decide +kernel
theorem dX2_closeGap_22 : decode cX2_closeGap 22 = .ok (.bipush 8, 2) := by decide +kernel
theorem dX2_closeGap_24 : decode cX2_closeGap 24 = .ok (.imul, 1) := by decide +kernel
theorem dX2_closeGap_25 : decode cX2_closeGap 25 = .ok (.iload 4, 2) := by decide +kernel
theorem dX2_closeGap_27 : decode cX2_closeGap 27 = .ok (.iadd, 1) := by decide +kernel
theorem dX2_closeGap_28 : decode cX2_closeGap 28 = .ok (.aload_n 0, 1) := by decide +kernel
theorem dX2_closeGap_29 : decode cX2_closeGap 29 = .ok (.iload_n 1, 1) := by decide +kernel
theorem dX2_closeGap_30 : decode cX2_closeGap 30 = .ok (.iload 4, 2) := by decide +kernel
theorem dX2_closeGap_32 : decode cX2_closeGap 32 = .ok (.iconst 1, 1) := by decide +kernel
theorem dX2_closeGap_33 : decode cX2_closeGap 33 = .ok (.iadd, 1) := by decide +kernel
theorem dX2_closeGap_34 : decode cX2_closeGap 34 = .ok (.invokevirtual 55, 3) := by decide +kernel
theorem dX2_closeGap_37 : decode cX2_closeGap 37 = .ok (.invokestatic 82, 3) := by decide +kernel
theorem dX2_closeGap_40 : decode cX2_closeGap 40 = .ok (.aload_n 0, 1) := by decide +kernel
theorem dX2_closeGap_41 : decode cX2_closeGap 41 = .ok (.getfield 37, 3) := by decide +kernel
theorem dX2_closeGap_44 : decode cX2_closeGap 44 = .ok (.iload_n 1, 1) := by decide +kernel
theorem dX2_closeGap_45 : decode cX2_closeGap 45 = .ok (.bipush 8, 2) := by decide +kernel
theorem dX2_closeGap_47 : decode cX2_closeGap 47 = .ok (.imul, 1) := by decide +kernel
theorem dX2_closeGap_48 : decode cX2_closeGap 48 = .ok (.iload 4, 2) := by decide +kernel
theorem dX2_closeGap_50 : decode cX2_closeGap 50 = .ok (.iadd, 1) := by decide +kernel
theorem dX2_closeGap_51 : decode cX2_closeGap 51 = .ok (.aload_n 0, 1) := by decide +kernel
theorem dX2_closeGap_52 : decode cX2_closeGap 52 = .ok (.iload_n 1, 1) := by decide +kernel
theorem dX2_closeGap_53 : decode cX2_closeGap 53 = .ok (.iload 4, 2) := by decide +kernel
theorem dX2_closeGap_55 : decode cX2_closeGap 55 = .ok (.iconst 1, 1) := by decide +kernel
theorem dX2_closeGap_56 : decode cX2_closeGap 56 = .ok (.iadd, 1) := by decide +kernel
theorem dX2_closeGap_57 : decode cX2_closeGap 57 = .ok (.invokevirtual 65, 3) := by decide +kernel
theorem dX2_closeGap_60 : decode cX2_closeGap 60 = .ok (.invokestatic 82, 3) := by decide +kernel
theorem dX2_closeGap_63 : decode cX2_closeGap 63 = .ok (.iinc 4 1, 3) := by decide +kernel
theorem dX2_closeGap_66 : decode cX2_closeGap 66 = .ok (.goto (-55), 3) := by decide +kernel
theorem dX2_closeGap_69 : decode cX2_closeGap 69 = .ok (.aload_n 0, 1) := by decide +kernel
theorem dX2_closeGap_70 : decode cX2_closeGap 70 = .ok (.getfield 31, 3) := by decide +kernel
theorem dX2_closeGap_73 : decode cX2_closeGap 73 = .ok (.iload_n 1, 1) := by decide +kernel
theorem dX2_closeGap_74 : decode cX2_closeGap 74 = .ok (.iload_n 3, 1) := by decide +kernel
theorem dX2_closeGap_75 : decode cX2_closeGap 75 = .ok (.invokestatic 82, 3) := by decide +kernel
theorem dX2_closeGap_78 : decode cX2_closeGap 78 = .ok (.return_, 1) := by decide +kernel
theorem dX3_init_0 : decode cX3_init 0 = .ok (.aload_n 0, 1) := by decide +kernel
theorem dX3_init_1 : decode cX3_init 1 = .ok (.invokespecial 3, 3) := by decide +kernel
theorem dX3_init_4 : decode cX3_init 4 = .ok (.aload_n 0, 1) := by decide +kernel
theorem dX3_init_5 : decode cX3_init 5 = .ok (.new 9, 3) := by decide +kernel
theorem dX3_init_8 : decode cX3_init 8 = .ok (.dup, 1) := by decide +kernel
theorem dX3_init_9 : decode cX3_init 9 = .ok (.invokespecial 11, 3) := by decide +kernel
theorem dX3_init_12 : decode cX3_init 12 = .ok (.putfield 12, 3) := by decide +kernel
theorem dX3_init_15 : decode cX3_init 15 = .ok (.aload_n 0, 1) := by decide +kernel
theorem dX3_init_16 : decode cX3_init 16 = .ok (.new 18, 3) := by decide +kernel
theorem dX3_init_19 : decode cX3_init 19 = .ok (.dup, 1) := by decide +kernel
theorem dX3_init_20 : decode cX3_init 20 = .ok (.invokespecial 20, 3) := by decide +kernel
theorem dX3_init_23 : decode cX3_init 23 = .ok (.putfield 21, 3) := by decide +kernel
theorem dX3_init_26 : decode cX3_init 26 = .ok (.aload_n 0, 1) := by decide +kernel
theorem dX3_init_27 : decode cX3_init 27 = .ok (.iconst 4, 1) := by decide +kernel
theorem dX3_init_28 : decode cX3_init 28 = .ok (.newarray .int, 2) := by decide +kernel
theorem dX3_init_30 : decode cX3_init 30 = .ok (.putfield 25, 3) := by decide +kernel
theorem dX3_init_33 : decode cX3_init 33 = .ok (.aload_n 0, 1) := by decide +kernel
theorem dX3_init_34 : decode cX3_init 34 = .ok (.bipush 12, 2) := by decide +kernel
theorem dX3_init_36 : decode cX3_init 36 = .ok (.newarray .int, 2) := by decide +kernel
theorem dX3_init_38 : decode cX3_init 38 = .ok (.putfield 29, 3) := by decide +kernel
theorem dX3_init_41 : decode cX3_init 41 = .ok (.return_, 1) := by decide +kernel
theorem dX3_heldBy_0 : decode cX3_heldBy 0 = .ok (.aload_n 0, 1) := by decide +kernel
theorem dX3_heldBy_1 : decode cX3_heldBy 1 = .ok (.getfield 25, 3) := by decide +kernel
theorem dX3_heldBy_4 : decode cX3_heldBy 4 = .ok (.iload_n 1, 1) := by decide +kernel
theorem dX3_heldBy_5 : decode cX3_heldBy 5 = .ok (.invokestatic 32, 3) := by decide +kernel
theorem dX3_heldBy_8 : decode cX3_heldBy 8 = .ok (.ireturn, 1) := by decide +kernel
theorem dX3_letHold_0 : decode cX3_letHold 0 = .ok (.aload_n 0, 1) := by decide +kernel
theorem dX3_letHold_1 : decode cX3_letHold 1 = .ok (.iload_n 1, 1) := by decide +kernel
theorem dX3_letHold_2 : decode cX3_letHold 2 = .ok (.invokevirtual 36, 3) := by decide +kernel
theorem dX3_letHold_5 : decode cX3_letHold 5 = .ok (.istore_n 3, 1) := by decide +kernel
theorem dX3_letHold_6 : decode cX3_letHold 6 = .ok (.aload_n 0, 1) := by decide +kernel
theorem dX3_letHold_7 : decode cX3_letHold 7 = .ok (.getfield 25, 3) := by decide +kernel
theorem dX3_letHold_10 : decode cX3_letHold 10 = .ok (.iload_n 1, 1) := by decide +kernel
theorem dX3_letHold_11 : decode cX3_letHold 11 = .ok (.iload_n 2, 1) := by decide +kernel
theorem dX3_letHold_12 : decode cX3_letHold 12 = .ok (.invokestatic 40, 3) := by decide +kernel
theorem dX3_letHold_15 : decode cX3_letHold 15 = .ok (.iload_n 3, 1) := by decide +kernel
theorem dX3_letHold_16 : decode cX3_letHold 16 = .ok (.ireturn, 1) := by decide +kernel
theorem dX3_valuesRead_0 : decode cX3_valuesRead 0 = .ok (.aload_n 0, 1) := by decide +kernel
theorem dX3_valuesRead_1 : decode cX3_valuesRead 1 = .ok (.getfield 21, 3) := by decide +kernel
theorem dX3_valuesRead_4 : decode cX3_valuesRead 4 = .ok (.iload_n 1, 1) := by decide +kernel
theorem dX3_valuesRead_5 : decode cX3_valuesRead 5 = .ok (.aload_n 0, 1) := by decide +kernel
theorem dX3_valuesRead_6 : decode cX3_valuesRead 6 = .ok (.getfield 29, 3) := by decide +kernel
theorem dX3_valuesRead_9 : decode cX3_valuesRead 9 = .ok (.invokevirtual 44, 3) := by decide +kernel
theorem dX3_valuesRead_12 : decode cX3_valuesRead 12 = .ok (.aload_n 0, 1) := by decide +kernel
theorem dX3_valuesRead_13 : decode cX3_valuesRead 13 = .ok (.getfield 12, 3) := by decide +kernel
theorem dX3_valuesRead_16 : decode cX3_valuesRead 16 = .ok (.aload_n 0, 1) := by decide +kernel
theorem dX3_valuesRead_17 : decode cX3_valuesRead 17 = .ok (.getfield 29, 3) := by decide +kernel
theorem dX3_valuesRead_20 : decode cX3_valuesRead 20 = .ok (.aload_n 0, 1) := by decide +kernel
theorem dX3_valuesRead_21 : decode cX3_valuesRead 21 = .ok (.getfield 21, 3) := by decide +kernel
theorem dX3_valuesRead_24 : decode cX3_valuesRead 24 = .ok (.iload_n 1, 1) := by decide +kernel
theorem dX3_valuesRead_25 : decode cX3_valuesRead 25 = .ok (.invokevirtual 48, 3) := by decide +kernel
theorem dX3_valuesRead_28 : decode cX3_valuesRead 28 = .ok (.iload_n 2, 1) := by decide +kernel
theorem dX3_valuesRead_29 : decode cX3_valuesRead 29 = .ok (.invokevirtual 51, 3) := by decide +kernel
theorem dX3_valuesRead_32 : decode cX3_valuesRead 32 = .ok (.aload_n 0, 1) := by decide +kernel
theorem dX3_valuesRead_33 : decode cX3_valuesRead 33 = .ok (.getfield 12, 3) := by decide +kernel
theorem dX3_valuesRead_36 : decode cX3_valuesRead 36 = .ok (.aload_n 0, 1) := by decide +kernel
theorem dX3_valuesRead_37 : decode cX3_valuesRead 37 = .ok (.getfield 29, 3) := by decide +kernel
theorem dX3_valuesRead_40 : decode cX3_valuesRead 40 = .ok (.aload_n 0, 1) := by decide +kernel
theorem dX3_valuesRead_41 : decode cX3_valuesRead 41 = .ok (.getfield 21, 3) := by decide +kernel
theorem dX3_valuesRead_44 : decode cX3_valuesRead 44 = .ok (.iload_n 1, 1) := by decide +kernel
theorem dX3_valuesRead_45 : decode cX3_valuesRead 45 = .ok (.invokevirtual 48, 3) := by decide +kernel
theorem dX3_valuesRead_48 : decode cX3_valuesRead 48 = .ok (.iload_n 2, 1) := by decide +kernel
theorem dX3_valuesRead_49 : decode cX3_valuesRead 49 = .ok (.invokevirtual 54, 3) := by decide +kernel
theorem dX3_valuesRead_52 : decode cX3_valuesRead 52 = .ok (.aload_n 0, 1) := by decide +kernel
theorem dX3_valuesRead_53 : decode cX3_valuesRead 53 = .ok (.getfield 29, 3) := by decide +kernel
theorem dX3_valuesRead_56 : decode cX3_valuesRead 56 = .ok (.areturn, 1) := by decide +kernel
theorem dX3_valueRead_0 : decode cX3_valueRead 0 = .ok (.aload_n 0, 1) := by decide +kernel
theorem dX3_valueRead_1 : decode cX3_valueRead 1 = .ok (.getfield 12, 3) := by decide +kernel
theorem dX3_valueRead_4 : decode cX3_valueRead 4 = .ok (.iload_n 2, 1) := by decide +kernel
theorem dX3_valueRead_5 : decode cX3_valueRead 5 = .ok (.iload_n 3, 1) := by decide +kernel
theorem dX3_valueRead_6 : decode cX3_valueRead 6 = .ok (.invokevirtual 57, 3) := by decide +kernel
theorem dX3_valueRead_9 : decode cX3_valueRead 9 = .ok (.istore 4, 2) := by decide +kernel
theorem dX3_valueRead_11 : decode cX3_valueRead 11 = .ok (.iload 4, 2) := by decide +kernel
theorem dX3_valueRead_13 : decode cX3_valueRead 13 = .ok (.iconst (-1), 1) := by decide +kernel
theorem dX3_valueRead_14 : decode cX3_valueRead 14 = .ok (.if_icmp .ne 7, 3) := by decide +kernel
theorem dX3_valueRead_17 : decode cX3_valueRead 17 = .ok (.iconst (-1), 1) := by decide +kernel
theorem dX3_valueRead_18 : decode cX3_valueRead 18 = .ok (.goto 14, 3) := by decide +kernel
theorem dX3_valueRead_21 : decode cX3_valueRead 21 = .ok (.aload_n 0, 1) := by decide +kernel
theorem dX3_valueRead_22 : decode cX3_valueRead 22 = .ok (.iload_n 1, 1) := by decide +kernel
theorem dX3_valueRead_23 : decode cX3_valueRead 23 = .ok (.iload_n 2, 1) := by decide +kernel
theorem dX3_valueRead_24 : decode cX3_valueRead 24 = .ok (.invokevirtual 61, 3) := by decide +kernel
theorem dX3_valueRead_27 : decode cX3_valueRead 27 = .ok (.iload 4, 2) := by decide +kernel
theorem dX3_valueRead_29 : decode cX3_valueRead 29 = .ok (.invokestatic 32, 3) := by decide +kernel
theorem dX3_valueRead_32 : decode cX3_valueRead 32 = .ok (.ireturn, 1) := by decide +kernel
theorem dX3_refusal_0 : decode cX3_refusal 0 = .ok (.aload_n 0, 1) := by decide +kernel
theorem dX3_refusal_1 : decode cX3_refusal 1 = .ok (.getfield 12, 3) := by decide +kernel
theorem dX3_refusal_4 : decode cX3_refusal 4 = .ok (.iload_n 2, 1) := by decide +kernel
theorem dX3_refusal_5 : decode cX3_refusal 5 = .ok (.iload_n 3, 1) := by decide +kernel
theorem dX3_refusal_6 : decode cX3_refusal 6 = .ok (.invokevirtual 57, 3) := by decide +kernel
theorem dX3_refusal_9 : decode cX3_refusal 9 = .ok (.istore 4, 2) := by decide +kernel
theorem dX3_refusal_11 : decode cX3_refusal 11 = .ok (.iload 4, 2) := by decide +kernel
theorem dX3_refusal_13 : decode cX3_refusal 13 = .ok (.iconst (-1), 1) := by decide +kernel
theorem dX3_refusal_14 : decode cX3_refusal 14 = .ok (.if_icmp .ne 5, 3) := by decide +kernel
theorem dX3_refusal_17 : decode cX3_refusal 17 = .ok (.iconst 1, 1) := by decide +kernel
theorem dX3_refusal_18 : decode cX3_refusal 18 = .ok (.ireturn, 1) := by decide +kernel
theorem dX3_refusal_19 : decode cX3_refusal 19 = .ok (.aload_n 0, 1) := by decide +kernel
theorem dX3_refusal_20 : decode cX3_refusal 20 = .ok (.getfield 21, 3) := by decide +kernel
theorem dX3_refusal_23 : decode cX3_refusal 23 = .ok (.iload_n 1, 1) := by decide +kernel
theorem dX3_refusal_24 : decode cX3_refusal 24 = .ok (.invokevirtual 48, 3) := by decide +kernel
theorem dX3_refusal_27 : decode cX3_refusal 27 = .ok (.istore 5, 2) := by decide +kernel
theorem dX3_refusal_29 : decode cX3_refusal 29 = .ok (.iload 5, 2) := by decide +kernel
theorem dX3_refusal_31 : decode cX3_refusal 31 = .ok (.iload_n 2, 1) := by decide +kernel
theorem dX3_refusal_32 : decode cX3_refusal 32 = .ok (.if_icmp .lt 17, 3) := by decide +kernel
theorem dX3_refusal_35 : decode cX3_refusal 35 = .ok (.aload_n 0, 1) := by decide +kernel
theorem dX3_refusal_36 : decode cX3_refusal 36 = .ok (.getfield 12, 3) := by decide +kernel
theorem dX3_refusal_39 : decode cX3_refusal 39 = .ok (.iload 5, 2) := by decide +kernel
theorem dX3_refusal_41 : decode cX3_refusal 41 = .ok (.iload 4, 2) := by decide +kernel
theorem dX3_refusal_43 : decode cX3_refusal 43 = .ok (.invokevirtual 65, 3) := by decide +kernel
theorem dX3_refusal_46 : decode cX3_refusal 46 = .ok (.ifCond .eq 7, 3) := by decide +kernel
theorem dX3_refusal_49 : decode cX3_refusal 49 = .ok (.iconst 0, 1) := by decide +kernel
theorem dX3_refusal_50 : decode cX3_refusal 50 = .ok (.goto 4, 3) := by decide +kernel
theorem dX3_refusal_53 : decode cX3_refusal 53 = .ok (.iconst 2, 1) := by decide +kernel
theorem dX3_refusal_54 : decode cX3_refusal 54 = .ok (.ireturn, 1) := by decide +kernel
theorem dX3_writeValue_0 : decode cX3_writeValue 0 = .ok (.aload_n 0, 1) := by decide +kernel
theorem dX3_writeValue_1 : decode cX3_writeValue 1 = .ok (.getfield 12, 3) := by decide +kernel
theorem dX3_writeValue_4 : decode cX3_writeValue 4 = .ok (.iload_n 2, 1) := by decide +kernel
theorem dX3_writeValue_5 : decode cX3_writeValue 5 = .ok (.iload_n 3, 1) := by decide +kernel
theorem dX3_writeValue_6 : decode cX3_writeValue 6 = .ok (.invokevirtual 57, 3) := by decide +kernel
theorem dX3_writeValue_9 : decode cX3_writeValue 9 = .ok (.istore 5, 2) := by decide +kernel
theorem dX3_writeValue_11 : decode cX3_writeValue 11 = .ok (.aload_n 0, 1) := by decide +kernel
theorem dX3_writeValue_12 : decode cX3_writeValue 12 = .ok (.getfield 12, 3) := by decide +kernel
theorem dX3_writeValue_15 : decode cX3_writeValue 15 = .ok (.aload_n 0, 1) := by decide +kernel
theorem dX3_writeValue_16 : decode cX3_writeValue 16 = .ok (.getfield 21, 3) := by decide +kernel
theorem dX3_writeValue_19 : decode cX3_writeValue 19 = .ok (.iload_n 1, 1) := by decide +kernel
theorem dX3_writeValue_20 : decode cX3_writeValue 20 = .ok (.invokevirtual 48, 3) := by decide +kernel
theorem dX3_writeValue_23 : decode cX3_writeValue 23 = .ok (.iload 5, 2) := by decide +kernel
theorem dX3_writeValue_25 : decode cX3_writeValue 25 = .ok (.invokevirtual 65, 3) := by decide +kernel
theorem dX3_writeValue_28 : decode cX3_writeValue 28 = .ok (.ifCond .ne 18, 3) := by decide +kernel
theorem dX3_writeValue_31 : decode cX3_writeValue 31 = .ok (.aload_n 0, 1) := by decide +kernel
theorem dX3_writeValue_32 : decode cX3_writeValue 32 = .ok (.getfield 21, 3) := by decide +kernel
theorem dX3_writeValue_35 : decode cX3_writeValue 35 = .ok (.iload_n 1, 1) := by decide +kernel
theorem dX3_writeValue_36 : decode cX3_writeValue 36 = .ok (.iload_n 2, 1) := by decide +kernel
theorem dX3_writeValue_37 : decode cX3_writeValue 37 = .ok (.aload_n 0, 1) := by decide +kernel
theorem dX3_writeValue_38 : decode cX3_writeValue 38 = .ok (.iload_n 1, 1) := by decide +kernel
theorem dX3_writeValue_39 : decode cX3_writeValue 39 = .ok (.iload_n 2, 1) := by decide +kernel
theorem dX3_writeValue_40 : decode cX3_writeValue 40 = .ok (.invokevirtual 61, 3) := by decide +kernel
theorem dX3_writeValue_43 : decode cX3_writeValue 43 = .ok (.invokevirtual 69, 3) := by decide +kernel
theorem dX3_writeValue_46 : decode cX3_writeValue 46 = .ok (.aload_n 0, 1) := by decide +kernel
theorem dX3_writeValue_47 : decode cX3_writeValue 47 = .ok (.getfield 21, 3) := by decide +kernel
theorem dX3_writeValue_50 : decode cX3_writeValue 50 = .ok (.iload_n 1, 1) := by decide +kernel
theorem dX3_writeValue_51 : decode cX3_writeValue 51 = .ok (.iload 5, 2) := by decide +kernel
theorem dX3_writeValue_53 : decode cX3_writeValue 53 = .ok (.iload 4, 2) := by decide +kernel
theorem dX3_writeValue_55 : decode cX3_writeValue 55 = .ok (.invokevirtual 73, 3) := by decide +kernel
theorem dX3_writeValue_58 : decode cX3_writeValue 58 = .ok (.aload_n 0, 1) := by decide +kernel
theorem dX3_writeValue_59 : decode cX3_writeValue 59 = .ok (.getfield 21, 3) := by decide +kernel
theorem dX3_writeValue_62 : decode cX3_writeValue 62 = .ok (.iload_n 1, 1) := by decide +kernel
theorem dX3_writeValue_63 : decode cX3_writeValue 63 = .ok (.invokevirtual 48, 3) := by decide +kernel
theorem dX3_writeValue_66 : decode cX3_writeValue 66 = .ok (.ireturn, 1) := by decide +kernel
theorem dX3_stepOn_0 : decode cX3_stepOn 0 = .ok (.aload_n 0, 1) := by decide +kernel
theorem dX3_stepOn_1 : decode cX3_stepOn 1 = .ok (.getfield 21, 3) := by decide +kernel
theorem dX3_stepOn_4 : decode cX3_stepOn 4 = .ok (.invokevirtual 77, 3) := by decide +kernel
theorem dX3_stepOn_7 : decode cX3_stepOn 7 = .ok (.istore_n 2, 1) := by decide +kernel
theorem dX3_stepOn_8 : decode cX3_stepOn 8 = .ok (.iconst 0, 1) := by decide +kernel
theorem dX3_stepOn_9 : decode cX3_stepOn 9 = .ok (.istore_n 3, 1) := by decide +kernel
theorem dX3_stepOn_10 : decode cX3_stepOn 10 = .ok (.iload_n 3, 1) := by decide +kernel
theorem dX3_stepOn_11 : decode cX3_stepOn 11 = .ok (.iload_n 1, 1) := by decide +kernel
theorem dX3_stepOn_12 : decode cX3_stepOn 12 = .ok (.if_icmp .ge 13, 3) := by decide +kernel
theorem dX3_stepOn_15 : decode cX3_stepOn 15 = .ok (.aload_n 0, 1) := by decide +kernel
theorem dX3_stepOn_16 : decode cX3_stepOn 16 = .ok (.invokevirtual 81, 3) := by decide +kernel
theorem dX3_stepOn_19 : decode cX3_stepOn 19 = .ok (.iinc 3 1, 3) := by decide +kernel
theorem dX3_stepOn_22 : decode cX3_stepOn 22 = .ok (.goto (-12), 3) := by decide +kernel
theorem dX3_stepOn_25 : decode cX3_stepOn 25 = .ok (.aload_n 0, 1) := by decide +kernel
theorem dX3_stepOn_26 : decode cX3_stepOn 26 = .ok (.getfield 21, 3) := by decide +kernel
theorem dX3_stepOn_29 : decode cX3_stepOn 29 = .ok (.invokevirtual 77, 3) := by decide +kernel
theorem dX3_stepOn_32 : decode cX3_stepOn 32 = .ok (.iload_n 2, 1) := by decide +kernel
theorem dX3_stepOn_33 : decode cX3_stepOn 33 = .ok (.isub, 1) := by decide +kernel
theorem dX3_stepOn_34 : decode cX3_stepOn 34 = .ok (.ireturn, 1) := by decide +kernel
theorem dX3_stepsLeft_0 : decode cX3_stepsLeft 0 = .ok (.iconst 0, 1) := by decide +kernel
theorem dX3_stepsLeft_1 : decode cX3_stepsLeft 1 = .ok (.istore_n 1, 1) := by decide +kernel
theorem dX3_stepsLeft_2 : decode cX3_stepsLeft 2 = .ok (.iconst 0, 1) := by decide +kernel
theorem dX3_stepsLeft_3 : decode cX3_stepsLeft 3 = .ok (.istore_n 2, 1) := by decide +kernel
theorem dX3_stepsLeft_4 : decode cX3_stepsLeft 4 = .ok (.iload_n 2, 1) := by decide +kernel
theorem dX3_stepsLeft_5 : decode cX3_stepsLeft 5 = .ok (.aload_n 0, 1) := by decide +kernel
theorem dX3_stepsLeft_6 : decode cX3_stepsLeft 6 = .ok (.getfield 21, 3) := by decide +kernel
theorem dX3_stepsLeft_9 : decode cX3_stepsLeft 9 = .ok (.invokevirtual 84, 3) := by decide +kernel
theorem dX3_stepsLeft_12 : decode cX3_stepsLeft 12 = .ok (.if_icmp .ge 54, 3) := by decide +kernel
theorem dX3_stepsLeft_15 : decode cX3_stepsLeft 15 = .ok (.aload_n 0, 1) := by decide +kernel
theorem dX3_stepsLeft_16 : decode cX3_stepsLeft 16 = .ok (.getfield 21, 3) := by decide +kernel
theorem dX3_stepsLeft_19 : decode cX3_stepsLeft 19 = .ok (.invokevirtual 87, 3) := by decide +kernel
theorem dX3_stepsLeft_22 : decode cX3_stepsLeft 22 = .ok (.iload_n 2, 1) := by decide +kernel
theorem dX3_stepsLeft_23 : decode cX3_stepsLeft 23 = .ok (.iadd, 1) := by decide +kernel
theorem dX3_stepsLeft_24 : decode cX3_stepsLeft 24 = .ok (.istore_n 3, 1) := by decide +kernel
theorem dX3_stepsLeft_25 : decode cX3_stepsLeft 25 = .ok (.aload_n 0, 1) := by decide +kernel
theorem dX3_stepsLeft_26 : decode cX3_stepsLeft 26 = .ok (.iload_n 3, 1) := by decide +kernel
theorem dX3_stepsLeft_27 : decode cX3_stepsLeft 27 = .ok (.aload_n 0, 1) := by decide +kernel
theorem dX3_stepsLeft_28 : decode cX3_stepsLeft 28 = .ok (.getfield 21, 3) := by decide +kernel
theorem dX3_stepsLeft_31 : decode cX3_stepsLeft 31 = .ok (.invokevirtual 84, 3) := by decide +kernel
theorem dX3_stepsLeft_34 : decode cX3_stepsLeft 34 = .ok (.if_icmp .ge 7, 3) := by decide +kernel
theorem dX3_stepsLeft_37 : decode cX3_stepsLeft 37 = .ok (.iload_n 3, 1) := by decide +kernel
theorem dX3_stepsLeft_38 : decode cX3_stepsLeft 38 = .ok (.goto 12, 3) := by decide +kernel
theorem dX3_stepsLeft_41 : decode cX3_stepsLeft 41 = .ok (.iload_n 3, 1) := by decide +kernel
theorem dX3_stepsLeft_42 : decode cX3_stepsLeft 42 = .ok (.aload_n 0, 1) := by decide +kernel
theorem dX3_stepsLeft_43 : decode cX3_stepsLeft 43 = .ok (.getfield 21, 3) := by decide +kernel
theorem dX3_stepsLeft_46 : decode cX3_stepsLeft 46 = .ok (.invokevirtual 84, 3) := by decide +kernel
theorem dX3_stepsLeft_49 : decode cX3_stepsLeft 49 = .ok (.isub, 1) := by decide +kernel
theorem dX3_stepsLeft_50 : decode cX3_stepsLeft 50 = .ok (.invokevirtual 90, 3) := by decide +kernel
theorem dX3_stepsLeft_53 : decode cX3_stepsLeft 53 = .ok (.ifCond .eq 7, 3) := by decide +kernel
theorem dX3_stepsLeft_56 : decode cX3_stepsLeft 56 = .ok (.iload_n 2, 1) := by decide +kernel
theorem dX3_stepsLeft_57 : decode cX3_stepsLeft 57 = .ok (.iconst 1, 1) := by decide +kernel
theorem dX3_stepsLeft_58 : decode cX3_stepsLeft 58 = .ok (.iadd, 1) := by decide +kernel
theorem dX3_stepsLeft_59 : decode cX3_stepsLeft 59 = .ok (.istore_n 1, 1) := by decide +kernel
theorem dX3_stepsLeft_60 : decode cX3_stepsLeft 60 = .ok (.iinc 2 1, 3) := by decide +kernel
theorem dX3_stepsLeft_63 : decode cX3_stepsLeft 63 = .ok (.goto (-59), 3) := by decide +kernel
theorem dX3_stepsLeft_66 : decode cX3_stepsLeft 66 = .ok (.iload_n 1, 1) := by decide +kernel
theorem dX3_stepsLeft_67 : decode cX3_stepsLeft 67 = .ok (.ireturn, 1) := by decide +kernel
theorem dX3_rowsBehind_0 : decode cX3_rowsBehind 0 = .ok (.aload_n 0, 1) := by decide +kernel
theorem dX3_rowsBehind_1 : decode cX3_rowsBehind 1 = .ok (.getfield 21, 3) := by decide +kernel
theorem dX3_rowsBehind_4 : decode cX3_rowsBehind 4 = .ok (.invokevirtual 84, 3) := by decide +kernel
theorem dX3_rowsBehind_7 : decode cX3_rowsBehind 7 = .ok (.aload_n 0, 1) := by decide +kernel
theorem dX3_rowsBehind_8 : decode cX3_rowsBehind 8 = .ok (.aload_n 0, 1) := by decide +kernel
theorem dX3_rowsBehind_9 : decode cX3_rowsBehind 9 = .ok (.getfield 12, 3) := by decide +kernel
theorem dX3_rowsBehind_12 : decode cX3_rowsBehind 12 = .ok (.invokevirtual 94, 3) := by decide +kernel
theorem dX3_rowsBehind_15 : decode cX3_rowsBehind 15 = .ok (.invokevirtual 97, 3) := by decide +kernel
theorem dX3_rowsBehind_18 : decode cX3_rowsBehind 18 = .ok (.isub, 1) := by decide +kernel
theorem dX3_rowsBehind_19 : decode cX3_rowsBehind 19 = .ok (.ireturn, 1) := by decide +kernel
theorem dX3_oldestNeeded_0 : decode cX3_oldestNeeded 0 = .ok (.aload_n 0, 1) := by decide +kernel
theorem dX3_oldestNeeded_1 : decode cX3_oldestNeeded 1 = .ok (.getfield 12, 3) := by decide +kernel
theorem dX3_oldestNeeded_4 : decode cX3_oldestNeeded 4 = .ok (.invokevirtual 94, 3) := by decide +kernel
theorem dX3_oldestNeeded_7 : decode cX3_oldestNeeded 7 = .ok (.istore_n 1, 1) := by decide +kernel
theorem dX3_oldestNeeded_8 : decode cX3_oldestNeeded 8 = .ok (.iconst 0, 1) := by decide +kernel
theorem dX3_oldestNeeded_9 : decode cX3_oldestNeeded 9 = .ok (.istore_n 2, 1) := by decide +kernel
theorem dX3_oldestNeeded_10 : decode cX3_oldestNeeded 10 = .ok (.iload_n 2, 1) := by decide +kernel
theorem dX3_oldestNeeded_11 : decode cX3_oldestNeeded 11 = .ok (.aload_n 0, 1) := by decide +kernel
theorem dX3_oldestNeeded_12 : decode cX3_oldestNeeded 12 = .ok (.getfield 21, 3) := by decide +kernel
theorem dX3_oldestNeeded_15 : decode cX3_oldestNeeded 15 = .ok (.invokevirtual 84, 3) := by decide +kernel
theorem dX3_oldestNeeded_18 : decode cX3_oldestNeeded 18 = .ok (.if_icmp .ge 22, 3) := by decide +kernel
theorem dX3_oldestNeeded_21 : decode cX3_oldestNeeded 21 = .ok (.iload_n 1, 1) := by decide +kernel
theorem dX3_oldestNeeded_22 : decode cX3_oldestNeeded 22 = .ok (.aload_n 0, 1) := by decide +kernel
theorem dX3_oldestNeeded_23 : decode cX3_oldestNeeded 23 = .ok (.getfield 21, 3) := by decide +kernel
theorem dX3_oldestNeeded_26 : decode cX3_oldestNeeded 26 = .ok (.iload_n 2, 1) := by decide +kernel
theorem dX3_oldestNeeded_27 : decode cX3_oldestNeeded 27 = .ok (.invokevirtual 48, 3) := by decide +kernel
theorem dX3_oldestNeeded_30 : decode cX3_oldestNeeded 30 = .ok (.invokestatic 100, 3) := by decide +kernel
theorem dX3_oldestNeeded_33 : decode cX3_oldestNeeded 33 = .ok (.istore_n 1, 1) := by decide +kernel
theorem dX3_oldestNeeded_34 : decode cX3_oldestNeeded 34 = .ok (.iinc 2 1, 3) := by decide +kernel
theorem dX3_oldestNeeded_37 : decode cX3_oldestNeeded 37 = .ok (.goto (-27), 3) := by decide +kernel
theorem dX3_oldestNeeded_40 : decode cX3_oldestNeeded 40 = .ok (.iconst 0, 1) := by decide +kernel
theorem dX3_oldestNeeded_41 : decode cX3_oldestNeeded 41 = .ok (.istore_n 2, 1) := by decide +kernel
theorem dX3_oldestNeeded_42 : decode cX3_oldestNeeded 42 = .ok (.iload_n 2, 1) := by decide +kernel
theorem dX3_oldestNeeded_43 : decode cX3_oldestNeeded 43 = .ok (.iconst 4, 1) := by decide +kernel
theorem dX3_oldestNeeded_44 : decode cX3_oldestNeeded 44 = .ok (.if_icmp .ge 19, 3) := by decide +kernel
theorem dX3_oldestNeeded_47 : decode cX3_oldestNeeded 47 = .ok (.iload_n 1, 1) := by decide +kernel
theorem dX3_oldestNeeded_48 : decode cX3_oldestNeeded 48 = .ok (.aload_n 0, 1) := by decide +kernel
theorem dX3_oldestNeeded_49 : decode cX3_oldestNeeded 49 = .ok (.iload_n 2, 1) := by decide +kernel
theorem dX3_oldestNeeded_50 : decode cX3_oldestNeeded 50 = .ok (.invokevirtual 36, 3) := by decide +kernel
theorem dX3_oldestNeeded_53 : decode cX3_oldestNeeded 53 = .ok (.invokestatic 100, 3) := by decide +kernel
theorem dX3_oldestNeeded_56 : decode cX3_oldestNeeded 56 = .ok (.istore_n 1, 1) := by decide +kernel
theorem dX3_oldestNeeded_57 : decode cX3_oldestNeeded 57 = .ok (.iinc 2 1, 3) := by decide +kernel
theorem dX3_oldestNeeded_60 : decode cX3_oldestNeeded 60 = .ok (.goto (-18), 3) := by decide +kernel
theorem dX3_oldestNeeded_63 : decode cX3_oldestNeeded 63 = .ok (.iload_n 1, 1) := by decide +kernel
theorem dX3_oldestNeeded_64 : decode cX3_oldestNeeded 64 = .ok (.ireturn, 1) := by decide +kernel
theorem dX3_valuesLost_0 : decode cX3_valuesLost 0 = .ok (.aload_n 0, 1) := by decide +kernel
theorem dX3_valuesLost_1 : decode cX3_valuesLost 1 = .ok (.getfield 21, 3) := by decide +kernel
theorem dX3_valuesLost_4 : decode cX3_valuesLost 4 = .ok (.iload_n 1, 1) := by decide +kernel
theorem dX3_valuesLost_5 : decode cX3_valuesLost 5 = .ok (.invokevirtual 48, 3) := by decide +kernel
theorem dX3_valuesLost_8 : decode cX3_valuesLost 8 = .ok (.istore_n 3, 1) := by decide +kernel
theorem dX3_valuesLost_9 : decode cX3_valuesLost 9 = .ok (.aload_n 0, 1) := by decide +kernel
theorem dX3_valuesLost_10 : decode cX3_valuesLost 10 = .ok (.iload_n 1, 1) := by decide +kernel
theorem dX3_valuesLost_11 : decode cX3_valuesLost 11 = .ok (.iload_n 2, 1) := by decide +kernel
theorem dX3_valuesLost_12 : decode cX3_valuesLost 12 = .ok (.invokevirtual 61, 3) := by decide +kernel
theorem dX3_valuesLost_15 : decode cX3_valuesLost 15 = .ok (.astore 4, 2) := by decide +kernel
theorem dX3_valuesLost_17 : decode cX3_valuesLost 17 = .ok (.aload_n 0, 1) := by decide +kernel
theorem dX3_valuesLost_18 : decode cX3_valuesLost 18 = .ok (.getfield 12, 3) := by decide +kernel
theorem dX3_valuesLost_21 : decode cX3_valuesLost 21 = .ok (.aload 4, 2) := by decide +kernel
theorem dX3_valuesLost_23 : decode cX3_valuesLost 23 = .ok (.iload_n 2, 1) := by decide +kernel
theorem dX3_valuesLost_24 : decode cX3_valuesLost 24 = .ok (.iload_n 3, 1) := by decide +kernel
theorem dX3_valuesLost_25 : decode cX3_valuesLost 25 = .ok (.invokevirtual 51, 3) := by decide +kernel
theorem dX3_valuesLost_28 : decode cX3_valuesLost 28 = .ok (.aload_n 0, 1) := by decide +kernel
theorem dX3_valuesLost_29 : decode cX3_valuesLost 29 = .ok (.getfield 12, 3) := by decide +kernel
theorem dX3_valuesLost_32 : decode cX3_valuesLost 32 = .ok (.aload 4, 2) := by decide +kernel
theorem dX3_valuesLost_34 : decode cX3_valuesLost 34 = .ok (.iload_n 2, 1) := by decide +kernel
theorem dX3_valuesLost_35 : decode cX3_valuesLost 35 = .ok (.iload_n 3, 1) := by decide +kernel
theorem dX3_valuesLost_36 : decode cX3_valuesLost 36 = .ok (.invokevirtual 54, 3) := by decide +kernel
theorem dX3_valuesLost_39 : decode cX3_valuesLost 39 = .ok (.iconst 0, 1) := by decide +kernel
theorem dX3_valuesLost_40 : decode cX3_valuesLost 40 = .ok (.istore 5, 2) := by decide +kernel
theorem dX3_valuesLost_42 : decode cX3_valuesLost 42 = .ok (.iconst 0, 1) := by decide +kernel
theorem dX3_valuesLost_43 : decode cX3_valuesLost 43 = .ok (.istore 6, 2) := by decide +kernel
theorem dX3_valuesLost_45 : decode cX3_valuesLost 45 = .ok (.iload 6, 2) := by decide +kernel
theorem dX3_valuesLost_47 : decode cX3_valuesLost 47 = .ok (.aload_n 0, 1) := by decide +kernel
theorem dX3_valuesLost_48 : decode cX3_valuesLost 48 = .ok (.getfield 12, 3) := by decide +kernel
theorem dX3_valuesLost_51 : decode cX3_valuesLost 51 = .ok (.iload_n 3, 1) := by decide +kernel
theorem dX3_valuesLost_52 : decode cX3_valuesLost 52 = .ok (.invokevirtual 105, 3) := by decide +kernel
theorem dX3_valuesLost_55 : decode cX3_valuesLost 55 = .ok (.if_icmp .ge 44, 3) := by decide +kernel
theorem dX3_valuesLost_58 : decode cX3_valuesLost 58 = .ok (.aload_n 0, 1) := by decide +kernel
theorem dX3_valuesLost_59 : decode cX3_valuesLost 59 = .ok (.getfield 12, 3) := by decide +kernel
theorem dX3_valuesLost_62 : decode cX3_valuesLost 62 = .ok (.iload_n 3, 1) := by decide +kernel
theorem dX3_valuesLost_63 : decode cX3_valuesLost 63 = .ok (.iload 6, 2) := by decide +kernel
theorem dX3_valuesLost_65 : decode cX3_valuesLost 65 = .ok (.invokevirtual 108, 3) := by decide +kernel
theorem dX3_valuesLost_68 : decode cX3_valuesLost 68 = .ok (.istore 7, 2) := by decide +kernel
theorem dX3_valuesLost_70 : decode cX3_valuesLost 70 = .ok (.aload 4, 2) := by decide +kernel
theorem dX3_valuesLost_72 : decode cX3_valuesLost 72 = .ok (.iload 7, 2) := by decide +kernel
theorem dX3_valuesLost_74 : decode cX3_valuesLost 74 = .ok (.invokestatic 32, 3) := by decide +kernel
theorem dX3_valuesLost_77 : decode cX3_valuesLost 77 = .ok (.aload_n 0, 1) := by decide +kernel
theorem dX3_valuesLost_78 : decode cX3_valuesLost 78 = .ok (.getfield 21, 3) := by decide +kernel
theorem dX3_valuesLost_81 : decode cX3_valuesLost 81 = .ok (.iload_n 1, 1) := by decide +kernel
theorem dX3_valuesLost_82 : decode cX3_valuesLost 82 = .ok (.iload 7, 2) := by decide +kernel
theorem dX3_valuesLost_84 : decode cX3_valuesLost 84 = .ok (.invokevirtual 111, 3) := by decide +kernel
theorem dX3_valuesLost_87 : decode cX3_valuesLost 87 = .ok (.if_icmp .eq 6, 3) := by decide +kernel
theorem dX3_valuesLost_90 : decode cX3_valuesLost 90 = .ok (.iinc 5 1, 3) := by decide +kernel
theorem dX3_valuesLost_93 : decode cX3_valuesLost 93 = .ok (.iinc 6 1, 3) := by decide +kernel
theorem dX3_valuesLost_96 : decode cX3_valuesLost 96 = .ok (.goto (-51), 3) := by decide +kernel
theorem dX3_valuesLost_99 : decode cX3_valuesLost 99 = .ok (.iload 5, 2) := by decide +kernel
theorem dX3_valuesLost_101 : decode cX3_valuesLost 101 = .ok (.ireturn, 1) := by decide +kernel
theorem dX3_rowsWith_0 : decode cX3_rowsWith 0 = .ok (.iconst 0, 1) := by decide +kernel
theorem dX3_rowsWith_1 : decode cX3_rowsWith 1 = .ok (.istore 4, 2) := by decide +kernel
theorem dX3_rowsWith_3 : decode cX3_rowsWith 3 = .ok (.iconst 0, 1) := by decide +kernel
theorem dX3_rowsWith_4 : decode cX3_rowsWith 4 = .ok (.istore 5, 2) := by decide +kernel
theorem dX3_rowsWith_6 : decode cX3_rowsWith 6 = .ok (.iload 5, 2) := by decide +kernel
theorem dX3_rowsWith_8 : decode cX3_rowsWith 8 = .ok (.aload_n 0, 1) := by decide +kernel
theorem dX3_rowsWith_9 : decode cX3_rowsWith 9 = .ok (.getfield 21, 3) := by decide +kernel
theorem dX3_rowsWith_12 : decode cX3_rowsWith 12 = .ok (.invokevirtual 84, 3) := by decide +kernel
theorem dX3_rowsWith_15 : decode cX3_rowsWith 15 = .ok (.if_icmp .ge 30, 3) := by decide +kernel
theorem dX3_rowsWith_18 : decode cX3_rowsWith 18 = .ok (.aload_n 0, 1) := by decide +kernel
theorem dX3_rowsWith_19 : decode cX3_rowsWith 19 = .ok (.iload 5, 2) := by decide +kernel
theorem dX3_rowsWith_21 : decode cX3_rowsWith 21 = .ok (.iload_n 1, 1) := by decide +kernel
theorem dX3_rowsWith_22 : decode cX3_rowsWith 22 = .ok (.iload_n 2, 1) := by decide +kernel
theorem dX3_rowsWith_23 : decode cX3_rowsWith 23 = .ok (.invokevirtual 114, 3) := by decide +kernel
theorem dX3_rowsWith_26 : decode cX3_rowsWith 26 = .ok (.iload_n 3, 1) := by decide +kernel
theorem dX3_rowsWith_27 : decode cX3_rowsWith 27 = .ok (.if_icmp .ne 12, 3) := by decide +kernel
theorem dX3_rowsWith_30 : decode cX3_rowsWith 30 = .ok (.iload 4, 2) := by decide +kernel
theorem dX3_rowsWith_32 : decode cX3_rowsWith 32 = .ok (.iconst 1, 1) := by decide +kernel
theorem dX3_rowsWith_33 : decode cX3_rowsWith 33 = .ok (.iload 5, 2) := by decide +kernel
theorem dX3_rowsWith_35 : decode cX3_rowsWith 35 = .ok (.ishl, 1) := by decide +kernel
theorem dX3_rowsWith_36 : decode cX3_rowsWith 36 = .ok (.ior, 1) := by decide +kernel
theorem dX3_rowsWith_37 : decode cX3_rowsWith 37 = .ok (.istore 4, 2) := by decide +kernel
theorem dX3_rowsWith_39 : decode cX3_rowsWith 39 = .ok (.iinc 5 1, 3) := by decide +kernel
theorem dX3_rowsWith_42 : decode cX3_rowsWith 42 = .ok (.goto (-36), 3) := by decide +kernel
theorem dX3_rowsWith_45 : decode cX3_rowsWith 45 = .ok (.iload 4, 2) := by decide +kernel
theorem dX3_rowsWith_47 : decode cX3_rowsWith 47 = .ok (.ireturn, 1) := by decide +kernel
theorem dX3_shapeProperty_0 : decode cX3_shapeProperty 0 = .ok (.iload_n 2, 1) := by decide +kernel
theorem dX3_shapeProperty_1 : decode cX3_shapeProperty 1 = .ok (.tableswitch 82 0 4 #[35, 44, 53, 59, 65], 35) := by decide +kernel
theorem dX3_shapeProperty_36 : decode cX3_shapeProperty 36 = .ok (.aload_n 0, 1) := by decide +kernel
theorem dX3_shapeProperty_37 : decode cX3_shapeProperty 37 = .ok (.getfield 12, 3) := by decide +kernel
theorem dX3_shapeProperty_40 : decode cX3_shapeProperty 40 = .ok (.iload_n 1, 1) := by decide +kernel
theorem dX3_shapeProperty_41 : decode cX3_shapeProperty 41 = .ok (.invokevirtual 105, 3) := by decide +kernel
theorem dX3_shapeProperty_44 : decode cX3_shapeProperty 44 = .ok (.ireturn, 1) := by decide +kernel
theorem dX3_shapeProperty_45 : decode cX3_shapeProperty 45 = .ok (.aload_n 0, 1) := by decide +kernel
theorem dX3_shapeProperty_46 : decode cX3_shapeProperty 46 = .ok (.getfield 12, 3) := by decide +kernel
theorem dX3_shapeProperty_49 : decode cX3_shapeProperty 49 = .ok (.iload_n 1, 1) := by decide +kernel
theorem dX3_shapeProperty_50 : decode cX3_shapeProperty 50 = .ok (.invokevirtual 118, 3) := by decide +kernel
theorem dX3_shapeProperty_53 : decode cX3_shapeProperty 53 = .ok (.ireturn, 1) := by decide +kernel
theorem dX3_shapeProperty_54 : decode cX3_shapeProperty 54 = .ok (.aload_n 0, 1) := by decide +kernel
theorem dX3_shapeProperty_55 : decode cX3_shapeProperty 55 = .ok (.iload_n 1, 1) := by decide +kernel
theorem dX3_shapeProperty_56 : decode cX3_shapeProperty 56 = .ok (.invokevirtual 97, 3) := by decide +kernel
theorem dX3_shapeProperty_59 : decode cX3_shapeProperty 59 = .ok (.ireturn, 1) := by decide +kernel
theorem dX3_shapeProperty_60 : decode cX3_shapeProperty 60 = .ok (.aload_n 0, 1) := by decide +kernel
theorem dX3_shapeProperty_61 : decode cX3_shapeProperty 61 = .ok (.iload_n 1, 1) := by decide +kernel
theorem dX3_shapeProperty_62 : decode cX3_shapeProperty 62 = .ok (.invokevirtual 121, 3) := by decide +kernel
theorem dX3_shapeProperty_65 : decode cX3_shapeProperty 65 = .ok (.ireturn, 1) := by decide +kernel
theorem dX3_shapeProperty_66 : decode cX3_shapeProperty 66 = .ok (.aload_n 0, 1) := by decide +kernel
theorem dX3_shapeProperty_67 : decode cX3_shapeProperty 67 = .ok (.getfield 12, 3) := by decide +kernel
theorem dX3_shapeProperty_70 : decode cX3_shapeProperty 70 = .ok (.iload_n 1, 1) := by decide +kernel
theorem dX3_shapeProperty_71 : decode cX3_shapeProperty 71 = .ok (.invokevirtual 124, 3) := by decide +kernel
theorem dX3_shapeProperty_74 : decode cX3_shapeProperty 74 = .ok (.ifCond .eq 7, 3) := by decide +kernel
theorem dX3_shapeProperty_77 : decode cX3_shapeProperty 77 = .ok (.iconst 1, 1) := by decide +kernel
theorem dX3_shapeProperty_78 : decode cX3_shapeProperty 78 = .ok (.goto 4, 3) := by decide +kernel
theorem dX3_shapeProperty_81 : decode cX3_shapeProperty 81 = .ok (.iconst 0, 1) := by decide +kernel
theorem dX3_shapeProperty_82 : decode cX3_shapeProperty 82 = .ok (.ireturn, 1) := by decide +kernel
theorem dX3_shapeProperty_83 : decode cX3_shapeProperty 83 = .ok (.aload_n 0, 1) := by decide +kernel
theorem dX3_shapeProperty_84 : decode cX3_shapeProperty 84 = .ok (.getfield 12, 3) := by decide +kernel
theorem dX3_shapeProperty_87 : decode cX3_shapeProperty 87 = .ok (.iload_n 1, 1) := by decide +kernel
theorem dX3_shapeProperty_88 : decode cX3_shapeProperty 88 = .ok (.invokevirtual 127, 3) := by decide +kernel
theorem dX3_shapeProperty_91 : decode cX3_shapeProperty 91 = .ok (.ireturn, 1) := by decide +kernel
theorem dX3_rowProperty_0 : decode cX3_rowProperty 0 = .ok (.aload_n 0, 1) := by decide +kernel
theorem dX3_rowProperty_1 : decode cX3_rowProperty 1 = .ok (.getfield 21, 3) := by decide +kernel
theorem dX3_rowProperty_4 : decode cX3_rowProperty 4 = .ok (.iload_n 1, 1) := by decide +kernel
theorem dX3_rowProperty_5 : decode cX3_rowProperty 5 = .ok (.invokevirtual 48, 3) := by decide +kernel
theorem dX3_rowProperty_8 : decode cX3_rowProperty 8 = .ok (.istore_n 3, 1) := by decide +kernel
theorem dX3_rowProperty_9 : decode cX3_rowProperty 9 = .ok (.iload_n 2, 1) := by decide +kernel
theorem dX3_rowProperty_10 : decode cX3_rowProperty 10 = .ok (.tableswitch 71 0 4 #[34, 36, 45, 55, 64], 34) := by decide +kernel
theorem dX3_rowProperty_44 : decode cX3_rowProperty 44 = .ok (.iload_n 3, 1) := by decide +kernel
theorem dX3_rowProperty_45 : decode cX3_rowProperty 45 = .ok (.ireturn, 1) := by decide +kernel
theorem dX3_rowProperty_46 : decode cX3_rowProperty 46 = .ok (.aload_n 0, 1) := by decide +kernel
theorem dX3_rowProperty_47 : decode cX3_rowProperty 47 = .ok (.getfield 12, 3) := by decide +kernel
theorem dX3_rowProperty_50 : decode cX3_rowProperty 50 = .ok (.iload_n 3, 1) := by decide +kernel
theorem dX3_rowProperty_51 : decode cX3_rowProperty 51 = .ok (.invokevirtual 105, 3) := by decide +kernel
theorem dX3_rowProperty_54 : decode cX3_rowProperty 54 = .ok (.ireturn, 1) := by decide +kernel
theorem dX3_rowProperty_55 : decode cX3_rowProperty 55 = .ok (.aload_n 0, 1) := by decide +kernel
theorem dX3_rowProperty_56 : decode cX3_rowProperty 56 = .ok (.getfield 12, 3) := by decide +kernel
theorem dX3_rowProperty_59 : decode cX3_rowProperty 59 = .ok (.invokevirtual 94, 3) := by decide +kernel
theorem dX3_rowProperty_62 : decode cX3_rowProperty 62 = .ok (.iload_n 3, 1) := by decide +kernel
theorem dX3_rowProperty_63 : decode cX3_rowProperty 63 = .ok (.isub, 1) := by decide +kernel
theorem dX3_rowProperty_64 : decode cX3_rowProperty 64 = .ok (.ireturn, 1) := by decide +kernel
theorem dX3_rowProperty_65 : decode cX3_rowProperty 65 = .ok (.aload_n 0, 1) := by decide +kernel
theorem dX3_rowProperty_66 : decode cX3_rowProperty 66 = .ok (.getfield 21, 3) := by decide +kernel
theorem dX3_rowProperty_69 : decode cX3_rowProperty 69 = .ok (.iload_n 1, 1) := by decide +kernel
theorem dX3_rowProperty_70 : decode cX3_rowProperty 70 = .ok (.invokevirtual 130, 3) := by decide +kernel
theorem dX3_rowProperty_73 : decode cX3_rowProperty 73 = .ok (.ireturn, 1) := by decide +kernel
theorem dX3_rowProperty_74 : decode cX3_rowProperty 74 = .ok (.aload_n 0, 1) := by decide +kernel
theorem dX3_rowProperty_75 : decode cX3_rowProperty 75 = .ok (.iload_n 1, 1) := by decide +kernel
theorem dX3_rowProperty_76 : decode cX3_rowProperty 76 = .ok (.iload_n 3, 1) := by decide +kernel
theorem dX3_rowProperty_77 : decode cX3_rowProperty 77 = .ok (.invokevirtual 133, 3) := by decide +kernel
theorem dX3_rowProperty_80 : decode cX3_rowProperty 80 = .ok (.ireturn, 1) := by decide +kernel
theorem dX3_rowProperty_81 : decode cX3_rowProperty 81 = .ok (.aload_n 0, 1) := by decide +kernel
theorem dX3_rowProperty_82 : decode cX3_rowProperty 82 = .ok (.iload_n 1, 1) := by decide +kernel
theorem dX3_rowProperty_83 : decode cX3_rowProperty 83 = .ok (.aload_n 0, 1) := by decide +kernel
theorem dX3_rowProperty_84 : decode cX3_rowProperty 84 = .ok (.getfield 12, 3) := by decide +kernel
theorem dX3_rowProperty_87 : decode cX3_rowProperty 87 = .ok (.invokevirtual 94, 3) := by decide +kernel
theorem dX3_rowProperty_90 : decode cX3_rowProperty 90 = .ok (.invokevirtual 133, 3) := by decide +kernel
theorem dX3_rowProperty_93 : decode cX3_rowProperty 93 = .ok (.ireturn, 1) := by decide +kernel
theorem dX3_takeFrom_0 : decode cX3_takeFrom 0 = .ok (.aload_n 0, 1) := by decide +kernel
theorem dX3_takeFrom_1 : decode cX3_takeFrom 1 = .ok (.getfield 12, 3) := by decide +kernel
theorem dX3_takeFrom_4 : decode cX3_takeFrom 4 = .ok (.aload_n 1, 1) := by decide +kernel
theorem dX3_takeFrom_5 : decode cX3_takeFrom 5 = .ok (.getfield 12, 3) := by decide +kernel
theorem dX3_takeFrom_8 : decode cX3_takeFrom 8 = .ok (.invokevirtual 136, 3) := by decide +kernel
theorem dX3_takeFrom_11 : decode cX3_takeFrom 11 = .ok (.aload_n 0, 1) := by decide +kernel
theorem dX3_takeFrom_12 : decode cX3_takeFrom 12 = .ok (.getfield 21, 3) := by decide +kernel
theorem dX3_takeFrom_15 : decode cX3_takeFrom 15 = .ok (.aload_n 1, 1) := by decide +kernel
theorem dX3_takeFrom_16 : decode cX3_takeFrom 16 = .ok (.getfield 21, 3) := by decide +kernel
theorem dX3_takeFrom_19 : decode cX3_takeFrom 19 = .ok (.invokevirtual 140, 3) := by decide +kernel
theorem dX3_takeFrom_22 : decode cX3_takeFrom 22 = .ok (.aload_n 1, 1) := by decide +kernel
theorem dX3_takeFrom_23 : decode cX3_takeFrom 23 = .ok (.getfield 25, 3) := by decide +kernel
theorem dX3_takeFrom_26 : decode cX3_takeFrom 26 = .ok (.aload_n 0, 1) := by decide +kernel
theorem dX3_takeFrom_27 : decode cX3_takeFrom 27 = .ok (.getfield 25, 3) := by decide +kernel
theorem dX3_takeFrom_30 : decode cX3_takeFrom 30 = .ok (.invokestatic 143, 3) := by decide +kernel
theorem dX3_takeFrom_33 : decode cX3_takeFrom 33 = .ok (.return_, 1) := by decide +kernel
theorem dX3_stepOnce_0 : decode cX3_stepOnce 0 = .ok (.aload_n 0, 1) := by decide +kernel
theorem dX3_stepOnce_1 : decode cX3_stepOnce 1 = .ok (.getfield 21, 3) := by decide +kernel
theorem dX3_stepOnce_4 : decode cX3_stepOnce 4 = .ok (.invokevirtual 84, 3) := by decide +kernel
theorem dX3_stepOnce_7 : decode cX3_stepOnce 7 = .ok (.ifCond .ne 4, 3) := by decide +kernel
theorem dX3_stepOnce_10 : decode cX3_stepOnce 10 = .ok (.return_, 1) := by decide +kernel
theorem dX3_stepOnce_11 : decode cX3_stepOnce 11 = .ok (.aload_n 0, 1) := by decide +kernel
theorem dX3_stepOnce_12 : decode cX3_stepOnce 12 = .ok (.getfield 21, 3) := by decide +kernel
theorem dX3_stepOnce_15 : decode cX3_stepOnce 15 = .ok (.invokevirtual 87, 3) := by decide +kernel
theorem dX3_stepOnce_18 : decode cX3_stepOnce 18 = .ok (.istore_n 1, 1) := by decide +kernel
theorem dX3_stepOnce_19 : decode cX3_stepOnce 19 = .ok (.aload_n 0, 1) := by decide +kernel
theorem dX3_stepOnce_20 : decode cX3_stepOnce 20 = .ok (.iload_n 1, 1) := by decide +kernel
theorem dX3_stepOnce_21 : decode cX3_stepOnce 21 = .ok (.invokevirtual 90, 3) := by decide +kernel
theorem dX3_stepOnce_24 : decode cX3_stepOnce 24 = .ok (.ifCond .eq 30, 3) := by decide +kernel
theorem dX3_stepOnce_27 : decode cX3_stepOnce 27 = .ok (.aload_n 0, 1) := by decide +kernel
theorem dX3_stepOnce_28 : decode cX3_stepOnce 28 = .ok (.getfield 21, 3) := by decide +kernel
theorem dX3_stepOnce_31 : decode cX3_stepOnce 31 = .ok (.iload_n 1, 1) := by decide +kernel
theorem dX3_stepOnce_32 : decode cX3_stepOnce 32 = .ok (.aload_n 0, 1) := by decide +kernel
theorem dX3_stepOnce_33 : decode cX3_stepOnce 33 = .ok (.getfield 12, 3) := by decide +kernel
theorem dX3_stepOnce_36 : decode cX3_stepOnce 36 = .ok (.invokevirtual 94, 3) := by decide +kernel
theorem dX3_stepOnce_39 : decode cX3_stepOnce 39 = .ok (.aload_n 0, 1) := by decide +kernel
theorem dX3_stepOnce_40 : decode cX3_stepOnce 40 = .ok (.iload_n 1, 1) := by decide +kernel
theorem dX3_stepOnce_41 : decode cX3_stepOnce 41 = .ok (.aload_n 0, 1) := by decide +kernel
theorem dX3_stepOnce_42 : decode cX3_stepOnce 42 = .ok (.getfield 12, 3) := by decide +kernel
theorem dX3_stepOnce_45 : decode cX3_stepOnce 45 = .ok (.invokevirtual 94, 3) := by decide +kernel
theorem dX3_stepOnce_48 : decode cX3_stepOnce 48 = .ok (.invokevirtual 61, 3) := by decide +kernel
theorem dX3_stepOnce_51 : decode cX3_stepOnce 51 = .ok (.invokevirtual 69, 3) := by decide +kernel
theorem dX3_stepOnce_54 : decode cX3_stepOnce 54 = .ok (.aload_n 0, 1) := by decide +kernel
theorem dX3_stepOnce_55 : decode cX3_stepOnce 55 = .ok (.getfield 21, 3) := by decide +kernel
theorem dX3_stepOnce_58 : decode cX3_stepOnce 58 = .ok (.iload_n 1, 1) := by decide +kernel
theorem dX3_stepOnce_59 : decode cX3_stepOnce 59 = .ok (.iconst 1, 1) := by decide +kernel
theorem dX3_stepOnce_60 : decode cX3_stepOnce 60 = .ok (.iadd, 1) := by decide +kernel
theorem dX3_stepOnce_61 : decode cX3_stepOnce 61 = .ok (.invokevirtual 147, 3) := by decide +kernel
theorem dX3_stepOnce_64 : decode cX3_stepOnce 64 = .ok (.return_, 1) := by decide +kernel
theorem dX3_isBehind_0 : decode cX3_isBehind 0 = .ok (.aload_n 0, 1) := by decide +kernel
theorem dX3_isBehind_1 : decode cX3_isBehind 1 = .ok (.getfield 21, 3) := by decide +kernel
theorem dX3_isBehind_4 : decode cX3_isBehind 4 = .ok (.iload_n 1, 1) := by decide +kernel
theorem dX3_isBehind_5 : decode cX3_isBehind 5 = .ok (.invokevirtual 48, 3) := by decide +kernel
theorem dX3_isBehind_8 : decode cX3_isBehind 8 = .ok (.aload_n 0, 1) := by decide +kernel
theorem dX3_isBehind_9 : decode cX3_isBehind 9 = .ok (.getfield 12, 3) := by decide +kernel
theorem dX3_isBehind_12 : decode cX3_isBehind 12 = .ok (.invokevirtual 94, 3) := by decide +kernel
theorem dX3_isBehind_15 : decode cX3_isBehind 15 = .ok (.if_icmp .ge 7, 3) := by decide +kernel
theorem dX3_isBehind_18 : decode cX3_isBehind 18 = .ok (.iconst 1, 1) := by decide +kernel
theorem dX3_isBehind_19 : decode cX3_isBehind 19 = .ok (.goto 4, 3) := by decide +kernel
theorem dX3_isBehind_22 : decode cX3_isBehind 22 = .ok (.iconst 0, 1) := by decide +kernel
theorem dX3_isBehind_23 : decode cX3_isBehind 23 = .ok (.ireturn, 1) := by decide +kernel
theorem dX3_sumRead_0 : decode cX3_sumRead 0 = .ok (.aload_n 0, 1) := by decide +kernel
theorem dX3_sumRead_1 : decode cX3_sumRead 1 = .ok (.iload_n 1, 1) := by decide +kernel
theorem dX3_sumRead_2 : decode cX3_sumRead 2 = .ok (.iload_n 2, 1) := by decide +kernel
theorem dX3_sumRead_3 : decode cX3_sumRead 3 = .ok (.invokevirtual 61, 3) := by decide +kernel
theorem dX3_sumRead_6 : decode cX3_sumRead 6 = .ok (.astore_n 3, 1) := by decide +kernel
theorem dX3_sumRead_7 : decode cX3_sumRead 7 = .ok (.iconst 0, 1) := by decide +kernel
theorem dX3_sumRead_8 : decode cX3_sumRead 8 = .ok (.istore 4, 2) := by decide +kernel
theorem dX3_sumRead_10 : decode cX3_sumRead 10 = .ok (.iconst 0, 1) := by decide +kernel
theorem dX3_sumRead_11 : decode cX3_sumRead 11 = .ok (.istore 5, 2) := by decide +kernel
theorem dX3_sumRead_13 : decode cX3_sumRead 13 = .ok (.iload 5, 2) := by decide +kernel
theorem dX3_sumRead_15 : decode cX3_sumRead 15 = .ok (.aload_n 0, 1) := by decide +kernel
theorem dX3_sumRead_16 : decode cX3_sumRead 16 = .ok (.getfield 12, 3) := by decide +kernel
theorem dX3_sumRead_19 : decode cX3_sumRead 19 = .ok (.iload_n 2, 1) := by decide +kernel
theorem dX3_sumRead_20 : decode cX3_sumRead 20 = .ok (.invokevirtual 105, 3) := by decide +kernel
theorem dX3_sumRead_23 : decode cX3_sumRead 23 = .ok (.if_icmp .ge 28, 3) := by decide +kernel
theorem dX3_sumRead_26 : decode cX3_sumRead 26 = .ok (.iload 4, 2) := by decide +kernel
theorem dX3_sumRead_28 : decode cX3_sumRead 28 = .ok (.aload_n 3, 1) := by decide +kernel
theorem dX3_sumRead_29 : decode cX3_sumRead 29 = .ok (.aload_n 0, 1) := by decide +kernel
theorem dX3_sumRead_30 : decode cX3_sumRead 30 = .ok (.getfield 12, 3) := by decide +kernel
theorem dX3_sumRead_33 : decode cX3_sumRead 33 = .ok (.iload_n 2, 1) := by decide +kernel
theorem dX3_sumRead_34 : decode cX3_sumRead 34 = .ok (.iload 5, 2) := by decide +kernel
theorem dX3_sumRead_36 : decode cX3_sumRead 36 = .ok (.invokevirtual 108, 3) := by decide +kernel
theorem dX3_sumRead_39 : decode cX3_sumRead 39 = .ok (.invokestatic 32, 3) := by decide +kernel
theorem dX3_sumRead_42 : decode cX3_sumRead 42 = .ok (.iadd, 1) := by decide +kernel
theorem dX3_sumRead_43 : decode cX3_sumRead 43 = .ok (.istore 4, 2) := by decide +kernel
theorem dX3_sumRead_45 : decode cX3_sumRead 45 = .ok (.iinc 5 1, 3) := by decide +kernel
theorem dX3_sumRead_48 : decode cX3_sumRead 48 = .ok (.goto (-35), 3) := by decide +kernel
theorem dX3_sumRead_51 : decode cX3_sumRead 51 = .ok (.iload 4, 2) := by decide +kernel
theorem dX3_sumRead_53 : decode cX3_sumRead 53 = .ok (.ireturn, 1) := by decide +kernel
theorem dX3_rowsOfShape_0 : decode cX3_rowsOfShape 0 = .ok (.iconst 0, 1) := by decide +kernel
theorem dX3_rowsOfShape_1 : decode cX3_rowsOfShape 1 = .ok (.istore_n 2, 1) := by decide +kernel
theorem dX3_rowsOfShape_2 : decode cX3_rowsOfShape 2 = .ok (.iconst 0, 1) := by decide +kernel
theorem dX3_rowsOfShape_3 : decode cX3_rowsOfShape 3 = .ok (.istore_n 3, 1) := by decide +kernel
theorem dX3_rowsOfShape_4 : decode cX3_rowsOfShape 4 = .ok (.iload_n 3, 1) := by decide +kernel
theorem dX3_rowsOfShape_5 : decode cX3_rowsOfShape 5 = .ok (.aload_n 0, 1) := by decide +kernel
theorem dX3_rowsOfShape_6 : decode cX3_rowsOfShape 6 = .ok (.getfield 21, 3) := by decide +kernel
theorem dX3_rowsOfShape_9 : decode cX3_rowsOfShape 9 = .ok (.invokevirtual 84, 3) := by decide +kernel
theorem dX3_rowsOfShape_12 : decode cX3_rowsOfShape 12 = .ok (.if_icmp .ge 24, 3) := by decide +kernel
theorem dX3_rowsOfShape_15 : decode cX3_rowsOfShape 15 = .ok (.aload_n 0, 1) := by decide +kernel
theorem dX3_rowsOfShape_16 : decode cX3_rowsOfShape 16 = .ok (.getfield 21, 3) := by decide +kernel
theorem dX3_rowsOfShape_19 : decode cX3_rowsOfShape 19 = .ok (.iload_n 3, 1) := by decide +kernel
theorem dX3_rowsOfShape_20 : decode cX3_rowsOfShape 20 = .ok (.invokevirtual 48, 3) := by decide +kernel
theorem dX3_rowsOfShape_23 : decode cX3_rowsOfShape 23 = .ok (.iload_n 1, 1) := by decide +kernel
theorem dX3_rowsOfShape_24 : decode cX3_rowsOfShape 24 = .ok (.if_icmp .ne 6, 3) := by decide +kernel
theorem dX3_rowsOfShape_27 : decode cX3_rowsOfShape 27 = .ok (.iinc 2 1, 3) := by decide +kernel
theorem dX3_rowsOfShape_30 : decode cX3_rowsOfShape 30 = .ok (.iinc 3 1, 3) := by decide +kernel
theorem dX3_rowsOfShape_33 : decode cX3_rowsOfShape 33 = .ok (.goto (-29), 3) := by decide +kernel
theorem dX3_rowsOfShape_36 : decode cX3_rowsOfShape 36 = .ok (.iload_n 2, 1) := by decide +kernel
theorem dX3_rowsOfShape_37 : decode cX3_rowsOfShape 37 = .ok (.ireturn, 1) := by decide +kernel
theorem dX3_readersOfShape_0 : decode cX3_readersOfShape 0 = .ok (.iconst 0, 1) := by decide +kernel
theorem dX3_readersOfShape_1 : decode cX3_readersOfShape 1 = .ok (.istore_n 2, 1) := by decide +kernel
theorem dX3_readersOfShape_2 : decode cX3_readersOfShape 2 = .ok (.iconst 0, 1) := by decide +kernel
theorem dX3_readersOfShape_3 : decode cX3_readersOfShape 3 = .ok (.istore_n 3, 1) := by decide +kernel
theorem dX3_readersOfShape_4 : decode cX3_readersOfShape 4 = .ok (.iload_n 3, 1) := by decide +kernel
theorem dX3_readersOfShape_5 : decode cX3_readersOfShape 5 = .ok (.iconst 4, 1) := by decide +kernel
theorem dX3_readersOfShape_6 : decode cX3_readersOfShape 6 = .ok (.if_icmp .ge 21, 3) := by decide +kernel
theorem dX3_readersOfShape_9 : decode cX3_readersOfShape 9 = .ok (.aload_n 0, 1) := by decide +kernel
theorem dX3_readersOfShape_10 : decode cX3_readersOfShape 10 = .ok (.iload_n 3, 1) := by decide +kernel
theorem dX3_readersOfShape_11 : decode cX3_readersOfShape 11 = .ok (.invokevirtual 36, 3) := by decide +kernel
theorem dX3_readersOfShape_14 : decode cX3_readersOfShape 14 = .ok (.iload_n 1, 1) := by decide +kernel
theorem dX3_readersOfShape_15 : decode cX3_readersOfShape 15 = .ok (.if_icmp .ne 6, 3) := by decide +kernel
theorem dX3_readersOfShape_18 : decode cX3_readersOfShape 18 = .ok (.iinc 2 1, 3) := by decide +kernel
theorem dX3_readersOfShape_21 : decode cX3_readersOfShape 21 = .ok (.iinc 3 1, 3) := by decide +kernel
theorem dX3_readersOfShape_24 : decode cX3_readersOfShape 24 = .ok (.goto (-20), 3) := by decide +kernel
theorem dX3_readersOfShape_27 : decode cX3_readersOfShape 27 = .ok (.iload_n 2, 1) := by decide +kernel
theorem dX3_readersOfShape_28 : decode cX3_readersOfShape 28 = .ok (.ireturn, 1) := by decide +kernel
theorem dX4_init_0 : decode cX4_init 0 = .ok (.aload_n 0, 1) := by decide +kernel
theorem dX4_init_1 : decode cX4_init 1 = .ok (.invokespecial 3, 3) := by decide +kernel
theorem dX4_init_4 : decode cX4_init 4 = .ok (.aload_n 0, 1) := by decide +kernel
theorem dX4_init_5 : decode cX4_init 5 = .ok (.bipush 60, 2) := by decide +kernel
theorem dX4_init_7 : decode cX4_init 7 = .ok (.newarray .int, 2) := by decide +kernel
theorem dX4_init_9 : decode cX4_init 9 = .ok (.putfield 9, 3) := by decide +kernel
theorem dX4_init_12 : decode cX4_init 12 = .ok (.aload_n 0, 1) := by decide +kernel
theorem dX4_init_13 : decode cX4_init 13 = .ok (.iconst 0, 1) := by decide +kernel
theorem dX4_init_14 : decode cX4_init 14 = .ok (.putfield 15, 3) := by decide +kernel
theorem dX4_init_17 : decode cX4_init 17 = .ok (.return_, 1) := by decide +kernel
theorem dX4_length_0 : decode cX4_length 0 = .ok (.aload_n 0, 1) := by decide +kernel
theorem dX4_length_1 : decode cX4_length 1 = .ok (.getfield 15, 3) := by decide +kernel
theorem dX4_length_4 : decode cX4_length 4 = .ok (.ireturn, 1) := by decide +kernel
theorem dX4_isFull_0 : decode cX4_isFull 0 = .ok (.aload_n 0, 1) := by decide +kernel
theorem dX4_isFull_1 : decode cX4_isFull 1 = .ok (.getfield 15, 3) := by decide +kernel
theorem dX4_isFull_4 : decode cX4_isFull 4 = .ok (.bipush 60, 2) := by decide +kernel
theorem dX4_isFull_6 : decode cX4_isFull 6 = .ok (.if_icmp .lt 7, 3) := by decide +kernel
theorem dX4_isFull_9 : decode cX4_isFull 9 = .ok (.iconst 1, 1) := by decide +kernel
theorem dX4_isFull_10 : decode cX4_isFull 10 = .ok (.goto 4, 3) := by decide +kernel
theorem dX4_isFull_13 : decode cX4_isFull 13 = .ok (.iconst 0, 1) := by decide +kernel
theorem dX4_isFull_14 : decode cX4_isFull 14 = .ok (.ireturn, 1) := by decide +kernel
theorem dX4_add_0 : decode cX4_add 0 = .ok (.aload_n 0, 1) := by decide +kernel
theorem dX4_add_1 : decode cX4_add 1 = .ok (.getfield 9, 3) := by decide +kernel
theorem dX4_add_4 : decode cX4_add 4 = .ok (.aload_n 0, 1) := by decide +kernel
theorem dX4_add_5 : decode cX4_add 5 = .ok (.getfield 15, 3) := by decide +kernel
theorem dX4_add_8 : decode cX4_add 8 = .ok (.iload_n 1, 1) := by decide +kernel
theorem dX4_add_9 : decode cX4_add 9 = .ok (.invokestatic 19, 3) := by decide +kernel
theorem dX4_add_12 : decode cX4_add 12 = .ok (.aload_n 0, 1) := by decide +kernel
theorem dX4_add_13 : decode cX4_add 13 = .ok (.dup, 1) := by decide +kernel
theorem dX4_add_14 : decode cX4_add 14 = .ok (.getfield 15, 3) := by decide +kernel
theorem dX4_add_17 : decode cX4_add 17 = .ok (.iconst 1, 1) := by decide +kernel
theorem dX4_add_18 : decode cX4_add 18 = .ok (.iadd, 1) := by decide +kernel
theorem dX4_add_19 : decode cX4_add 19 = .ok (.putfield 15, 3) := by decide +kernel
theorem dX4_add_22 : decode cX4_add 22 = .ok (.aload_n 0, 1) := by decide +kernel
theorem dX4_add_23 : decode cX4_add 23 = .ok (.getfield 15, 3) := by decide +kernel
theorem dX4_add_26 : decode cX4_add 26 = .ok (.ireturn, 1) := by decide +kernel
theorem dX4_clear_0 : decode cX4_clear 0 = .ok (.aload_n 0, 1) := by decide +kernel
theorem dX4_clear_1 : decode cX4_clear 1 = .ok (.getfield 15, 3) := by decide +kernel
theorem dX4_clear_4 : decode cX4_clear 4 = .ok (.istore_n 1, 1) := by decide +kernel
theorem dX4_clear_5 : decode cX4_clear 5 = .ok (.aload_n 0, 1) := by decide +kernel
theorem dX4_clear_6 : decode cX4_clear 6 = .ok (.iconst 0, 1) := by decide +kernel
theorem dX4_clear_7 : decode cX4_clear 7 = .ok (.putfield 15, 3) := by decide +kernel
theorem dX4_clear_10 : decode cX4_clear 10 = .ok (.iload_n 1, 1) := by decide +kernel
theorem dX4_clear_11 : decode cX4_clear 11 = .ok (.ireturn, 1) := by decide +kernel
theorem dX4_code_0 : decode cX4_code 0 = .ok (.iload_n 1, 1) := by decide +kernel
theorem dX4_code_1 : decode cX4_code 1 = .ok (.aload_n 0, 1) := by decide +kernel
theorem dX4_code_2 : decode cX4_code 2 = .ok (.getfield 15, 3) := by decide +kernel
theorem dX4_code_5 : decode cX4_code 5 = .ok (.if_icmp .ge 14, 3) := by decide +kernel
theorem dX4_code_8 : decode cX4_code 8 = .ok (.aload_n 0, 1) := by decide +kernel
theorem dX4_code_9 : decode cX4_code 9 = .ok (.getfield 9, 3) := by decide +kernel
theorem dX4_code_12 : decode cX4_code 12 = .ok (.iload_n 1, 1) := by decide +kernel
theorem dX4_code_13 : decode cX4_code 13 = .ok (.invokestatic 23, 3) := by decide +kernel
theorem dX4_code_16 : decode cX4_code 16 = .ok (.goto 4, 3) := by decide +kernel
theorem dX4_code_19 : decode cX4_code 19 = .ok (.iconst (-1), 1) := by decide +kernel
theorem dX4_code_20 : decode cX4_code 20 = .ok (.ireturn, 1) := by decide +kernel
theorem dX4_letter_0 : decode cX4_letter 0 = .ok (.aload_n 0, 1) := by decide +kernel
theorem dX4_letter_1 : decode cX4_letter 1 = .ok (.iload_n 1, 1) := by decide +kernel
theorem dX4_letter_2 : decode cX4_letter 2 = .ok (.invokevirtual 27, 3) := by decide +kernel
theorem dX4_letter_5 : decode cX4_letter 5 = .ok (.bipush 97, 2) := by decide +kernel
theorem dX4_letter_7 : decode cX4_letter 7 = .ok (.isub, 1) := by decide +kernel
theorem dX4_letter_8 : decode cX4_letter 8 = .ok (.ireturn, 1) := by decide +kernel
theorem dX4_number_0 : decode cX4_number 0 = .ok (.iconst 0, 1) := by decide +kernel
theorem dX4_number_1 : decode cX4_number 1 = .ok (.istore_n 3, 1) := by decide +kernel
theorem dX4_number_2 : decode cX4_number 2 = .ok (.iload_n 1, 1) := by decide +kernel
theorem dX4_number_3 : decode cX4_number 3 = .ok (.istore 4, 2) := by decide +kernel
theorem dX4_number_5 : decode cX4_number 5 = .ok (.iload 4, 2) := by decide +kernel
theorem dX4_number_7 : decode cX4_number 7 = .ok (.iload_n 2, 1) := by decide +kernel
theorem dX4_number_8 : decode cX4_number 8 = .ok (.if_icmp .ge 24, 3) := by decide +kernel
theorem dX4_number_11 : decode cX4_number 11 = .ok (.bipush 10, 2) := by decide +kernel
theorem dX4_number_13 : decode cX4_number 13 = .ok (.iload_n 3, 1) := by decide +kernel
theorem dX4_number_14 : decode cX4_number 14 = .ok (.imul, 1) := by decide +kernel
theorem dX4_number_15 : decode cX4_number 15 = .ok (.aload_n 0, 1) := by decide +kernel
theorem dX4_number_16 : decode cX4_number 16 = .ok (.iload 4, 2) := by decide +kernel
theorem dX4_number_18 : decode cX4_number 18 = .ok (.invokevirtual 27, 3) := by decide +kernel
theorem dX4_number_21 : decode cX4_number 21 = .ok (.bipush 48, 2) := by decide +kernel
theorem dX4_number_23 : decode cX4_number 23 = .ok (.isub, 1) := by decide +kernel
theorem dX4_number_24 : decode cX4_number 24 = .ok (.iadd, 1) := by decide +kernel
theorem dX4_number_25 : decode cX4_number 25 = .ok (.istore_n 3, 1) := by decide +kernel
theorem dX4_number_26 : decode cX4_number 26 = .ok (.iinc 4 1, 3) := by decide +kernel
theorem dX4_number_29 : decode cX4_number 29 = .ok (.goto (-24), 3) := by decide +kernel
theorem dX4_number_32 : decode cX4_number 32 = .ok (.iload_n 3, 1) := by decide +kernel
theorem dX4_number_33 : decode cX4_number 33 = .ok (.ireturn, 1) := by decide +kernel
theorem dX4_endsOrder_0 : decode cX4_endsOrder 0 = .ok (.iload_n 1, 1) := by decide +kernel
theorem dX4_endsOrder_1 : decode cX4_endsOrder 1 = .ok (.aload_n 0, 1) := by decide +kernel
theorem dX4_endsOrder_2 : decode cX4_endsOrder 2 = .ok (.getfield 15, 3) := by decide +kernel
theorem dX4_endsOrder_5 : decode cX4_endsOrder 5 = .ok (.if_icmp .eq 13, 3) := by decide +kernel
theorem dX4_endsOrder_8 : decode cX4_endsOrder 8 = .ok (.aload_n 0, 1) := by decide +kernel
theorem dX4_endsOrder_9 : decode cX4_endsOrder 9 = .ok (.iload_n 1, 1) := by decide +kernel
theorem dX4_endsOrder_10 : decode cX4_endsOrder 10 = .ok (.invokevirtual 27, 3) := by decide +kernel
theorem dX4_endsOrder_13 : decode cX4_endsOrder 13 = .ok (.bipush 59, 2) := by decide +kernel
theorem dX4_endsOrder_15 : decode cX4_endsOrder 15 = .ok (.if_icmp .ne 7, 3) := by decide +kernel
theorem dX4_endsOrder_18 : decode cX4_endsOrder 18 = .ok (.iconst 1, 1) := by decide +kernel
theorem dX4_endsOrder_19 : decode cX4_endsOrder 19 = .ok (.goto 4, 3) := by decide +kernel
theorem dX4_endsOrder_22 : decode cX4_endsOrder 22 = .ok (.iconst 0, 1) := by decide +kernel
theorem dX4_endsOrder_23 : decode cX4_endsOrder 23 = .ok (.ireturn, 1) := by decide +kernel
theorem dX4_errorPlace_0 : decode cX4_errorPlace 0 = .ok (.iconst 0, 1) := by decide +kernel
theorem dX4_errorPlace_1 : decode cX4_errorPlace 1 = .ok (.istore_n 1, 1) := by decide +kernel
theorem dX4_errorPlace_2 : decode cX4_errorPlace 2 = .ok (.iconst 0, 1) := by decide +kernel
theorem dX4_errorPlace_3 : decode cX4_errorPlace 3 = .ok (.istore_n 2, 1) := by decide +kernel
theorem dX4_errorPlace_4 : decode cX4_errorPlace 4 = .ok (.iload_n 2, 1) := by decide +kernel
theorem dX4_errorPlace_5 : decode cX4_errorPlace 5 = .ok (.aload_n 0, 1) := by decide +kernel
theorem dX4_errorPlace_6 : decode cX4_errorPlace 6 = .ok (.getfield 15, 3) := by decide +kernel
theorem dX4_errorPlace_9 : decode cX4_errorPlace 9 = .ok (.if_icmp .ge 26, 3) := by decide +kernel
theorem dX4_errorPlace_12 : decode cX4_errorPlace 12 = .ok (.iload_n 1, 1) := by decide +kernel
theorem dX4_errorPlace_13 : decode cX4_errorPlace 13 = .ok (.aload_n 0, 1) := by decide +kernel
theorem dX4_errorPlace_14 : decode cX4_errorPlace 14 = .ok (.iload_n 2, 1) := by decide +kernel
theorem dX4_errorPlace_15 : decode cX4_errorPlace 15 = .ok (.invokevirtual 27, 3) := by decide +kernel
theorem dX4_errorPlace_18 : decode cX4_errorPlace 18 = .ok (.invokestatic 31, 3) := by decide +kernel
theorem dX4_errorPlace_21 : decode cX4_errorPlace 21 = .ok (.istore_n 1, 1) := by decide +kernel
theorem dX4_errorPlace_22 : decode cX4_errorPlace 22 = .ok (.iload_n 1, 1) := by decide +kernel
theorem dX4_errorPlace_23 : decode cX4_errorPlace 23 = .ok (.iconst (-1), 1) := by decide +kernel
theorem dX4_errorPlace_24 : decode cX4_errorPlace 24 = .ok (.if_icmp .ne 5, 3) := by decide +kernel
theorem dX4_errorPlace_27 : decode cX4_errorPlace 27 = .ok (.iload_n 2, 1) := by decide +kernel
theorem dX4_errorPlace_28 : decode cX4_errorPlace 28 = .ok (.ireturn, 1) := by decide +kernel
theorem dX4_errorPlace_29 : decode cX4_errorPlace 29 = .ok (.iinc 2 1, 3) := by decide +kernel
theorem dX4_errorPlace_32 : decode cX4_errorPlace 32 = .ok (.goto (-28), 3) := by decide +kernel
theorem dX4_errorPlace_35 : decode cX4_errorPlace 35 = .ok (.aload_n 0, 1) := by decide +kernel
theorem dX4_errorPlace_36 : decode cX4_errorPlace 36 = .ok (.getfield 15, 3) := by decide +kernel
theorem dX4_errorPlace_39 : decode cX4_errorPlace 39 = .ok (.ireturn, 1) := by decide +kernel
theorem dX4_isComplete_0 : decode cX4_isComplete 0 = .ok (.iconst 0, 1) := by decide +kernel
theorem dX4_isComplete_1 : decode cX4_isComplete 1 = .ok (.istore_n 1, 1) := by decide +kernel
theorem dX4_isComplete_2 : decode cX4_isComplete 2 = .ok (.iconst 0, 1) := by decide +kernel
theorem dX4_isComplete_3 : decode cX4_isComplete 3 = .ok (.istore_n 2, 1) := by decide +kernel
theorem dX4_isComplete_4 : decode cX4_isComplete 4 = .ok (.iload_n 2, 1) := by decide +kernel
theorem dX4_isComplete_5 : decode cX4_isComplete 5 = .ok (.aload_n 0, 1) := by decide +kernel
theorem dX4_isComplete_6 : decode cX4_isComplete 6 = .ok (.getfield 15, 3) := by decide +kernel
theorem dX4_isComplete_9 : decode cX4_isComplete 9 = .ok (.if_icmp .ge 19, 3) := by decide +kernel
theorem dX4_isComplete_12 : decode cX4_isComplete 12 = .ok (.iload_n 1, 1) := by decide +kernel
theorem dX4_isComplete_13 : decode cX4_isComplete 13 = .ok (.aload_n 0, 1) := by decide +kernel
theorem dX4_isComplete_14 : decode cX4_isComplete 14 = .ok (.iload_n 2, 1) := by decide +kernel
theorem dX4_isComplete_15 : decode cX4_isComplete 15 = .ok (.invokevirtual 27, 3) := by decide +kernel
theorem dX4_isComplete_18 : decode cX4_isComplete 18 = .ok (.invokestatic 31, 3) := by decide +kernel
theorem dX4_isComplete_21 : decode cX4_isComplete 21 = .ok (.istore_n 1, 1) := by decide +kernel
theorem dX4_isComplete_22 : decode cX4_isComplete 22 = .ok (.iinc 2 1, 3) := by decide +kernel
theorem dX4_isComplete_25 : decode cX4_isComplete 25 = .ok (.goto (-21), 3) := by decide +kernel
theorem dX4_isComplete_28 : decode cX4_isComplete 28 = .ok (.iload_n 1, 1) := by decide +kernel
theorem dX4_isComplete_29 : decode cX4_isComplete 29 = .ok (.invokestatic 35, 3) := by decide +kernel
theorem dX4_isComplete_32 : decode cX4_isComplete 32 = .ok (.ireturn, 1) := by decide +kernel
theorem dX4_mayEnd_0 : decode cX4_mayEnd 0 = .ok (.iload_n 0, 1) := by decide +kernel
theorem dX4_mayEnd_1 : decode cX4_mayEnd 1 = .ok (.iconst 4, 1) := by decide +kernel
theorem dX4_mayEnd_2 : decode cX4_mayEnd 2 = .ok (.if_icmp .eq 21, 3) := by decide +kernel
theorem dX4_mayEnd_5 : decode cX4_mayEnd 5 = .ok (.iload_n 0, 1) := by decide +kernel
theorem dX4_mayEnd_6 : decode cX4_mayEnd 6 = .ok (.bipush 9, 2) := by decide +kernel
theorem dX4_mayEnd_8 : decode cX4_mayEnd 8 = .ok (.if_icmp .eq 15, 3) := by decide +kernel
theorem dX4_mayEnd_11 : decode cX4_mayEnd 11 = .ok (.iload_n 0, 1) := by decide +kernel
theorem dX4_mayEnd_12 : decode cX4_mayEnd 12 = .ok (.bipush 13, 2) := by decide +kernel
theorem dX4_mayEnd_14 : decode cX4_mayEnd 14 = .ok (.if_icmp .eq 9, 3) := by decide +kernel
theorem dX4_mayEnd_17 : decode cX4_mayEnd 17 = .ok (.iload_n 0, 1) := by decide +kernel
theorem dX4_mayEnd_18 : decode cX4_mayEnd 18 = .ok (.bipush 14, 2) := by decide +kernel
theorem dX4_mayEnd_20 : decode cX4_mayEnd 20 = .ok (.if_icmp .ne 7, 3) := by decide +kernel
theorem dX4_mayEnd_23 : decode cX4_mayEnd 23 = .ok (.iconst 1, 1) := by decide +kernel
theorem dX4_mayEnd_24 : decode cX4_mayEnd 24 = .ok (.goto 4, 3) := by decide +kernel
theorem dX4_mayEnd_27 : decode cX4_mayEnd 27 = .ok (.iconst 0, 1) := by decide +kernel
theorem dX4_mayEnd_28 : decode cX4_mayEnd 28 = .ok (.ireturn, 1) := by decide +kernel
theorem dX4_next_0 : decode cX4_next 0 = .ok (.iload_n 1, 1) := by decide +kernel
theorem dX4_next_1 : decode cX4_next 1 = .ok (.bipush 59, 2) := by decide +kernel
theorem dX4_next_3 : decode cX4_next 3 = .ok (.if_icmp .ne 16, 3) := by decide +kernel
theorem dX4_next_6 : decode cX4_next 6 = .ok (.iload_n 0, 1) := by decide +kernel
theorem dX4_next_7 : decode cX4_next 7 = .ok (.invokestatic 35, 3) := by decide +kernel
theorem dX4_next_10 : decode cX4_next 10 = .ok (.ifCond .eq 7, 3) := by decide +kernel
theorem dX4_next_13 : decode cX4_next 13 = .ok (.iconst 0, 1) := by decide +kernel
theorem dX4_next_14 : decode cX4_next 14 = .ok (.goto 4, 3) := by decide +kernel
theorem dX4_next_17 : decode cX4_next 17 = .ok (.iconst (-1), 1) := by decide +kernel
theorem dX4_next_18 : decode cX4_next 18 = .ok (.ireturn, 1) := by decide +kernel
theorem dX4_next_19 : decode cX4_next 19 = .ok (.iload_n 0, 1) := by decide +kernel
theorem dX4_next_20 : decode cX4_next 20 = .ok (.tableswitch 185 0 13 #[72, 185, 77, 185, 98, 185, 185, 108, 119, 141, 185, 185, 152, 174], 72) := by decide +kernel
theorem dX4_next_92 : decode cX4_next 92 = .ok (.iload_n 1, 1) := by decide +kernel
theorem dX4_next_93 : decode cX4_next 93 = .ok (.invokestatic 39, 3) := by decide +kernel
theorem dX4_next_96 : decode cX4_next 96 = .ok (.ireturn, 1) := by decide +kernel
theorem dX4_next_97 : decode cX4_next 97 = .ok (.iload_n 1, 1) := by decide +kernel
theorem dX4_next_98 : decode cX4_next 98 = .ok (.bipush 58, 2) := by decide +kernel
theorem dX4_next_100 : decode cX4_next 100 = .ok (.if_icmp .ne 7, 3) := by decide +kernel
theorem dX4_next_103 : decode cX4_next 103 = .ok (.iconst 3, 1) := by decide +kernel
theorem dX4_next_104 : decode cX4_next 104 = .ok (.goto 13, 3) := by decide +kernel
theorem dX4_next_107 : decode cX4_next 107 = .ok (.bipush 61, 2) := by decide +kernel
theorem dX4_next_109 : decode cX4_next 109 = .ok (.bipush 61, 2) := by decide +kernel
theorem dX4_next_111 : decode cX4_next 111 = .ok (.iload_n 1, 1) := by decide +kernel
theorem dX4_next_112 : decode cX4_next 112 = .ok (.bipush 8, 2) := by decide +kernel
theorem dX4_next_114 : decode cX4_next 114 = .ok (.invokestatic 42, 3) := by decide +kernel
theorem dX4_next_117 : decode cX4_next 117 = .ok (.ireturn, 1) := by decide +kernel
theorem dX4_next_118 : decode cX4_next 118 = .ok (.bipush 43, 2) := by decide +kernel
theorem dX4_next_120 : decode cX4_next 120 = .ok (.bipush 43, 2) := by decide +kernel
theorem dX4_next_122 : decode cX4_next 122 = .ok (.iload_n 1, 1) := by decide +kernel
theorem dX4_next_123 : decode cX4_next 123 = .ok (.iconst 5, 1) := by decide +kernel
theorem dX4_next_124 : decode cX4_next 124 = .ok (.invokestatic 42, 3) := by decide +kernel
theorem dX4_next_127 : decode cX4_next 127 = .ok (.ireturn, 1) := by decide +kernel
theorem dX4_next_128 : decode cX4_next 128 = .ok (.bipush 61, 2) := by decide +kernel
theorem dX4_next_130 : decode cX4_next 130 = .ok (.bipush 61, 2) := by decide +kernel
theorem dX4_next_132 : decode cX4_next 132 = .ok (.iload_n 1, 1) := by decide +kernel
theorem dX4_next_133 : decode cX4_next 133 = .ok (.bipush 8, 2) := by decide +kernel
theorem dX4_next_135 : decode cX4_next 135 = .ok (.invokestatic 42, 3) := by decide +kernel
theorem dX4_next_138 : decode cX4_next 138 = .ok (.ireturn, 1) := by decide +kernel
theorem dX4_next_139 : decode cX4_next 139 = .ok (.iload_n 1, 1) := by decide +kernel
theorem dX4_next_140 : decode cX4_next 140 = .ok (.bipush 48, 2) := by decide +kernel
theorem dX4_next_142 : decode cX4_next 142 = .ok (.if_icmp .ne 8, 3) := by decide +kernel
theorem dX4_next_145 : decode cX4_next 145 = .ok (.bipush 14, 2) := by decide +kernel
theorem dX4_next_147 : decode cX4_next 147 = .ok (.goto 13, 3) := by decide +kernel
theorem dX4_next_150 : decode cX4_next 150 = .ok (.bipush 49, 2) := by decide +kernel
theorem dX4_next_152 : decode cX4_next 152 = .ok (.bipush 57, 2) := by decide +kernel
theorem dX4_next_154 : decode cX4_next 154 = .ok (.iload_n 1, 1) := by decide +kernel
theorem dX4_next_155 : decode cX4_next 155 = .ok (.bipush 9, 2) := by decide +kernel
theorem dX4_next_157 : decode cX4_next 157 = .ok (.invokestatic 42, 3) := by decide +kernel
theorem dX4_next_160 : decode cX4_next 160 = .ok (.ireturn, 1) := by decide +kernel
theorem dX4_next_161 : decode cX4_next 161 = .ok (.bipush 48, 2) := by decide +kernel
theorem dX4_next_163 : decode cX4_next 163 = .ok (.bipush 57, 2) := by decide +kernel
theorem dX4_next_165 : decode cX4_next 165 = .ok (.iload_n 1, 1) := by decide +kernel
theorem dX4_next_166 : decode cX4_next 166 = .ok (.bipush 14, 2) := by decide +kernel
theorem dX4_next_168 : decode cX4_next 168 = .ok (.invokestatic 42, 3) := by decide +kernel
theorem dX4_next_171 : decode cX4_next 171 = .ok (.ireturn, 1) := by decide +kernel
theorem dX4_next_172 : decode cX4_next 172 = .ok (.iload_n 1, 1) := by decide +kernel
theorem dX4_next_173 : decode cX4_next 173 = .ok (.bipush 49, 2) := by decide +kernel
theorem dX4_next_175 : decode cX4_next 175 = .ok (.if_icmp .ne 8, 3) := by decide +kernel
theorem dX4_next_178 : decode cX4_next 178 = .ok (.bipush 13, 2) := by decide +kernel
theorem dX4_next_180 : decode cX4_next 180 = .ok (.goto 13, 3) := by decide +kernel
theorem dX4_next_183 : decode cX4_next 183 = .ok (.bipush 50, 2) := by decide +kernel
theorem dX4_next_185 : decode cX4_next 185 = .ok (.bipush 57, 2) := by decide +kernel
theorem dX4_next_187 : decode cX4_next 187 = .ok (.iload_n 1, 1) := by decide +kernel
theorem dX4_next_188 : decode cX4_next 188 = .ok (.bipush 14, 2) := by decide +kernel
theorem dX4_next_190 : decode cX4_next 190 = .ok (.invokestatic 42, 3) := by decide +kernel
theorem dX4_next_193 : decode cX4_next 193 = .ok (.ireturn, 1) := by decide +kernel
theorem dX4_next_194 : decode cX4_next 194 = .ok (.bipush 48, 2) := by decide +kernel
theorem dX4_next_196 : decode cX4_next 196 = .ok (.bipush 50, 2) := by decide +kernel
theorem dX4_next_198 : decode cX4_next 198 = .ok (.iload_n 1, 1) := by decide +kernel
theorem dX4_next_199 : decode cX4_next 199 = .ok (.bipush 14, 2) := by decide +kernel
theorem dX4_next_201 : decode cX4_next 201 = .ok (.invokestatic 42, 3) := by decide +kernel
theorem dX4_next_204 : decode cX4_next 204 = .ok (.ireturn, 1) := by decide +kernel
theorem dX4_next_205 : decode cX4_next 205 = .ok (.bipush 97, 2) := by decide +kernel
theorem dX4_next_207 : decode cX4_next 207 = .ok (.bipush 104, 2) := by decide +kernel
theorem dX4_next_209 : decode cX4_next 209 = .ok (.iload_n 1, 1) := by decide +kernel
theorem dX4_next_210 : decode cX4_next 210 = .ok (.iload_n 0, 1) := by decide +kernel
theorem dX4_next_211 : decode cX4_next 211 = .ok (.invokestatic 46, 3) := by decide +kernel
theorem dX4_next_214 : decode cX4_next 214 = .ok (.invokestatic 42, 3) := by decide +kernel
theorem dX4_next_217 : decode cX4_next 217 = .ok (.ireturn, 1) := by decide +kernel
theorem dX4_afterFirst_0 : decode cX4_afterFirst 0 = .ok (.iload_n 0, 1) := by decide +kernel
theorem dX4_afterFirst_1 : decode cX4_afterFirst 1 = .ok (.lookupswitch 65 #[(42, 62), (43, 51), (45, 53), (62, 56), (110, 59)], 51) := by decide +kernel
theorem dX4_afterFirst_52 : decode cX4_afterFirst 52 = .ok (.iconst 1, 1) := by decide +kernel
theorem dX4_afterFirst_53 : decode cX4_afterFirst 53 = .ok (.ireturn, 1) := by decide +kernel
theorem dX4_afterFirst_54 : decode cX4_afterFirst 54 = .ok (.bipush 6, 2) := by decide +kernel
theorem dX4_afterFirst_56 : decode cX4_afterFirst 56 = .ok (.ireturn, 1) := by decide +kernel
theorem dX4_afterFirst_57 : decode cX4_afterFirst 57 = .ok (.bipush 10, 2) := by decide +kernel
theorem dX4_afterFirst_59 : decode cX4_afterFirst 59 = .ok (.ireturn, 1) := by decide +kernel
theorem dX4_afterFirst_60 : decode cX4_afterFirst 60 = .ok (.bipush 14, 2) := by decide +kernel
theorem dX4_afterFirst_62 : decode cX4_afterFirst 62 = .ok (.ireturn, 1) := by decide +kernel
theorem dX4_afterFirst_63 : decode cX4_afterFirst 63 = .ok (.bipush 12, 2) := by decide +kernel
theorem dX4_afterFirst_65 : decode cX4_afterFirst 65 = .ok (.ireturn, 1) := by decide +kernel
theorem dX4_afterFirst_66 : decode cX4_afterFirst 66 = .ok (.iconst (-1), 1) := by decide +kernel
theorem dX4_afterFirst_67 : decode cX4_afterFirst 67 = .ok (.ireturn, 1) := by decide +kernel
theorem dX4_afterLetter_0 : decode cX4_afterLetter 0 = .ok (.iload_n 0, 1) := by decide +kernel
theorem dX4_afterLetter_1 : decode cX4_afterLetter 1 = .ok (.tableswitch 72 1 11 #[59, 72, 61, 72, 69, 63, 72, 72, 72, 66, 69], 59) := by decide +kernel
theorem dX4_afterLetter_60 : decode cX4_afterLetter 60 = .ok (.iconst 2, 1) := by decide +kernel
theorem dX4_afterLetter_61 : decode cX4_afterLetter 61 = .ok (.ireturn, 1) := by decide +kernel
theorem dX4_afterLetter_62 : decode cX4_afterLetter 62 = .ok (.iconst 4, 1) := by decide +kernel
theorem dX4_afterLetter_63 : decode cX4_afterLetter 63 = .ok (.ireturn, 1) := by decide +kernel
theorem dX4_afterLetter_64 : decode cX4_afterLetter 64 = .ok (.bipush 7, 2) := by decide +kernel
theorem dX4_afterLetter_66 : decode cX4_afterLetter 66 = .ok (.ireturn, 1) := by decide +kernel
theorem dX4_afterLetter_67 : decode cX4_afterLetter 67 = .ok (.bipush 11, 2) := by decide +kernel
theorem dX4_afterLetter_69 : decode cX4_afterLetter 69 = .ok (.ireturn, 1) := by decide +kernel
theorem dX4_afterLetter_70 : decode cX4_afterLetter 70 = .ok (.bipush 14, 2) := by decide +kernel
theorem dX4_afterLetter_72 : decode cX4_afterLetter 72 = .ok (.ireturn, 1) := by decide +kernel
theorem dX4_afterLetter_73 : decode cX4_afterLetter 73 = .ok (.iconst (-1), 1) := by decide +kernel
theorem dX4_afterLetter_74 : decode cX4_afterLetter 74 = .ok (.ireturn, 1) := by decide +kernel
theorem dX4_oneOf_0 : decode cX4_oneOf 0 = .ok (.iload_n 2, 1) := by decide +kernel
theorem dX4_oneOf_1 : decode cX4_oneOf 1 = .ok (.iload_n 0, 1) := by decide +kernel
theorem dX4_oneOf_2 : decode cX4_oneOf 2 = .ok (.if_icmp .lt 12, 3) := by decide +kernel
theorem dX4_oneOf_5 : decode cX4_oneOf 5 = .ok (.iload_n 2, 1) := by decide +kernel
theorem dX4_oneOf_6 : decode cX4_oneOf 6 = .ok (.iload_n 1, 1) := by decide +kernel
theorem dX4_oneOf_7 : decode cX4_oneOf 7 = .ok (.if_icmp .gt 7, 3) := by decide +kernel
theorem dX4_oneOf_10 : decode cX4_oneOf 10 = .ok (.iload_n 3, 1) := by decide +kernel
theorem dX4_oneOf_11 : decode cX4_oneOf 11 = .ok (.goto 4, 3) := by decide +kernel
theorem dX4_oneOf_14 : decode cX4_oneOf 14 = .ok (.iconst (-1), 1) := by decide +kernel
theorem dX4_oneOf_15 : decode cX4_oneOf 15 = .ok (.ireturn, 1) := by decide +kernel
theorem dX5_init_0 : decode cX5_init 0 = .ok (.aload_n 0, 1) := by decide +kernel
theorem dX5_init_1 : decode cX5_init 1 = .ok (.invokespecial 1, 3) := by decide +kernel
theorem dX5_init_4 : decode cX5_init 4 = .ok (.aload_n 0, 1) := by decide +kernel
theorem dX5_init_5 : decode cX5_init 5 = .ok (.new 7, 3) := by decide +kernel
theorem dX5_init_8 : decode cX5_init 8 = .ok (.dup, 1) := by decide +kernel
theorem dX5_init_9 : decode cX5_init 9 = .ok (.invokespecial 9, 3) := by decide +kernel
theorem dX5_init_12 : decode cX5_init 12 = .ok (.putfield 10, 3) := by decide +kernel
theorem dX5_init_15 : decode cX5_init 15 = .ok (.aload_n 0, 1) := by decide +kernel
theorem dX5_init_16 : decode cX5_init 16 = .ok (.new 16, 3) := by decide +kernel
theorem dX5_init_19 : decode cX5_init 19 = .ok (.dup, 1) := by decide +kernel
theorem dX5_init_20 : decode cX5_init 20 = .ok (.invokespecial 18, 3) := by decide +kernel
theorem dX5_init_23 : decode cX5_init 23 = .ok (.putfield 19, 3) := by decide +kernel
theorem dX5_init_26 : decode cX5_init 26 = .ok (.aload_n 0, 1) := by decide +kernel
theorem dX5_init_27 : decode cX5_init 27 = .ok (.new 23, 3) := by decide +kernel
theorem dX5_init_30 : decode cX5_init 30 = .ok (.dup, 1) := by decide +kernel
theorem dX5_init_31 : decode cX5_init 31 = .ok (.invokespecial 25, 3) := by decide +kernel
theorem dX5_init_34 : decode cX5_init 34 = .ok (.putfield 26, 3) := by decide +kernel
theorem dX5_init_37 : decode cX5_init 37 = .ok (.return_, 1) := by decide +kernel
theorem dX5_addNumber_0 : decode cX5_addNumber 0 = .ok (.iload_n 1, 1) := by decide +kernel
theorem dX5_addNumber_1 : decode cX5_addNumber 1 = .ok (.invokestatic 30, 3) := by decide +kernel
theorem dX5_addNumber_4 : decode cX5_addNumber 4 = .ok (.ifCond .eq 10, 3) := by decide +kernel
theorem dX5_addNumber_7 : decode cX5_addNumber 7 = .ok (.iload_n 2, 1) := by decide +kernel
theorem dX5_addNumber_8 : decode cX5_addNumber 8 = .ok (.invokestatic 34, 3) := by decide +kernel
theorem dX5_addNumber_11 : decode cX5_addNumber 11 = .ok (.ifCond .ne 13, 3) := by decide +kernel
theorem dX5_addNumber_14 : decode cX5_addNumber 14 = .ok (.new 37, 3) := by decide +kernel
theorem dX5_addNumber_17 : decode cX5_addNumber 17 = .ok (.dup, 1) := by decide +kernel
theorem dX5_addNumber_18 : decode cX5_addNumber 18 = .ok (.ldc 39, 2) := by decide +kernel
theorem dX5_addNumber_20 : decode cX5_addNumber 20 = .ok (.invokespecial 41, 3) := by decide +kernel
theorem dX5_addNumber_23 : decode cX5_addNumber 23 = .ok (.athrow, 1) := by decide +kernel
theorem dX5_addNumber_24 : decode cX5_addNumber 24 = .ok (.aload_n 0, 1) := by decide +kernel
theorem dX5_addNumber_25 : decode cX5_addNumber 25 = .ok (.getfield 10, 3) := by decide +kernel
theorem dX5_addNumber_28 : decode cX5_addNumber 28 = .ok (.getfield 44, 3) := by decide +kernel
theorem dX5_addNumber_31 : decode cX5_addNumber 31 = .ok (.iload_n 1, 1) := by decide +kernel
theorem dX5_addNumber_32 : decode cX5_addNumber 32 = .ok (.invokevirtual 48, 3) := by decide +kernel
theorem dX5_addNumber_35 : decode cX5_addNumber 35 = .ok (.ifCond .ne 13, 3) := by decide +kernel
theorem dX5_addNumber_38 : decode cX5_addNumber 38 = .ok (.new 53, 3) := by decide +kernel
theorem dX5_addNumber_41 : decode cX5_addNumber 41 = .ok (.dup, 1) := by decide +kernel
theorem dX5_addNumber_42 : decode cX5_addNumber 42 = .ok (.ldc 55, 2) := by decide +kernel
theorem dX5_addNumber_44 : decode cX5_addNumber 44 = .ok (.invokespecial 57, 3) := by decide +kernel
theorem dX5_addNumber_47 : decode cX5_addNumber 47 = .ok (.athrow, 1) := by decide +kernel
theorem dX5_addNumber_48 : decode cX5_addNumber 48 = .ok (.aload_n 0, 1) := by decide +kernel
theorem dX5_addNumber_49 : decode cX5_addNumber 49 = .ok (.getfield 19, 3) := by decide +kernel
theorem dX5_addNumber_52 : decode cX5_addNumber 52 = .ok (.aload_n 0, 1) := by decide +kernel
theorem dX5_addNumber_53 : decode cX5_addNumber 53 = .ok (.getfield 10, 3) := by decide +kernel
theorem dX5_addNumber_56 : decode cX5_addNumber 56 = .ok (.invokevirtual 58, 3) := by decide +kernel
theorem dX5_addNumber_59 : decode cX5_addNumber 59 = .ok (.aload_n 0, 1) := by decide +kernel
theorem dX5_addNumber_60 : decode cX5_addNumber 60 = .ok (.getfield 10, 3) := by decide +kernel
theorem dX5_addNumber_63 : decode cX5_addNumber 63 = .ok (.getfield 44, 3) := by decide +kernel
theorem dX5_addNumber_66 : decode cX5_addNumber 66 = .ok (.iload_n 1, 1) := by decide +kernel
theorem dX5_addNumber_67 : decode cX5_addNumber 67 = .ok (.iload_n 2, 1) := by decide +kernel
theorem dX5_addNumber_68 : decode cX5_addNumber 68 = .ok (.invokevirtual 62, 3) := by decide +kernel
theorem dX5_addNumber_71 : decode cX5_addNumber 71 = .ok (.ireturn, 1) := by decide +kernel
theorem dX5_addCopy_0 : decode cX5_addCopy 0 = .ok (.iload_n 1, 1) := by decide +kernel
theorem dX5_addCopy_1 : decode cX5_addCopy 1 = .ok (.invokestatic 30, 3) := by decide +kernel
theorem dX5_addCopy_4 : decode cX5_addCopy 4 = .ok (.ifCond .eq 17, 3) := by decide +kernel
theorem dX5_addCopy_7 : decode cX5_addCopy 7 = .ok (.iload_n 2, 1) := by decide +kernel
theorem dX5_addCopy_8 : decode cX5_addCopy 8 = .ok (.invokestatic 30, 3) := by decide +kernel
theorem dX5_addCopy_11 : decode cX5_addCopy 11 = .ok (.ifCond .eq 10, 3) := by decide +kernel
theorem dX5_addCopy_14 : decode cX5_addCopy 14 = .ok (.iload_n 3, 1) := by decide +kernel
theorem dX5_addCopy_15 : decode cX5_addCopy 15 = .ok (.invokestatic 66, 3) := by decide +kernel
theorem dX5_addCopy_18 : decode cX5_addCopy 18 = .ok (.ifCond .ne 13, 3) := by decide +kernel
theorem dX5_addCopy_21 : decode cX5_addCopy 21 = .ok (.new 37, 3) := by decide +kernel
theorem dX5_addCopy_24 : decode cX5_addCopy 24 = .ok (.dup, 1) := by decide +kernel
theorem dX5_addCopy_25 : decode cX5_addCopy 25 = .ok (.ldc 69, 2) := by decide +kernel
theorem dX5_addCopy_27 : decode cX5_addCopy 27 = .ok (.invokespecial 41, 3) := by decide +kernel
theorem dX5_addCopy_30 : decode cX5_addCopy 30 = .ok (.athrow, 1) := by decide +kernel
theorem dX5_addCopy_31 : decode cX5_addCopy 31 = .ok (.aload_n 0, 1) := by decide +kernel
theorem dX5_addCopy_32 : decode cX5_addCopy 32 = .ok (.getfield 10, 3) := by decide +kernel
theorem dX5_addCopy_35 : decode cX5_addCopy 35 = .ok (.getfield 44, 3) := by decide +kernel
theorem dX5_addCopy_38 : decode cX5_addCopy 38 = .ok (.iload_n 1, 1) := by decide +kernel
theorem dX5_addCopy_39 : decode cX5_addCopy 39 = .ok (.iload_n 2, 1) := by decide +kernel
theorem dX5_addCopy_40 : decode cX5_addCopy 40 = .ok (.iload_n 3, 1) := by decide +kernel
theorem dX5_addCopy_41 : decode cX5_addCopy 41 = .ok (.invokevirtual 71, 3) := by decide +kernel
theorem dX5_addCopy_44 : decode cX5_addCopy 44 = .ok (.ifCond .ne 13, 3) := by decide +kernel
theorem dX5_addCopy_47 : decode cX5_addCopy 47 = .ok (.new 53, 3) := by decide +kernel
theorem dX5_addCopy_50 : decode cX5_addCopy 50 = .ok (.dup, 1) := by decide +kernel
theorem dX5_addCopy_51 : decode cX5_addCopy 51 = .ok (.ldc 75, 2) := by decide +kernel
theorem dX5_addCopy_53 : decode cX5_addCopy 53 = .ok (.invokespecial 57, 3) := by decide +kernel
theorem dX5_addCopy_56 : decode cX5_addCopy 56 = .ok (.athrow, 1) := by decide +kernel
theorem dX5_addCopy_57 : decode cX5_addCopy 57 = .ok (.aload_n 0, 1) := by decide +kernel
theorem dX5_addCopy_58 : decode cX5_addCopy 58 = .ok (.getfield 19, 3) := by decide +kernel
theorem dX5_addCopy_61 : decode cX5_addCopy 61 = .ok (.aload_n 0, 1) := by decide +kernel
theorem dX5_addCopy_62 : decode cX5_addCopy 62 = .ok (.getfield 10, 3) := by decide +kernel
theorem dX5_addCopy_65 : decode cX5_addCopy 65 = .ok (.invokevirtual 58, 3) := by decide +kernel
theorem dX5_addCopy_68 : decode cX5_addCopy 68 = .ok (.aload_n 0, 1) := by decide +kernel
theorem dX5_addCopy_69 : decode cX5_addCopy 69 = .ok (.getfield 10, 3) := by decide +kernel
theorem dX5_addCopy_72 : decode cX5_addCopy 72 = .ok (.getfield 44, 3) := by decide +kernel
theorem dX5_addCopy_75 : decode cX5_addCopy 75 = .ok (.iload_n 1, 1) := by decide +kernel
theorem dX5_addCopy_76 : decode cX5_addCopy 76 = .ok (.iload_n 2, 1) := by decide +kernel
theorem dX5_addCopy_77 : decode cX5_addCopy 77 = .ok (.iload_n 3, 1) := by decide +kernel
theorem dX5_addCopy_78 : decode cX5_addCopy 78 = .ok (.invokevirtual 77, 3) := by decide +kernel
theorem dX5_addCopy_81 : decode cX5_addCopy 81 = .ok (.ireturn, 1) := by decide +kernel
theorem dX5_drop_0 : decode cX5_drop 0 = .ok (.iload_n 1, 1) := by decide +kernel
theorem dX5_drop_1 : decode cX5_drop 1 = .ok (.invokestatic 30, 3) := by decide +kernel
theorem dX5_drop_4 : decode cX5_drop 4 = .ok (.ifCond .eq 10, 3) := by decide +kernel
theorem dX5_drop_7 : decode cX5_drop 7 = .ok (.iload_n 2, 1) := by decide +kernel
theorem dX5_drop_8 : decode cX5_drop 8 = .ok (.invokestatic 34, 3) := by decide +kernel
theorem dX5_drop_11 : decode cX5_drop 11 = .ok (.ifCond .ne 13, 3) := by decide +kernel
theorem dX5_drop_14 : decode cX5_drop 14 = .ok (.new 37, 3) := by decide +kernel
theorem dX5_drop_17 : decode cX5_drop 17 = .ok (.dup, 1) := by decide +kernel
theorem dX5_drop_18 : decode cX5_drop 18 = .ok (.ldc 39, 2) := by decide +kernel
theorem dX5_drop_20 : decode cX5_drop 20 = .ok (.invokespecial 41, 3) := by decide +kernel
theorem dX5_drop_23 : decode cX5_drop 23 = .ok (.athrow, 1) := by decide +kernel
theorem dX5_drop_24 : decode cX5_drop 24 = .ok (.aload_n 0, 1) := by decide +kernel
theorem dX5_drop_25 : decode cX5_drop 25 = .ok (.getfield 10, 3) := by decide +kernel
theorem dX5_drop_28 : decode cX5_drop 28 = .ok (.getfield 44, 3) := by decide +kernel
theorem dX5_drop_31 : decode cX5_drop 31 = .ok (.iload_n 1, 1) := by decide +kernel
theorem dX5_drop_32 : decode cX5_drop 32 = .ok (.invokevirtual 81, 3) := by decide +kernel
theorem dX5_drop_35 : decode cX5_drop 35 = .ok (.ifCond .ne 13, 3) := by decide +kernel
theorem dX5_drop_38 : decode cX5_drop 38 = .ok (.new 53, 3) := by decide +kernel
theorem dX5_drop_41 : decode cX5_drop 41 = .ok (.dup, 1) := by decide +kernel
theorem dX5_drop_42 : decode cX5_drop 42 = .ok (.ldc 84, 2) := by decide +kernel
theorem dX5_drop_44 : decode cX5_drop 44 = .ok (.invokespecial 57, 3) := by decide +kernel
theorem dX5_drop_47 : decode cX5_drop 47 = .ok (.athrow, 1) := by decide +kernel
theorem dX5_drop_48 : decode cX5_drop 48 = .ok (.aload_n 0, 1) := by decide +kernel
theorem dX5_drop_49 : decode cX5_drop 49 = .ok (.getfield 19, 3) := by decide +kernel
theorem dX5_drop_52 : decode cX5_drop 52 = .ok (.aload_n 0, 1) := by decide +kernel
theorem dX5_drop_53 : decode cX5_drop 53 = .ok (.getfield 10, 3) := by decide +kernel
theorem dX5_drop_56 : decode cX5_drop 56 = .ok (.invokevirtual 58, 3) := by decide +kernel
theorem dX5_drop_59 : decode cX5_drop 59 = .ok (.aload_n 0, 1) := by decide +kernel
theorem dX5_drop_60 : decode cX5_drop 60 = .ok (.getfield 10, 3) := by decide +kernel
theorem dX5_drop_63 : decode cX5_drop 63 = .ok (.getfield 44, 3) := by decide +kernel
theorem dX5_drop_66 : decode cX5_drop 66 = .ok (.iload_n 1, 1) := by decide +kernel
theorem dX5_drop_67 : decode cX5_drop 67 = .ok (.iload_n 2, 1) := by decide +kernel
theorem dX5_drop_68 : decode cX5_drop 68 = .ok (.invokevirtual 86, 3) := by decide +kernel
theorem dX5_drop_71 : decode cX5_drop 71 = .ok (.ireturn, 1) := by decide +kernel
theorem dX5_rename_0 : decode cX5_rename 0 = .ok (.iload_n 1, 1) := by decide +kernel
theorem dX5_rename_1 : decode cX5_rename 1 = .ok (.invokestatic 30, 3) := by decide +kernel
theorem dX5_rename_4 : decode cX5_rename 4 = .ok (.ifCond .eq 10, 3) := by decide +kernel
theorem dX5_rename_7 : decode cX5_rename 7 = .ok (.iload_n 2, 1) := by decide +kernel
theorem dX5_rename_8 : decode cX5_rename 8 = .ok (.invokestatic 30, 3) := by decide +kernel
theorem dX5_rename_11 : decode cX5_rename 11 = .ok (.ifCond .ne 13, 3) := by decide +kernel
theorem dX5_rename_14 : decode cX5_rename 14 = .ok (.new 37, 3) := by decide +kernel
theorem dX5_rename_17 : decode cX5_rename 17 = .ok (.dup, 1) := by decide +kernel
theorem dX5_rename_18 : decode cX5_rename 18 = .ok (.ldc 69, 2) := by decide +kernel
theorem dX5_rename_20 : decode cX5_rename 20 = .ok (.invokespecial 41, 3) := by decide +kernel
theorem dX5_rename_23 : decode cX5_rename 23 = .ok (.athrow, 1) := by decide +kernel
theorem dX5_rename_24 : decode cX5_rename 24 = .ok (.aload_n 0, 1) := by decide +kernel
theorem dX5_rename_25 : decode cX5_rename 25 = .ok (.getfield 10, 3) := by decide +kernel
theorem dX5_rename_28 : decode cX5_rename 28 = .ok (.getfield 44, 3) := by decide +kernel
theorem dX5_rename_31 : decode cX5_rename 31 = .ok (.iload_n 1, 1) := by decide +kernel
theorem dX5_rename_32 : decode cX5_rename 32 = .ok (.iload_n 2, 1) := by decide +kernel
theorem dX5_rename_33 : decode cX5_rename 33 = .ok (.invokevirtual 89, 3) := by decide +kernel
theorem dX5_rename_36 : decode cX5_rename 36 = .ok (.ifCond .ne 13, 3) := by decide +kernel
theorem dX5_rename_39 : decode cX5_rename 39 = .ok (.new 53, 3) := by decide +kernel
theorem dX5_rename_42 : decode cX5_rename 42 = .ok (.dup, 1) := by decide +kernel
theorem dX5_rename_43 : decode cX5_rename 43 = .ok (.ldc 75, 2) := by decide +kernel
theorem dX5_rename_45 : decode cX5_rename 45 = .ok (.invokespecial 57, 3) := by decide +kernel
theorem dX5_rename_48 : decode cX5_rename 48 = .ok (.athrow, 1) := by decide +kernel
theorem dX5_rename_49 : decode cX5_rename 49 = .ok (.aload_n 0, 1) := by decide +kernel
theorem dX5_rename_50 : decode cX5_rename 50 = .ok (.getfield 19, 3) := by decide +kernel
theorem dX5_rename_53 : decode cX5_rename 53 = .ok (.aload_n 0, 1) := by decide +kernel
theorem dX5_rename_54 : decode cX5_rename 54 = .ok (.getfield 10, 3) := by decide +kernel
theorem dX5_rename_57 : decode cX5_rename 57 = .ok (.invokevirtual 58, 3) := by decide +kernel
theorem dX5_rename_60 : decode cX5_rename 60 = .ok (.aload_n 0, 1) := by decide +kernel
theorem dX5_rename_61 : decode cX5_rename 61 = .ok (.getfield 10, 3) := by decide +kernel
theorem dX5_rename_64 : decode cX5_rename 64 = .ok (.getfield 44, 3) := by decide +kernel
theorem dX5_rename_67 : decode cX5_rename 67 = .ok (.iload_n 1, 1) := by decide +kernel
theorem dX5_rename_68 : decode cX5_rename 68 = .ok (.iload_n 2, 1) := by decide +kernel
theorem dX5_rename_69 : decode cX5_rename 69 = .ok (.invokevirtual 93, 3) := by decide +kernel
theorem dX5_rename_72 : decode cX5_rename 72 = .ok (.ireturn, 1) := by decide +kernel
theorem dX5_insert_0 : decode cX5_insert 0 = .ok (.aload_n 0, 1) := by decide +kernel
theorem dX5_insert_1 : decode cX5_insert 1 = .ok (.getfield 10, 3) := by decide +kernel
theorem dX5_insert_4 : decode cX5_insert 4 = .ok (.getfield 96, 3) := by decide +kernel
theorem dX5_insert_7 : decode cX5_insert 7 = .ok (.invokevirtual 100, 3) := by decide +kernel
theorem dX5_insert_10 : decode cX5_insert 10 = .ok (.ifCond .eq 13, 3) := by decide +kernel
theorem dX5_insert_13 : decode cX5_insert 13 = .ok (.new 53, 3) := by decide +kernel
theorem dX5_insert_16 : decode cX5_insert 16 = .ok (.dup, 1) := by decide +kernel
theorem dX5_insert_17 : decode cX5_insert 17 = .ok (.ldc 106, 2) := by decide +kernel
theorem dX5_insert_19 : decode cX5_insert 19 = .ok (.invokespecial 57, 3) := by decide +kernel
theorem dX5_insert_22 : decode cX5_insert 22 = .ok (.athrow, 1) := by decide +kernel
theorem dX5_insert_23 : decode cX5_insert 23 = .ok (.aload_n 0, 1) := by decide +kernel
theorem dX5_insert_24 : decode cX5_insert 24 = .ok (.getfield 19, 3) := by decide +kernel
theorem dX5_insert_27 : decode cX5_insert 27 = .ok (.aload_n 0, 1) := by decide +kernel
theorem dX5_insert_28 : decode cX5_insert 28 = .ok (.getfield 10, 3) := by decide +kernel
theorem dX5_insert_31 : decode cX5_insert 31 = .ok (.invokevirtual 58, 3) := by decide +kernel
theorem dX5_insert_34 : decode cX5_insert 34 = .ok (.aload_n 0, 1) := by decide +kernel
theorem dX5_insert_35 : decode cX5_insert 35 = .ok (.getfield 10, 3) := by decide +kernel
theorem dX5_insert_38 : decode cX5_insert 38 = .ok (.getfield 96, 3) := by decide +kernel
theorem dX5_insert_41 : decode cX5_insert 41 = .ok (.aload_n 0, 1) := by decide +kernel
theorem dX5_insert_42 : decode cX5_insert 42 = .ok (.getfield 10, 3) := by decide +kernel
theorem dX5_insert_45 : decode cX5_insert 45 = .ok (.getfield 44, 3) := by decide +kernel
theorem dX5_insert_48 : decode cX5_insert 48 = .ok (.invokevirtual 108, 3) := by decide +kernel
theorem dX5_insert_51 : decode cX5_insert 51 = .ok (.invokevirtual 112, 3) := by decide +kernel
theorem dX5_insert_54 : decode cX5_insert 54 = .ok (.ireturn, 1) := by decide +kernel
theorem dX5_insertBy_0 : decode cX5_insertBy 0 = .ok (.aload_n 0, 1) := by decide +kernel
theorem dX5_insertBy_1 : decode cX5_insertBy 1 = .ok (.getfield 10, 3) := by decide +kernel
theorem dX5_insertBy_4 : decode cX5_insertBy 4 = .ok (.getfield 44, 3) := by decide +kernel
theorem dX5_insertBy_7 : decode cX5_insertBy 7 = .ok (.iload_n 1, 1) := by decide +kernel
theorem dX5_insertBy_8 : decode cX5_insertBy 8 = .ok (.invokevirtual 116, 3) := by decide +kernel
theorem dX5_insertBy_11 : decode cX5_insertBy 11 = .ok (.ifCond .ne 13, 3) := by decide +kernel
theorem dX5_insertBy_14 : decode cX5_insertBy 14 = .ok (.new 119, 3) := by decide +kernel
theorem dX5_insertBy_17 : decode cX5_insertBy 17 = .ok (.dup, 1) := by decide +kernel
theorem dX5_insertBy_18 : decode cX5_insertBy 18 = .ok (.ldc 121, 2) := by decide +kernel
theorem dX5_insertBy_20 : decode cX5_insertBy 20 = .ok (.invokespecial 123, 3) := by decide +kernel
theorem dX5_insertBy_23 : decode cX5_insertBy 23 = .ok (.athrow, 1) := by decide +kernel
theorem dX5_insertBy_24 : decode cX5_insertBy 24 = .ok (.aload_n 0, 1) := by decide +kernel
theorem dX5_insertBy_25 : decode cX5_insertBy 25 = .ok (.getfield 10, 3) := by decide +kernel
theorem dX5_insertBy_28 : decode cX5_insertBy 28 = .ok (.getfield 96, 3) := by decide +kernel
theorem dX5_insertBy_31 : decode cX5_insertBy 31 = .ok (.invokevirtual 100, 3) := by decide +kernel
theorem dX5_insertBy_34 : decode cX5_insertBy 34 = .ok (.ifCond .eq 13, 3) := by decide +kernel
theorem dX5_insertBy_37 : decode cX5_insertBy 37 = .ok (.new 53, 3) := by decide +kernel
theorem dX5_insertBy_40 : decode cX5_insertBy 40 = .ok (.dup, 1) := by decide +kernel
theorem dX5_insertBy_41 : decode cX5_insertBy 41 = .ok (.ldc 106, 2) := by decide +kernel
theorem dX5_insertBy_43 : decode cX5_insertBy 43 = .ok (.invokespecial 57, 3) := by decide +kernel
theorem dX5_insertBy_46 : decode cX5_insertBy 46 = .ok (.athrow, 1) := by decide +kernel
theorem dX5_insertBy_47 : decode cX5_insertBy 47 = .ok (.aload_n 0, 1) := by decide +kernel
theorem dX5_insertBy_48 : decode cX5_insertBy 48 = .ok (.getfield 19, 3) := by decide +kernel
theorem dX5_insertBy_51 : decode cX5_insertBy 51 = .ok (.aload_n 0, 1) := by decide +kernel
theorem dX5_insertBy_52 : decode cX5_insertBy 52 = .ok (.getfield 10, 3) := by decide +kernel
theorem dX5_insertBy_55 : decode cX5_insertBy 55 = .ok (.invokevirtual 58, 3) := by decide +kernel
theorem dX5_insertBy_58 : decode cX5_insertBy 58 = .ok (.aload_n 0, 1) := by decide +kernel
theorem dX5_insertBy_59 : decode cX5_insertBy 59 = .ok (.getfield 10, 3) := by decide +kernel
theorem dX5_insertBy_62 : decode cX5_insertBy 62 = .ok (.getfield 96, 3) := by decide +kernel
theorem dX5_insertBy_65 : decode cX5_insertBy 65 = .ok (.iload_n 1, 1) := by decide +kernel
theorem dX5_insertBy_66 : decode cX5_insertBy 66 = .ok (.invokevirtual 112, 3) := by decide +kernel
theorem dX5_insertBy_69 : decode cX5_insertBy 69 = .ok (.ireturn, 1) := by decide +kernel
theorem dX5_write_0 : decode cX5_write 0 = .ok (.aload_n 0, 1) := by decide +kernel
theorem dX5_write_1 : decode cX5_write 1 = .ok (.getfield 10, 3) := by decide +kernel
theorem dX5_write_4 : decode cX5_write 4 = .ok (.getfield 96, 3) := by decide +kernel
theorem dX5_write_7 : decode cX5_write 7 = .ok (.iload_n 1, 1) := by decide +kernel
theorem dX5_write_8 : decode cX5_write 8 = .ok (.invokevirtual 124, 3) := by decide +kernel
theorem dX5_write_11 : decode cX5_write 11 = .ok (.ifCond .eq 17, 3) := by decide +kernel
theorem dX5_write_14 : decode cX5_write 14 = .ok (.aload_n 0, 1) := by decide +kernel
theorem dX5_write_15 : decode cX5_write 15 = .ok (.getfield 10, 3) := by decide +kernel
theorem dX5_write_18 : decode cX5_write 18 = .ok (.getfield 44, 3) := by decide +kernel
theorem dX5_write_21 : decode cX5_write 21 = .ok (.iload_n 2, 1) := by decide +kernel
theorem dX5_write_22 : decode cX5_write 22 = .ok (.invokevirtual 116, 3) := by decide +kernel
theorem dX5_write_25 : decode cX5_write 25 = .ok (.ifCond .ne 13, 3) := by decide +kernel
theorem dX5_write_28 : decode cX5_write 28 = .ok (.new 119, 3) := by decide +kernel
theorem dX5_write_31 : decode cX5_write 31 = .ok (.dup, 1) := by decide +kernel
theorem dX5_write_32 : decode cX5_write 32 = .ok (.ldc 127, 2) := by decide +kernel
theorem dX5_write_34 : decode cX5_write 34 = .ok (.invokespecial 123, 3) := by decide +kernel
theorem dX5_write_37 : decode cX5_write 37 = .ok (.athrow, 1) := by decide +kernel
theorem dX5_write_38 : decode cX5_write 38 = .ok (.iload_n 3, 1) := by decide +kernel
theorem dX5_write_39 : decode cX5_write 39 = .ok (.invokestatic 30, 3) := by decide +kernel
theorem dX5_write_42 : decode cX5_write 42 = .ok (.ifCond .eq 11, 3) := by decide +kernel
theorem dX5_write_45 : decode cX5_write 45 = .ok (.iload 4, 2) := by decide +kernel
theorem dX5_write_47 : decode cX5_write 47 = .ok (.invokestatic 129, 3) := by decide +kernel
theorem dX5_write_50 : decode cX5_write 50 = .ok (.ifCond .ne 13, 3) := by decide +kernel
theorem dX5_write_53 : decode cX5_write 53 = .ok (.new 37, 3) := by decide +kernel
theorem dX5_write_56 : decode cX5_write 56 = .ok (.dup, 1) := by decide +kernel
theorem dX5_write_57 : decode cX5_write 57 = .ok (.ldc 132, 2) := by decide +kernel
theorem dX5_write_59 : decode cX5_write 59 = .ok (.invokespecial 41, 3) := by decide +kernel
theorem dX5_write_62 : decode cX5_write 62 = .ok (.athrow, 1) := by decide +kernel
theorem dX5_write_63 : decode cX5_write 63 = .ok (.aload_n 0, 1) := by decide +kernel
theorem dX5_write_64 : decode cX5_write 64 = .ok (.getfield 10, 3) := by decide +kernel
theorem dX5_write_67 : decode cX5_write 67 = .ok (.iload_n 1, 1) := by decide +kernel
theorem dX5_write_68 : decode cX5_write 68 = .ok (.iload_n 2, 1) := by decide +kernel
theorem dX5_write_69 : decode cX5_write 69 = .ok (.iload_n 3, 1) := by decide +kernel
theorem dX5_write_70 : decode cX5_write 70 = .ok (.invokevirtual 134, 3) := by decide +kernel
theorem dX5_write_73 : decode cX5_write 73 = .ok (.ifCond .eq 13, 3) := by decide +kernel
theorem dX5_write_76 : decode cX5_write 76 = .ok (.new 53, 3) := by decide +kernel
theorem dX5_write_79 : decode cX5_write 79 = .ok (.dup, 1) := by decide +kernel
theorem dX5_write_80 : decode cX5_write 80 = .ok (.ldc 137, 2) := by decide +kernel
theorem dX5_write_82 : decode cX5_write 82 = .ok (.invokespecial 57, 3) := by decide +kernel
theorem dX5_write_85 : decode cX5_write 85 = .ok (.athrow, 1) := by decide +kernel
theorem dX5_write_86 : decode cX5_write 86 = .ok (.aload_n 0, 1) := by decide +kernel
theorem dX5_write_87 : decode cX5_write 87 = .ok (.getfield 19, 3) := by decide +kernel
theorem dX5_write_90 : decode cX5_write 90 = .ok (.aload_n 0, 1) := by decide +kernel
theorem dX5_write_91 : decode cX5_write 91 = .ok (.getfield 10, 3) := by decide +kernel
theorem dX5_write_94 : decode cX5_write 94 = .ok (.invokevirtual 58, 3) := by decide +kernel
theorem dX5_write_97 : decode cX5_write 97 = .ok (.aload_n 0, 1) := by decide +kernel
theorem dX5_write_98 : decode cX5_write 98 = .ok (.getfield 10, 3) := by decide +kernel
theorem dX5_write_101 : decode cX5_write 101 = .ok (.iload_n 1, 1) := by decide +kernel
theorem dX5_write_102 : decode cX5_write 102 = .ok (.iload_n 2, 1) := by decide +kernel
theorem dX5_write_103 : decode cX5_write 103 = .ok (.iload_n 3, 1) := by decide +kernel
theorem dX5_write_104 : decode cX5_write 104 = .ok (.iload 4, 2) := by decide +kernel
theorem dX5_write_106 : decode cX5_write 106 = .ok (.invokevirtual 139, 3) := by decide +kernel
theorem dX5_write_109 : decode cX5_write 109 = .ok (.ireturn, 1) := by decide +kernel
theorem dX5_remove_0 : decode cX5_remove 0 = .ok (.aload_n 0, 1) := by decide +kernel
theorem dX5_remove_1 : decode cX5_remove 1 = .ok (.getfield 10, 3) := by decide +kernel
theorem dX5_remove_4 : decode cX5_remove 4 = .ok (.getfield 96, 3) := by decide +kernel
theorem dX5_remove_7 : decode cX5_remove 7 = .ok (.iload_n 1, 1) := by decide +kernel
theorem dX5_remove_8 : decode cX5_remove 8 = .ok (.invokevirtual 124, 3) := by decide +kernel
theorem dX5_remove_11 : decode cX5_remove 11 = .ok (.ifCond .ne 13, 3) := by decide +kernel
theorem dX5_remove_14 : decode cX5_remove 14 = .ok (.new 119, 3) := by decide +kernel
theorem dX5_remove_17 : decode cX5_remove 17 = .ok (.dup, 1) := by decide +kernel
theorem dX5_remove_18 : decode cX5_remove 18 = .ok (.ldc 143, 2) := by decide +kernel
theorem dX5_remove_20 : decode cX5_remove 20 = .ok (.invokespecial 123, 3) := by decide +kernel
theorem dX5_remove_23 : decode cX5_remove 23 = .ok (.athrow, 1) := by decide +kernel
theorem dX5_remove_24 : decode cX5_remove 24 = .ok (.aload_n 0, 1) := by decide +kernel
theorem dX5_remove_25 : decode cX5_remove 25 = .ok (.getfield 19, 3) := by decide +kernel
theorem dX5_remove_28 : decode cX5_remove 28 = .ok (.aload_n 0, 1) := by decide +kernel
theorem dX5_remove_29 : decode cX5_remove 29 = .ok (.getfield 10, 3) := by decide +kernel
theorem dX5_remove_32 : decode cX5_remove 32 = .ok (.invokevirtual 58, 3) := by decide +kernel
theorem dX5_remove_35 : decode cX5_remove 35 = .ok (.aload_n 0, 1) := by decide +kernel
theorem dX5_remove_36 : decode cX5_remove 36 = .ok (.getfield 10, 3) := by decide +kernel
theorem dX5_remove_39 : decode cX5_remove 39 = .ok (.getfield 96, 3) := by decide +kernel
theorem dX5_remove_42 : decode cX5_remove 42 = .ok (.iload_n 1, 1) := by decide +kernel
theorem dX5_remove_43 : decode cX5_remove 43 = .ok (.invokevirtual 145, 3) := by decide +kernel
theorem dX5_remove_46 : decode cX5_remove 46 = .ok (.ireturn, 1) := by decide +kernel
theorem dX5_goOn_0 : decode cX5_goOn 0 = .ok (.iload_n 1, 1) := by decide +kernel
theorem dX5_goOn_1 : decode cX5_goOn 1 = .ok (.iconst 1, 1) := by decide +kernel
theorem dX5_goOn_2 : decode cX5_goOn 2 = .ok (.if_icmp .lt 9, 3) := by decide +kernel
theorem dX5_goOn_5 : decode cX5_goOn 5 = .ok (.iload_n 1, 1) := by decide +kernel
theorem dX5_goOn_6 : decode cX5_goOn 6 = .ok (.bipush 12, 2) := by decide +kernel
theorem dX5_goOn_8 : decode cX5_goOn 8 = .ok (.if_icmp .le 13, 3) := by decide +kernel
theorem dX5_goOn_11 : decode cX5_goOn 11 = .ok (.new 37, 3) := by decide +kernel
theorem dX5_goOn_14 : decode cX5_goOn 14 = .ok (.dup, 1) := by decide +kernel
theorem dX5_goOn_15 : decode cX5_goOn 15 = .ok (.ldc 148, 2) := by decide +kernel
theorem dX5_goOn_17 : decode cX5_goOn 17 = .ok (.invokespecial 41, 3) := by decide +kernel
theorem dX5_goOn_20 : decode cX5_goOn 20 = .ok (.athrow, 1) := by decide +kernel
theorem dX5_goOn_21 : decode cX5_goOn 21 = .ok (.aload_n 0, 1) := by decide +kernel
theorem dX5_goOn_22 : decode cX5_goOn 22 = .ok (.getfield 19, 3) := by decide +kernel
theorem dX5_goOn_25 : decode cX5_goOn 25 = .ok (.aload_n 0, 1) := by decide +kernel
theorem dX5_goOn_26 : decode cX5_goOn 26 = .ok (.getfield 10, 3) := by decide +kernel
theorem dX5_goOn_29 : decode cX5_goOn 29 = .ok (.invokevirtual 58, 3) := by decide +kernel
theorem dX5_goOn_32 : decode cX5_goOn 32 = .ok (.aload_n 0, 1) := by decide +kernel
theorem dX5_goOn_33 : decode cX5_goOn 33 = .ok (.getfield 10, 3) := by decide +kernel
theorem dX5_goOn_36 : decode cX5_goOn 36 = .ok (.iload_n 1, 1) := by decide +kernel
theorem dX5_goOn_37 : decode cX5_goOn 37 = .ok (.invokevirtual 150, 3) := by decide +kernel
theorem dX5_goOn_40 : decode cX5_goOn 40 = .ok (.ireturn, 1) := by decide +kernel
theorem dX5_hold_0 : decode cX5_hold 0 = .ok (.iload_n 1, 1) := by decide +kernel
theorem dX5_hold_1 : decode cX5_hold 1 = .ok (.invokestatic 153, 3) := by decide +kernel
theorem dX5_hold_4 : decode cX5_hold 4 = .ok (.ifCond .eq 17, 3) := by decide +kernel
theorem dX5_hold_7 : decode cX5_hold 7 = .ok (.aload_n 0, 1) := by decide +kernel
theorem dX5_hold_8 : decode cX5_hold 8 = .ok (.getfield 10, 3) := by decide +kernel
theorem dX5_hold_11 : decode cX5_hold 11 = .ok (.getfield 44, 3) := by decide +kernel
theorem dX5_hold_14 : decode cX5_hold 14 = .ok (.iload_n 2, 1) := by decide +kernel
theorem dX5_hold_15 : decode cX5_hold 15 = .ok (.invokevirtual 116, 3) := by decide +kernel
theorem dX5_hold_18 : decode cX5_hold 18 = .ok (.ifCond .ne 13, 3) := by decide +kernel
theorem dX5_hold_21 : decode cX5_hold 21 = .ok (.new 119, 3) := by decide +kernel
theorem dX5_hold_24 : decode cX5_hold 24 = .ok (.dup, 1) := by decide +kernel
theorem dX5_hold_25 : decode cX5_hold 25 = .ok (.ldc 156, 2) := by decide +kernel
theorem dX5_hold_27 : decode cX5_hold 27 = .ok (.invokespecial 123, 3) := by decide +kernel
theorem dX5_hold_30 : decode cX5_hold 30 = .ok (.athrow, 1) := by decide +kernel
theorem dX5_hold_31 : decode cX5_hold 31 = .ok (.aload_n 0, 1) := by decide +kernel
theorem dX5_hold_32 : decode cX5_hold 32 = .ok (.getfield 19, 3) := by decide +kernel
theorem dX5_hold_35 : decode cX5_hold 35 = .ok (.aload_n 0, 1) := by decide +kernel
theorem dX5_hold_36 : decode cX5_hold 36 = .ok (.getfield 10, 3) := by decide +kernel
theorem dX5_hold_39 : decode cX5_hold 39 = .ok (.invokevirtual 58, 3) := by decide +kernel
theorem dX5_hold_42 : decode cX5_hold 42 = .ok (.aload_n 0, 1) := by decide +kernel
theorem dX5_hold_43 : decode cX5_hold 43 = .ok (.getfield 10, 3) := by decide +kernel
theorem dX5_hold_46 : decode cX5_hold 46 = .ok (.iload_n 1, 1) := by decide +kernel
theorem dX5_hold_47 : decode cX5_hold 47 = .ok (.iload_n 2, 1) := by decide +kernel
theorem dX5_hold_48 : decode cX5_hold 48 = .ok (.invokevirtual 158, 3) := by decide +kernel
theorem dX5_hold_51 : decode cX5_hold 51 = .ok (.ireturn, 1) := by decide +kernel
theorem dX5_retire_0 : decode cX5_retire 0 = .ok (.aload_n 0, 1) := by decide +kernel
theorem dX5_retire_1 : decode cX5_retire 1 = .ok (.getfield 10, 3) := by decide +kernel
theorem dX5_retire_4 : decode cX5_retire 4 = .ok (.getfield 44, 3) := by decide +kernel
theorem dX5_retire_7 : decode cX5_retire 7 = .ok (.iload_n 1, 1) := by decide +kernel
theorem dX5_retire_8 : decode cX5_retire 8 = .ok (.invokevirtual 116, 3) := by decide +kernel
theorem dX5_retire_11 : decode cX5_retire 11 = .ok (.ifCond .ne 13, 3) := by decide +kernel
theorem dX5_retire_14 : decode cX5_retire 14 = .ok (.new 119, 3) := by decide +kernel
theorem dX5_retire_17 : decode cX5_retire 17 = .ok (.dup, 1) := by decide +kernel
theorem dX5_retire_18 : decode cX5_retire 18 = .ok (.ldc 121, 2) := by decide +kernel
theorem dX5_retire_20 : decode cX5_retire 20 = .ok (.invokespecial 123, 3) := by decide +kernel
theorem dX5_retire_23 : decode cX5_retire 23 = .ok (.athrow, 1) := by decide +kernel
theorem dX5_retire_24 : decode cX5_retire 24 = .ok (.aload_n 0, 1) := by decide +kernel
theorem dX5_retire_25 : decode cX5_retire 25 = .ok (.getfield 10, 3) := by decide +kernel
theorem dX5_retire_28 : decode cX5_retire 28 = .ok (.invokevirtual 161, 3) := by decide +kernel
theorem dX5_retire_31 : decode cX5_retire 31 = .ok (.iload_n 1, 1) := by decide +kernel
theorem dX5_retire_32 : decode cX5_retire 32 = .ok (.if_icmp .ge 13, 3) := by decide +kernel
theorem dX5_retire_35 : decode cX5_retire 35 = .ok (.new 53, 3) := by decide +kernel
theorem dX5_retire_38 : decode cX5_retire 38 = .ok (.dup, 1) := by decide +kernel
theorem dX5_retire_39 : decode cX5_retire 39 = .ok (.ldc 164, 2) := by decide +kernel
theorem dX5_retire_41 : decode cX5_retire 41 = .ok (.invokespecial 57, 3) := by decide +kernel
theorem dX5_retire_44 : decode cX5_retire 44 = .ok (.athrow, 1) := by decide +kernel
theorem dX5_retire_45 : decode cX5_retire 45 = .ok (.aload_n 0, 1) := by decide +kernel
theorem dX5_retire_46 : decode cX5_retire 46 = .ok (.getfield 19, 3) := by decide +kernel
theorem dX5_retire_49 : decode cX5_retire 49 = .ok (.aload_n 0, 1) := by decide +kernel
theorem dX5_retire_50 : decode cX5_retire 50 = .ok (.getfield 10, 3) := by decide +kernel
theorem dX5_retire_53 : decode cX5_retire 53 = .ok (.invokevirtual 58, 3) := by decide +kernel
theorem dX5_retire_56 : decode cX5_retire 56 = .ok (.aload_n 0, 1) := by decide +kernel
theorem dX5_retire_57 : decode cX5_retire 57 = .ok (.getfield 10, 3) := by decide +kernel
theorem dX5_retire_60 : decode cX5_retire 60 = .ok (.getfield 44, 3) := by decide +kernel
theorem dX5_retire_63 : decode cX5_retire 63 = .ok (.iload_n 1, 1) := by decide +kernel
theorem dX5_retire_64 : decode cX5_retire 64 = .ok (.invokevirtual 166, 3) := by decide +kernel
theorem dX5_retire_67 : decode cX5_retire 67 = .ok (.ireturn, 1) := by decide +kernel
theorem dX5_append_0 : decode cX5_append 0 = .ok (.iload_n 1, 1) := by decide +kernel
theorem dX5_append_1 : decode cX5_append 1 = .ok (.bipush 33, 2) := by decide +kernel
theorem dX5_append_3 : decode cX5_append 3 = .ok (.if_icmp .lt 9, 3) := by decide +kernel
theorem dX5_append_6 : decode cX5_append 6 = .ok (.iload_n 1, 1) := by decide +kernel
theorem dX5_append_7 : decode cX5_append 7 = .ok (.bipush 126, 2) := by decide +kernel
theorem dX5_append_9 : decode cX5_append 9 = .ok (.if_icmp .le 13, 3) := by decide +kernel
theorem dX5_append_12 : decode cX5_append 12 = .ok (.new 37, 3) := by decide +kernel
theorem dX5_append_15 : decode cX5_append 15 = .ok (.dup, 1) := by decide +kernel
theorem dX5_append_16 : decode cX5_append 16 = .ok (.ldc 169, 2) := by decide +kernel
theorem dX5_append_18 : decode cX5_append 18 = .ok (.invokespecial 41, 3) := by decide +kernel
theorem dX5_append_21 : decode cX5_append 21 = .ok (.athrow, 1) := by decide +kernel
theorem dX5_append_22 : decode cX5_append 22 = .ok (.aload_n 0, 1) := by decide +kernel
theorem dX5_append_23 : decode cX5_append 23 = .ok (.getfield 26, 3) := by decide +kernel
theorem dX5_append_26 : decode cX5_append 26 = .ok (.invokevirtual 171, 3) := by decide +kernel
theorem dX5_append_29 : decode cX5_append 29 = .ok (.ifCond .eq 13, 3) := by decide +kernel
theorem dX5_append_32 : decode cX5_append 32 = .ok (.new 53, 3) := by decide +kernel
theorem dX5_append_35 : decode cX5_append 35 = .ok (.dup, 1) := by decide +kernel
theorem dX5_append_36 : decode cX5_append 36 = .ok (.ldc 172, 2) := by decide +kernel
theorem dX5_append_38 : decode cX5_append 38 = .ok (.invokespecial 57, 3) := by decide +kernel
theorem dX5_append_41 : decode cX5_append 41 = .ok (.athrow, 1) := by decide +kernel
theorem dX5_append_42 : decode cX5_append 42 = .ok (.aload_n 0, 1) := by decide +kernel
theorem dX5_append_43 : decode cX5_append 43 = .ok (.getfield 26, 3) := by decide +kernel
theorem dX5_append_46 : decode cX5_append 46 = .ok (.iload_n 1, 1) := by decide +kernel
theorem dX5_append_47 : decode cX5_append 47 = .ok (.invokevirtual 174, 3) := by decide +kernel
theorem dX5_append_50 : decode cX5_append 50 = .ok (.ireturn, 1) := by decide +kernel
theorem dX5_clearBuffer_0 : decode cX5_clearBuffer 0 = .ok (.aload_n 0, 1) := by decide +kernel
theorem dX5_clearBuffer_1 : decode cX5_clearBuffer 1 = .ok (.getfield 26, 3) := by decide +kernel
theorem dX5_clearBuffer_4 : decode cX5_clearBuffer 4 = .ok (.invokevirtual 177, 3) := by decide +kernel
theorem dX5_clearBuffer_7 : decode cX5_clearBuffer 7 = .ok (.ireturn, 1) := by decide +kernel
theorem dX5_firstError_0 : decode cX5_firstError 0 = .ok (.aload_n 0, 1) := by decide +kernel
theorem dX5_firstError_1 : decode cX5_firstError 1 = .ok (.getfield 26, 3) := by decide +kernel
theorem dX5_firstError_4 : decode cX5_firstError 4 = .ok (.invokevirtual 180, 3) := by decide +kernel
theorem dX5_firstError_7 : decode cX5_firstError 7 = .ok (.ireturn, 1) := by decide +kernel
theorem dX5_run_0 : decode cX5_run 0 = .ok (.aload_n 0, 1) := by decide +kernel
theorem dX5_run_1 : decode cX5_run 1 = .ok (.getfield 26, 3) := by decide +kernel
theorem dX5_run_4 : decode cX5_run 4 = .ok (.invokevirtual 183, 3) := by decide +kernel
theorem dX5_run_7 : decode cX5_run 7 = .ok (.ifCond .ne 13, 3) := by decide +kernel
theorem dX5_run_10 : decode cX5_run 10 = .ok (.new 37, 3) := by decide +kernel
theorem dX5_run_13 : decode cX5_run 13 = .ok (.dup, 1) := by decide +kernel
theorem dX5_run_14 : decode cX5_run 14 = .ok (.ldc 186, 2) := by decide +kernel
theorem dX5_run_16 : decode cX5_run 16 = .ok (.invokespecial 41, 3) := by decide +kernel
theorem dX5_run_19 : decode cX5_run 19 = .ok (.athrow, 1) := by decide +kernel
theorem dX5_run_20 : decode cX5_run 20 = .ok (.aload_n 0, 1) := by decide +kernel
theorem dX5_run_21 : decode cX5_run 21 = .ok (.getfield 19, 3) := by decide +kernel
theorem dX5_run_24 : decode cX5_run 24 = .ok (.aload_n 0, 1) := by decide +kernel
theorem dX5_run_25 : decode cX5_run 25 = .ok (.getfield 10, 3) := by decide +kernel
theorem dX5_run_28 : decode cX5_run 28 = .ok (.invokevirtual 58, 3) := by decide +kernel
theorem dX5_run_31 : decode cX5_run 31 = .ok (.iconst 0, 1) := by decide +kernel
theorem dX5_run_32 : decode cX5_run 32 = .ok (.istore_n 1, 1) := by decide +kernel
theorem dX5_run_33 : decode cX5_run 33 = .ok (.iconst 0, 1) := by decide +kernel
theorem dX5_run_34 : decode cX5_run 34 = .ok (.istore_n 2, 1) := by decide +kernel
theorem dX5_run_35 : decode cX5_run 35 = .ok (.iconst 1, 1) := by decide +kernel
theorem dX5_run_36 : decode cX5_run 36 = .ok (.istore_n 3, 1) := by decide +kernel
theorem dX5_run_37 : decode cX5_run 37 = .ok (.iconst 0, 1) := by decide +kernel
theorem dX5_run_38 : decode cX5_run 38 = .ok (.istore 4, 2) := by decide +kernel
theorem dX5_run_40 : decode cX5_run 40 = .ok (.iload_n 3, 1) := by decide +kernel
theorem dX5_run_41 : decode cX5_run 41 = .ok (.ifCond .eq 58, 3) := by decide +kernel
theorem dX5_run_44 : decode cX5_run 44 = .ok (.iload 4, 2) := by decide +kernel
theorem dX5_run_46 : decode cX5_run 46 = .ok (.aload_n 0, 1) := by decide +kernel
theorem dX5_run_47 : decode cX5_run 47 = .ok (.getfield 26, 3) := by decide +kernel
theorem dX5_run_50 : decode cX5_run 50 = .ok (.invokevirtual 188, 3) := by decide +kernel
theorem dX5_run_53 : decode cX5_run 53 = .ok (.if_icmp .gt 46, 3) := by decide +kernel
theorem dX5_run_56 : decode cX5_run 56 = .ok (.aload_n 0, 1) := by decide +kernel
theorem dX5_run_57 : decode cX5_run 57 = .ok (.getfield 26, 3) := by decide +kernel
theorem dX5_run_60 : decode cX5_run 60 = .ok (.iload 4, 2) := by decide +kernel
theorem dX5_run_62 : decode cX5_run 62 = .ok (.invokevirtual 191, 3) := by decide +kernel
theorem dX5_run_65 : decode cX5_run 65 = .ok (.ifCond .eq 28, 3) := by decide +kernel
theorem dX5_run_68 : decode cX5_run 68 = .ok (.aload_n 0, 1) := by decide +kernel
theorem dX5_run_69 : decode cX5_run 69 = .ok (.iload_n 2, 1) := by decide +kernel
theorem dX5_run_70 : decode cX5_run 70 = .ok (.iload 4, 2) := by decide +kernel
theorem dX5_run_72 : decode cX5_run 72 = .ok (.invokevirtual 194, 3) := by decide +kernel
theorem dX5_run_75 : decode cX5_run 75 = .ok (.istore_n 3, 1) := by decide +kernel
theorem dX5_run_76 : decode cX5_run 76 = .ok (.iload_n 1, 1) := by decide +kernel
theorem dX5_run_77 : decode cX5_run 77 = .ok (.iload_n 3, 1) := by decide +kernel
theorem dX5_run_78 : decode cX5_run 78 = .ok (.ifCond .eq 7, 3) := by decide +kernel
theorem dX5_run_81 : decode cX5_run 81 = .ok (.iconst 1, 1) := by decide +kernel
theorem dX5_run_82 : decode cX5_run 82 = .ok (.goto 4, 3) := by decide +kernel
theorem dX5_run_85 : decode cX5_run 85 = .ok (.iconst 0, 1) := by decide +kernel
theorem dX5_run_86 : decode cX5_run 86 = .ok (.iadd, 1) := by decide +kernel
theorem dX5_run_87 : decode cX5_run 87 = .ok (.istore_n 1, 1) := by decide +kernel
theorem dX5_run_88 : decode cX5_run 88 = .ok (.iload 4, 2) := by decide +kernel
theorem dX5_run_90 : decode cX5_run 90 = .ok (.iconst 1, 1) := by decide +kernel
theorem dX5_run_91 : decode cX5_run 91 = .ok (.iadd, 1) := by decide +kernel
theorem dX5_run_92 : decode cX5_run 92 = .ok (.istore_n 2, 1) := by decide +kernel
theorem dX5_run_93 : decode cX5_run 93 = .ok (.iinc 4 1, 3) := by decide +kernel
theorem dX5_run_96 : decode cX5_run 96 = .ok (.goto (-56), 3) := by decide +kernel
theorem dX5_run_99 : decode cX5_run 99 = .ok (.aload_n 0, 1) := by decide +kernel
theorem dX5_run_100 : decode cX5_run 100 = .ok (.getfield 26, 3) := by decide +kernel
theorem dX5_run_103 : decode cX5_run 103 = .ok (.invokevirtual 177, 3) := by decide +kernel
theorem dX5_run_106 : decode cX5_run 106 = .ok (.pop, 1) := by decide +kernel
theorem dX5_run_107 : decode cX5_run 107 = .ok (.iload_n 1, 1) := by decide +kernel
theorem dX5_run_108 : decode cX5_run 108 = .ok (.ireturn, 1) := by decide +kernel
theorem dX5_undo_0 : decode cX5_undo 0 = .ok (.aload_n 0, 1) := by decide +kernel
theorem dX5_undo_1 : decode cX5_undo 1 = .ok (.getfield 19, 3) := by decide +kernel
theorem dX5_undo_4 : decode cX5_undo 4 = .ok (.invokevirtual 197, 3) := by decide +kernel
theorem dX5_undo_7 : decode cX5_undo 7 = .ok (.ifCond .ne 13, 3) := by decide +kernel
theorem dX5_undo_10 : decode cX5_undo 10 = .ok (.new 53, 3) := by decide +kernel
theorem dX5_undo_13 : decode cX5_undo 13 = .ok (.dup, 1) := by decide +kernel
theorem dX5_undo_14 : decode cX5_undo 14 = .ok (.ldc 200, 2) := by decide +kernel
theorem dX5_undo_16 : decode cX5_undo 16 = .ok (.invokespecial 57, 3) := by decide +kernel
theorem dX5_undo_19 : decode cX5_undo 19 = .ok (.athrow, 1) := by decide +kernel
theorem dX5_undo_20 : decode cX5_undo 20 = .ok (.aload_n 0, 1) := by decide +kernel
theorem dX5_undo_21 : decode cX5_undo 21 = .ok (.getfield 19, 3) := by decide +kernel
theorem dX5_undo_24 : decode cX5_undo 24 = .ok (.aload_n 0, 1) := by decide +kernel
theorem dX5_undo_25 : decode cX5_undo 25 = .ok (.getfield 10, 3) := by decide +kernel
theorem dX5_undo_28 : decode cX5_undo 28 = .ok (.invokevirtual 202, 3) := by decide +kernel
theorem dX5_undo_31 : decode cX5_undo 31 = .ok (.ireturn, 1) := by decide +kernel
theorem dX5_read_0 : decode cX5_read 0 = .ok (.aload_n 0, 1) := by decide +kernel
theorem dX5_read_1 : decode cX5_read 1 = .ok (.getfield 10, 3) := by decide +kernel
theorem dX5_read_4 : decode cX5_read 4 = .ok (.getfield 96, 3) := by decide +kernel
theorem dX5_read_7 : decode cX5_read 7 = .ok (.iload_n 1, 1) := by decide +kernel
theorem dX5_read_8 : decode cX5_read 8 = .ok (.invokevirtual 124, 3) := by decide +kernel
theorem dX5_read_11 : decode cX5_read 11 = .ok (.ifCond .eq 17, 3) := by decide +kernel
theorem dX5_read_14 : decode cX5_read 14 = .ok (.aload_n 0, 1) := by decide +kernel
theorem dX5_read_15 : decode cX5_read 15 = .ok (.getfield 10, 3) := by decide +kernel
theorem dX5_read_18 : decode cX5_read 18 = .ok (.getfield 44, 3) := by decide +kernel
theorem dX5_read_21 : decode cX5_read 21 = .ok (.iload_n 2, 1) := by decide +kernel
theorem dX5_read_22 : decode cX5_read 22 = .ok (.invokevirtual 116, 3) := by decide +kernel
theorem dX5_read_25 : decode cX5_read 25 = .ok (.ifCond .ne 13, 3) := by decide +kernel
theorem dX5_read_28 : decode cX5_read 28 = .ok (.new 119, 3) := by decide +kernel
theorem dX5_read_31 : decode cX5_read 31 = .ok (.dup, 1) := by decide +kernel
theorem dX5_read_32 : decode cX5_read 32 = .ok (.ldc 127, 2) := by decide +kernel
theorem dX5_read_34 : decode cX5_read 34 = .ok (.invokespecial 123, 3) := by decide +kernel
theorem dX5_read_37 : decode cX5_read 37 = .ok (.athrow, 1) := by decide +kernel
theorem dX5_read_38 : decode cX5_read 38 = .ok (.iload_n 3, 1) := by decide +kernel
theorem dX5_read_39 : decode cX5_read 39 = .ok (.invokestatic 30, 3) := by decide +kernel
theorem dX5_read_42 : decode cX5_read 42 = .ok (.ifCond .ne 13, 3) := by decide +kernel
theorem dX5_read_45 : decode cX5_read 45 = .ok (.new 37, 3) := by decide +kernel
theorem dX5_read_48 : decode cX5_read 48 = .ok (.dup, 1) := by decide +kernel
theorem dX5_read_49 : decode cX5_read 49 = .ok (.ldc 206, 2) := by decide +kernel
theorem dX5_read_51 : decode cX5_read 51 = .ok (.invokespecial 41, 3) := by decide +kernel
theorem dX5_read_54 : decode cX5_read 54 = .ok (.athrow, 1) := by decide +kernel
theorem dX5_read_55 : decode cX5_read 55 = .ok (.aload_n 0, 1) := by decide +kernel
theorem dX5_read_56 : decode cX5_read 56 = .ok (.getfield 10, 3) := by decide +kernel
theorem dX5_read_59 : decode cX5_read 59 = .ok (.iload_n 1, 1) := by decide +kernel
theorem dX5_read_60 : decode cX5_read 60 = .ok (.iload_n 2, 1) := by decide +kernel
theorem dX5_read_61 : decode cX5_read 61 = .ok (.iload_n 3, 1) := by decide +kernel
theorem dX5_read_62 : decode cX5_read 62 = .ok (.invokevirtual 208, 3) := by decide +kernel
theorem dX5_read_65 : decode cX5_read 65 = .ok (.ireturn, 1) := by decide +kernel
theorem dX5_readAs_0 : decode cX5_readAs 0 = .ok (.iload_n 1, 1) := by decide +kernel
theorem dX5_readAs_1 : decode cX5_readAs 1 = .ok (.invokestatic 153, 3) := by decide +kernel
theorem dX5_readAs_4 : decode cX5_readAs 4 = .ok (.ifCond .eq 17, 3) := by decide +kernel
theorem dX5_readAs_7 : decode cX5_readAs 7 = .ok (.aload_n 0, 1) := by decide +kernel
theorem dX5_readAs_8 : decode cX5_readAs 8 = .ok (.getfield 10, 3) := by decide +kernel
theorem dX5_readAs_11 : decode cX5_readAs 11 = .ok (.getfield 96, 3) := by decide +kernel
theorem dX5_readAs_14 : decode cX5_readAs 14 = .ok (.iload_n 2, 1) := by decide +kernel
theorem dX5_readAs_15 : decode cX5_readAs 15 = .ok (.invokevirtual 124, 3) := by decide +kernel
theorem dX5_readAs_18 : decode cX5_readAs 18 = .ok (.ifCond .ne 13, 3) := by decide +kernel
theorem dX5_readAs_21 : decode cX5_readAs 21 = .ok (.new 119, 3) := by decide +kernel
theorem dX5_readAs_24 : decode cX5_readAs 24 = .ok (.dup, 1) := by decide +kernel
theorem dX5_readAs_25 : decode cX5_readAs 25 = .ok (.ldc 211, 2) := by decide +kernel
theorem dX5_readAs_27 : decode cX5_readAs 27 = .ok (.invokespecial 123, 3) := by decide +kernel
theorem dX5_readAs_30 : decode cX5_readAs 30 = .ok (.athrow, 1) := by decide +kernel
theorem dX5_readAs_31 : decode cX5_readAs 31 = .ok (.iload_n 3, 1) := by decide +kernel
theorem dX5_readAs_32 : decode cX5_readAs 32 = .ok (.invokestatic 30, 3) := by decide +kernel
theorem dX5_readAs_35 : decode cX5_readAs 35 = .ok (.ifCond .ne 13, 3) := by decide +kernel
theorem dX5_readAs_38 : decode cX5_readAs 38 = .ok (.new 37, 3) := by decide +kernel
theorem dX5_readAs_41 : decode cX5_readAs 41 = .ok (.dup, 1) := by decide +kernel
theorem dX5_readAs_42 : decode cX5_readAs 42 = .ok (.ldc 206, 2) := by decide +kernel
theorem dX5_readAs_44 : decode cX5_readAs 44 = .ok (.invokespecial 41, 3) := by decide +kernel
theorem dX5_readAs_47 : decode cX5_readAs 47 = .ok (.athrow, 1) := by decide +kernel
theorem dX5_readAs_48 : decode cX5_readAs 48 = .ok (.aload_n 0, 1) := by decide +kernel
theorem dX5_readAs_49 : decode cX5_readAs 49 = .ok (.getfield 10, 3) := by decide +kernel
theorem dX5_readAs_52 : decode cX5_readAs 52 = .ok (.iload_n 2, 1) := by decide +kernel
theorem dX5_readAs_53 : decode cX5_readAs 53 = .ok (.aload_n 0, 1) := by decide +kernel
theorem dX5_readAs_54 : decode cX5_readAs 54 = .ok (.getfield 10, 3) := by decide +kernel
theorem dX5_readAs_57 : decode cX5_readAs 57 = .ok (.iload_n 1, 1) := by decide +kernel
theorem dX5_readAs_58 : decode cX5_readAs 58 = .ok (.invokevirtual 213, 3) := by decide +kernel
theorem dX5_readAs_61 : decode cX5_readAs 61 = .ok (.iload_n 3, 1) := by decide +kernel
theorem dX5_readAs_62 : decode cX5_readAs 62 = .ok (.invokevirtual 208, 3) := by decide +kernel
theorem dX5_readAs_65 : decode cX5_readAs 65 = .ok (.ireturn, 1) := by decide +kernel
theorem dX5_column_0 : decode cX5_column 0 = .ok (.aload_n 0, 1) := by decide +kernel
theorem dX5_column_1 : decode cX5_column 1 = .ok (.getfield 10, 3) := by decide +kernel
theorem dX5_column_4 : decode cX5_column 4 = .ok (.getfield 44, 3) := by decide +kernel
theorem dX5_column_7 : decode cX5_column 7 = .ok (.iload_n 1, 1) := by decide +kernel
theorem dX5_column_8 : decode cX5_column 8 = .ok (.invokevirtual 216, 3) := by decide +kernel
theorem dX5_column_11 : decode cX5_column 11 = .ok (.ifCond .ne 13, 3) := by decide +kernel
theorem dX5_column_14 : decode cX5_column 14 = .ok (.new 119, 3) := by decide +kernel
theorem dX5_column_17 : decode cX5_column 17 = .ok (.dup, 1) := by decide +kernel
theorem dX5_column_18 : decode cX5_column 18 = .ok (.ldc 217, 2) := by decide +kernel
theorem dX5_column_20 : decode cX5_column 20 = .ok (.invokespecial 123, 3) := by decide +kernel
theorem dX5_column_23 : decode cX5_column 23 = .ok (.athrow, 1) := by decide +kernel
theorem dX5_column_24 : decode cX5_column 24 = .ok (.iload_n 2, 1) := by decide +kernel
theorem dX5_column_25 : decode cX5_column 25 = .ok (.ifCond .lt 12, 3) := by decide +kernel
theorem dX5_column_28 : decode cX5_column 28 = .ok (.iload_n 3, 1) := by decide +kernel
theorem dX5_column_29 : decode cX5_column 29 = .ok (.ifCond .lt 8, 3) := by decide +kernel
theorem dX5_column_32 : decode cX5_column 32 = .ok (.iload_n 3, 1) := by decide +kernel
theorem dX5_column_33 : decode cX5_column 33 = .ok (.iconst 3, 1) := by decide +kernel
theorem dX5_column_34 : decode cX5_column 34 = .ok (.if_icmp .lt 13, 3) := by decide +kernel
theorem dX5_column_37 : decode cX5_column 37 = .ok (.new 37, 3) := by decide +kernel
theorem dX5_column_40 : decode cX5_column 40 = .ok (.dup, 1) := by decide +kernel
theorem dX5_column_41 : decode cX5_column 41 = .ok (.ldc 219, 2) := by decide +kernel
theorem dX5_column_43 : decode cX5_column 43 = .ok (.invokespecial 41, 3) := by decide +kernel
theorem dX5_column_46 : decode cX5_column 46 = .ok (.athrow, 1) := by decide +kernel
theorem dX5_column_47 : decode cX5_column 47 = .ok (.aload_n 0, 1) := by decide +kernel
theorem dX5_column_48 : decode cX5_column 48 = .ok (.getfield 10, 3) := by decide +kernel
theorem dX5_column_51 : decode cX5_column 51 = .ok (.getfield 44, 3) := by decide +kernel
theorem dX5_column_54 : decode cX5_column 54 = .ok (.iload_n 1, 1) := by decide +kernel
theorem dX5_column_55 : decode cX5_column 55 = .ok (.iload_n 2, 1) := by decide +kernel
theorem dX5_column_56 : decode cX5_column 56 = .ok (.iload_n 3, 1) := by decide +kernel
theorem dX5_column_57 : decode cX5_column 57 = .ok (.invokevirtual 221, 3) := by decide +kernel
theorem dX5_column_60 : decode cX5_column 60 = .ok (.ireturn, 1) := by decide +kernel
theorem dX5_shape_0 : decode cX5_shape 0 = .ok (.aload_n 0, 1) := by decide +kernel
theorem dX5_shape_1 : decode cX5_shape 1 = .ok (.getfield 10, 3) := by decide +kernel
theorem dX5_shape_4 : decode cX5_shape 4 = .ok (.getfield 44, 3) := by decide +kernel
theorem dX5_shape_7 : decode cX5_shape 7 = .ok (.iload_n 1, 1) := by decide +kernel
theorem dX5_shape_8 : decode cX5_shape 8 = .ok (.invokevirtual 216, 3) := by decide +kernel
theorem dX5_shape_11 : decode cX5_shape 11 = .ok (.ifCond .ne 13, 3) := by decide +kernel
theorem dX5_shape_14 : decode cX5_shape 14 = .ok (.new 119, 3) := by decide +kernel
theorem dX5_shape_17 : decode cX5_shape 17 = .ok (.dup, 1) := by decide +kernel
theorem dX5_shape_18 : decode cX5_shape 18 = .ok (.ldc 217, 2) := by decide +kernel
theorem dX5_shape_20 : decode cX5_shape 20 = .ok (.invokespecial 123, 3) := by decide +kernel
theorem dX5_shape_23 : decode cX5_shape 23 = .ok (.athrow, 1) := by decide +kernel
theorem dX5_shape_24 : decode cX5_shape 24 = .ok (.iload_n 2, 1) := by decide +kernel
theorem dX5_shape_25 : decode cX5_shape 25 = .ok (.ifCond .lt 9, 3) := by decide +kernel
theorem dX5_shape_28 : decode cX5_shape 28 = .ok (.iload_n 2, 1) := by decide +kernel
theorem dX5_shape_29 : decode cX5_shape 29 = .ok (.bipush 6, 2) := by decide +kernel
theorem dX5_shape_31 : decode cX5_shape 31 = .ok (.if_icmp .lt 13, 3) := by decide +kernel
theorem dX5_shape_34 : decode cX5_shape 34 = .ok (.new 37, 3) := by decide +kernel
theorem dX5_shape_37 : decode cX5_shape 37 = .ok (.dup, 1) := by decide +kernel
theorem dX5_shape_38 : decode cX5_shape 38 = .ok (.ldc 224, 2) := by decide +kernel
theorem dX5_shape_40 : decode cX5_shape 40 = .ok (.invokespecial 41, 3) := by decide +kernel
theorem dX5_shape_43 : decode cX5_shape 43 = .ok (.athrow, 1) := by decide +kernel
theorem dX5_shape_44 : decode cX5_shape 44 = .ok (.aload_n 0, 1) := by decide +kernel
theorem dX5_shape_45 : decode cX5_shape 45 = .ok (.getfield 10, 3) := by decide +kernel
theorem dX5_shape_48 : decode cX5_shape 48 = .ok (.iload_n 1, 1) := by decide +kernel
theorem dX5_shape_49 : decode cX5_shape 49 = .ok (.iload_n 2, 1) := by decide +kernel
theorem dX5_shape_50 : decode cX5_shape 50 = .ok (.invokevirtual 226, 3) := by decide +kernel
theorem dX5_shape_53 : decode cX5_shape 53 = .ok (.ireturn, 1) := by decide +kernel
theorem dX5_row_0 : decode cX5_row 0 = .ok (.aload_n 0, 1) := by decide +kernel
theorem dX5_row_1 : decode cX5_row 1 = .ok (.getfield 10, 3) := by decide +kernel
theorem dX5_row_4 : decode cX5_row 4 = .ok (.getfield 96, 3) := by decide +kernel
theorem dX5_row_7 : decode cX5_row 7 = .ok (.iload_n 1, 1) := by decide +kernel
theorem dX5_row_8 : decode cX5_row 8 = .ok (.invokevirtual 124, 3) := by decide +kernel
theorem dX5_row_11 : decode cX5_row 11 = .ok (.ifCond .ne 13, 3) := by decide +kernel
theorem dX5_row_14 : decode cX5_row 14 = .ok (.new 119, 3) := by decide +kernel
theorem dX5_row_17 : decode cX5_row 17 = .ok (.dup, 1) := by decide +kernel
theorem dX5_row_18 : decode cX5_row 18 = .ok (.ldc 143, 2) := by decide +kernel
theorem dX5_row_20 : decode cX5_row 20 = .ok (.invokespecial 123, 3) := by decide +kernel
theorem dX5_row_23 : decode cX5_row 23 = .ok (.athrow, 1) := by decide +kernel
theorem dX5_row_24 : decode cX5_row 24 = .ok (.iload_n 2, 1) := by decide +kernel
theorem dX5_row_25 : decode cX5_row 25 = .ok (.ifCond .lt 9, 3) := by decide +kernel
theorem dX5_row_28 : decode cX5_row 28 = .ok (.iload_n 2, 1) := by decide +kernel
theorem dX5_row_29 : decode cX5_row 29 = .ok (.bipush 6, 2) := by decide +kernel
theorem dX5_row_31 : decode cX5_row 31 = .ok (.if_icmp .lt 13, 3) := by decide +kernel
theorem dX5_row_34 : decode cX5_row 34 = .ok (.new 37, 3) := by decide +kernel
theorem dX5_row_37 : decode cX5_row 37 = .ok (.dup, 1) := by decide +kernel
theorem dX5_row_38 : decode cX5_row 38 = .ok (.ldc 224, 2) := by decide +kernel
theorem dX5_row_40 : decode cX5_row 40 = .ok (.invokespecial 41, 3) := by decide +kernel
theorem dX5_row_43 : decode cX5_row 43 = .ok (.athrow, 1) := by decide +kernel
theorem dX5_row_44 : decode cX5_row 44 = .ok (.aload_n 0, 1) := by decide +kernel
theorem dX5_row_45 : decode cX5_row 45 = .ok (.getfield 10, 3) := by decide +kernel
theorem dX5_row_48 : decode cX5_row 48 = .ok (.iload_n 1, 1) := by decide +kernel
theorem dX5_row_49 : decode cX5_row 49 = .ok (.iload_n 2, 1) := by decide +kernel
theorem dX5_row_50 : decode cX5_row 50 = .ok (.invokevirtual 229, 3) := by decide +kernel
theorem dX5_row_53 : decode cX5_row 53 = .ok (.ireturn, 1) := by decide +kernel
theorem dX5_count_0 : decode cX5_count 0 = .ok (.iload_n 1, 1) := by decide +kernel
theorem dX5_count_1 : decode cX5_count 1 = .ok (.ifCond .lt 9, 3) := by decide +kernel
theorem dX5_count_4 : decode cX5_count 4 = .ok (.iload_n 1, 1) := by decide +kernel
theorem dX5_count_5 : decode cX5_count 5 = .ok (.bipush 10, 2) := by decide +kernel
theorem dX5_count_7 : decode cX5_count 7 = .ok (.if_icmp .lt 13, 3) := by decide +kernel
theorem dX5_count_10 : decode cX5_count 10 = .ok (.new 37, 3) := by decide +kernel
theorem dX5_count_13 : decode cX5_count 13 = .ok (.dup, 1) := by decide +kernel
theorem dX5_count_14 : decode cX5_count 14 = .ok (.ldc 224, 2) := by decide +kernel
theorem dX5_count_16 : decode cX5_count 16 = .ok (.invokespecial 41, 3) := by decide +kernel
theorem dX5_count_19 : decode cX5_count 19 = .ok (.athrow, 1) := by decide +kernel
theorem dX5_count_20 : decode cX5_count 20 = .ok (.aload_n 0, 1) := by decide +kernel
theorem dX5_count_21 : decode cX5_count 21 = .ok (.iload_n 1, 1) := by decide +kernel
theorem dX5_count_22 : decode cX5_count 22 = .ok (.invokevirtual 232, 3) := by decide +kernel
theorem dX5_count_25 : decode cX5_count 25 = .ok (.ireturn, 1) := by decide +kernel
theorem dX5_lost_0 : decode cX5_lost 0 = .ok (.aload_n 0, 1) := by decide +kernel
theorem dX5_lost_1 : decode cX5_lost 1 = .ok (.getfield 10, 3) := by decide +kernel
theorem dX5_lost_4 : decode cX5_lost 4 = .ok (.getfield 96, 3) := by decide +kernel
theorem dX5_lost_7 : decode cX5_lost 7 = .ok (.iload_n 1, 1) := by decide +kernel
theorem dX5_lost_8 : decode cX5_lost 8 = .ok (.invokevirtual 124, 3) := by decide +kernel
theorem dX5_lost_11 : decode cX5_lost 11 = .ok (.ifCond .eq 17, 3) := by decide +kernel
theorem dX5_lost_14 : decode cX5_lost 14 = .ok (.aload_n 0, 1) := by decide +kernel
theorem dX5_lost_15 : decode cX5_lost 15 = .ok (.getfield 10, 3) := by decide +kernel
theorem dX5_lost_18 : decode cX5_lost 18 = .ok (.getfield 44, 3) := by decide +kernel
theorem dX5_lost_21 : decode cX5_lost 21 = .ok (.iload_n 2, 1) := by decide +kernel
theorem dX5_lost_22 : decode cX5_lost 22 = .ok (.invokevirtual 116, 3) := by decide +kernel
theorem dX5_lost_25 : decode cX5_lost 25 = .ok (.ifCond .ne 13, 3) := by decide +kernel
theorem dX5_lost_28 : decode cX5_lost 28 = .ok (.new 119, 3) := by decide +kernel
theorem dX5_lost_31 : decode cX5_lost 31 = .ok (.dup, 1) := by decide +kernel
theorem dX5_lost_32 : decode cX5_lost 32 = .ok (.ldc 127, 2) := by decide +kernel
theorem dX5_lost_34 : decode cX5_lost 34 = .ok (.invokespecial 123, 3) := by decide +kernel
theorem dX5_lost_37 : decode cX5_lost 37 = .ok (.athrow, 1) := by decide +kernel
theorem dX5_lost_38 : decode cX5_lost 38 = .ok (.aload_n 0, 1) := by decide +kernel
theorem dX5_lost_39 : decode cX5_lost 39 = .ok (.getfield 10, 3) := by decide +kernel
theorem dX5_lost_42 : decode cX5_lost 42 = .ok (.iload_n 1, 1) := by decide +kernel
theorem dX5_lost_43 : decode cX5_lost 43 = .ok (.iload_n 2, 1) := by decide +kernel
theorem dX5_lost_44 : decode cX5_lost 44 = .ok (.invokevirtual 235, 3) := by decide +kernel
theorem dX5_lost_47 : decode cX5_lost 47 = .ok (.ireturn, 1) := by decide +kernel
theorem dX5_against_0 : decode cX5_against 0 = .ok (.aload_n 0, 1) := by decide +kernel
theorem dX5_against_1 : decode cX5_against 1 = .ok (.getfield 10, 3) := by decide +kernel
theorem dX5_against_4 : decode cX5_against 4 = .ok (.getfield 96, 3) := by decide +kernel
theorem dX5_against_7 : decode cX5_against 7 = .ok (.iload_n 1, 1) := by decide +kernel
theorem dX5_against_8 : decode cX5_against 8 = .ok (.invokevirtual 124, 3) := by decide +kernel
theorem dX5_against_11 : decode cX5_against 11 = .ok (.ifCond .eq 17, 3) := by decide +kernel
theorem dX5_against_14 : decode cX5_against 14 = .ok (.aload_n 0, 1) := by decide +kernel
theorem dX5_against_15 : decode cX5_against 15 = .ok (.getfield 10, 3) := by decide +kernel
theorem dX5_against_18 : decode cX5_against 18 = .ok (.getfield 44, 3) := by decide +kernel
theorem dX5_against_21 : decode cX5_against 21 = .ok (.iload_n 2, 1) := by decide +kernel
theorem dX5_against_22 : decode cX5_against 22 = .ok (.invokevirtual 116, 3) := by decide +kernel
theorem dX5_against_25 : decode cX5_against 25 = .ok (.ifCond .ne 13, 3) := by decide +kernel
theorem dX5_against_28 : decode cX5_against 28 = .ok (.new 119, 3) := by decide +kernel
theorem dX5_against_31 : decode cX5_against 31 = .ok (.dup, 1) := by decide +kernel
theorem dX5_against_32 : decode cX5_against 32 = .ok (.ldc 127, 2) := by decide +kernel
theorem dX5_against_34 : decode cX5_against 34 = .ok (.invokespecial 123, 3) := by decide +kernel
theorem dX5_against_37 : decode cX5_against 37 = .ok (.athrow, 1) := by decide +kernel
theorem dX5_against_38 : decode cX5_against 38 = .ok (.iload_n 3, 1) := by decide +kernel
theorem dX5_against_39 : decode cX5_against 39 = .ok (.invokestatic 30, 3) := by decide +kernel
theorem dX5_against_42 : decode cX5_against 42 = .ok (.ifCond .ne 13, 3) := by decide +kernel
theorem dX5_against_45 : decode cX5_against 45 = .ok (.new 37, 3) := by decide +kernel
theorem dX5_against_48 : decode cX5_against 48 = .ok (.dup, 1) := by decide +kernel
theorem dX5_against_49 : decode cX5_against 49 = .ok (.ldc 206, 2) := by decide +kernel
theorem dX5_against_51 : decode cX5_against 51 = .ok (.invokespecial 41, 3) := by decide +kernel
theorem dX5_against_54 : decode cX5_against 54 = .ok (.athrow, 1) := by decide +kernel
theorem dX5_against_55 : decode cX5_against 55 = .ok (.aload_n 0, 1) := by decide +kernel
theorem dX5_against_56 : decode cX5_against 56 = .ok (.getfield 10, 3) := by decide +kernel
theorem dX5_against_59 : decode cX5_against 59 = .ok (.iload_n 1, 1) := by decide +kernel
theorem dX5_against_60 : decode cX5_against 60 = .ok (.iload_n 2, 1) := by decide +kernel
theorem dX5_against_61 : decode cX5_against 61 = .ok (.iload_n 3, 1) := by decide +kernel
theorem dX5_against_62 : decode cX5_against 62 = .ok (.invokevirtual 134, 3) := by decide +kernel
theorem dX5_against_65 : decode cX5_against 65 = .ok (.ireturn, 1) := by decide +kernel
theorem dX5_toGo_0 : decode cX5_toGo 0 = .ok (.aload_n 0, 1) := by decide +kernel
theorem dX5_toGo_1 : decode cX5_toGo 1 = .ok (.getfield 10, 3) := by decide +kernel
theorem dX5_toGo_4 : decode cX5_toGo 4 = .ok (.invokevirtual 238, 3) := by decide +kernel
theorem dX5_toGo_7 : decode cX5_toGo 7 = .ok (.ireturn, 1) := by decide +kernel
theorem dX5_find_0 : decode cX5_find 0 = .ok (.aload_n 0, 1) := by decide +kernel
theorem dX5_find_1 : decode cX5_find 1 = .ok (.getfield 10, 3) := by decide +kernel
theorem dX5_find_4 : decode cX5_find 4 = .ok (.getfield 44, 3) := by decide +kernel
theorem dX5_find_7 : decode cX5_find 7 = .ok (.iload_n 1, 1) := by decide +kernel
theorem dX5_find_8 : decode cX5_find 8 = .ok (.invokevirtual 116, 3) := by decide +kernel
theorem dX5_find_11 : decode cX5_find 11 = .ok (.ifCond .ne 13, 3) := by decide +kernel
theorem dX5_find_14 : decode cX5_find 14 = .ok (.new 119, 3) := by decide +kernel
theorem dX5_find_17 : decode cX5_find 17 = .ok (.dup, 1) := by decide +kernel
theorem dX5_find_18 : decode cX5_find 18 = .ok (.ldc 121, 2) := by decide +kernel
theorem dX5_find_20 : decode cX5_find 20 = .ok (.invokespecial 123, 3) := by decide +kernel
theorem dX5_find_23 : decode cX5_find 23 = .ok (.athrow, 1) := by decide +kernel
theorem dX5_find_24 : decode cX5_find 24 = .ok (.iload_n 2, 1) := by decide +kernel
theorem dX5_find_25 : decode cX5_find 25 = .ok (.invokestatic 30, 3) := by decide +kernel
theorem dX5_find_28 : decode cX5_find 28 = .ok (.ifCond .eq 10, 3) := by decide +kernel
theorem dX5_find_31 : decode cX5_find 31 = .ok (.iload_n 3, 1) := by decide +kernel
theorem dX5_find_32 : decode cX5_find 32 = .ok (.invokestatic 129, 3) := by decide +kernel
theorem dX5_find_35 : decode cX5_find 35 = .ok (.ifCond .ne 13, 3) := by decide +kernel
theorem dX5_find_38 : decode cX5_find 38 = .ok (.new 37, 3) := by decide +kernel
theorem dX5_find_41 : decode cX5_find 41 = .ok (.dup, 1) := by decide +kernel
theorem dX5_find_42 : decode cX5_find 42 = .ok (.ldc 132, 2) := by decide +kernel
theorem dX5_find_44 : decode cX5_find 44 = .ok (.invokespecial 41, 3) := by decide +kernel
theorem dX5_find_47 : decode cX5_find 47 = .ok (.athrow, 1) := by decide +kernel
theorem dX5_find_48 : decode cX5_find 48 = .ok (.aload_n 0, 1) := by decide +kernel
theorem dX5_find_49 : decode cX5_find 49 = .ok (.getfield 10, 3) := by decide +kernel
theorem dX5_find_52 : decode cX5_find 52 = .ok (.iload_n 1, 1) := by decide +kernel
theorem dX5_find_53 : decode cX5_find 53 = .ok (.iload_n 2, 1) := by decide +kernel
theorem dX5_find_54 : decode cX5_find 54 = .ok (.iload_n 3, 1) := by decide +kernel
theorem dX5_find_55 : decode cX5_find 55 = .ok (.invokevirtual 241, 3) := by decide +kernel
theorem dX5_find_58 : decode cX5_find 58 = .ok (.ireturn, 1) := by decide +kernel
theorem dX5_freshShare_0 : decode cX5_freshShare 0 = .ok (.aload_n 0, 1) := by decide +kernel
theorem dX5_freshShare_1 : decode cX5_freshShare 1 = .ok (.getfield 10, 3) := by decide +kernel
theorem dX5_freshShare_4 : decode cX5_freshShare 4 = .ok (.getfield 96, 3) := by decide +kernel
theorem dX5_freshShare_7 : decode cX5_freshShare 7 = .ok (.invokevirtual 244, 3) := by decide +kernel
theorem dX5_freshShare_10 : decode cX5_freshShare 10 = .ok (.istore_n 1, 1) := by decide +kernel
theorem dX5_freshShare_11 : decode cX5_freshShare 11 = .ok (.iload_n 1, 1) := by decide +kernel
theorem dX5_freshShare_12 : decode cX5_freshShare 12 = .ok (.ifCond .ne 5, 3) := by decide +kernel
theorem dX5_freshShare_15 : decode cX5_freshShare 15 = .ok (.dconst 1, 1) := by decide +kernel
theorem dX5_freshShare_16 : decode cX5_freshShare 16 = .ok (.dreturn, 1) := by decide +kernel
theorem dX5_freshShare_17 : decode cX5_freshShare 17 = .ok (.iload_n 1, 1) := by decide +kernel
theorem dX5_freshShare_18 : decode cX5_freshShare 18 = .ok (.aload_n 0, 1) := by decide +kernel
theorem dX5_freshShare_19 : decode cX5_freshShare 19 = .ok (.getfield 10, 3) := by decide +kernel
theorem dX5_freshShare_22 : decode cX5_freshShare 22 = .ok (.invokevirtual 245, 3) := by decide +kernel
theorem dX5_freshShare_25 : decode cX5_freshShare 25 = .ok (.isub, 1) := by decide +kernel
theorem dX5_freshShare_26 : decode cX5_freshShare 26 = .ok (.i2d, 1) := by decide +kernel
theorem dX5_freshShare_27 : decode cX5_freshShare 27 = .ok (.iload_n 1, 1) := by decide +kernel
theorem dX5_freshShare_28 : decode cX5_freshShare 28 = .ok (.i2d, 1) := by decide +kernel
theorem dX5_freshShare_29 : decode cX5_freshShare 29 = .ok (.ddiv, 1) := by decide +kernel
theorem dX5_freshShare_30 : decode cX5_freshShare 30 = .ok (.dreturn, 1) := by decide +kernel
theorem dX5_digest_0 : decode cX5_digest 0 = .ok (.ldc2_w 248, 3) := by decide +kernel
theorem dX5_digest_3 : decode cX5_digest 3 = .ok (.lstore_n 1, 1) := by decide +kernel
theorem dX5_digest_4 : decode cX5_digest 4 = .ok (.iconst 0, 1) := by decide +kernel
theorem dX5_digest_5 : decode cX5_digest 5 = .ok (.istore_n 3, 1) := by decide +kernel
theorem dX5_digest_6 : decode cX5_digest 6 = .ok (.iload_n 3, 1) := by decide +kernel
theorem dX5_digest_7 : decode cX5_digest 7 = .ok (.bipush 10, 2) := by decide +kernel
theorem dX5_digest_9 : decode cX5_digest 9 = .ok (.if_icmp .ge 20, 3) := by decide +kernel
theorem dX5_digest_12 : decode cX5_digest 12 = .ok (.lload_n 1, 1) := by decide +kernel
theorem dX5_digest_13 : decode cX5_digest 13 = .ok (.aload_n 0, 1) := by decide +kernel
theorem dX5_digest_14 : decode cX5_digest 14 = .ok (.iload_n 3, 1) := by decide +kernel
theorem dX5_digest_15 : decode cX5_digest 15 = .ok (.invokevirtual 232, 3) := by decide +kernel
theorem dX5_digest_18 : decode cX5_digest 18 = .ok (.i2l, 1) := by decide +kernel
theorem dX5_digest_19 : decode cX5_digest 19 = .ok (.invokestatic 250, 3) := by decide +kernel
theorem dX5_digest_22 : decode cX5_digest 22 = .ok (.lstore_n 1, 1) := by decide +kernel
theorem dX5_digest_23 : decode cX5_digest 23 = .ok (.iinc 3 1, 3) := by decide +kernel
theorem dX5_digest_26 : decode cX5_digest 26 = .ok (.goto (-20), 3) := by decide +kernel
theorem dX5_digest_29 : decode cX5_digest 29 = .ok (.aload_n 0, 1) := by decide +kernel
theorem dX5_digest_30 : decode cX5_digest 30 = .ok (.lload_n 1, 1) := by decide +kernel
theorem dX5_digest_31 : decode cX5_digest 31 = .ok (.invokevirtual 254, 3) := by decide +kernel
theorem dX5_digest_34 : decode cX5_digest 34 = .ok (.lstore_n 1, 1) := by decide +kernel
theorem dX5_digest_35 : decode cX5_digest 35 = .ok (.iconst 0, 1) := by decide +kernel
theorem dX5_digest_36 : decode cX5_digest 36 = .ok (.istore_n 3, 1) := by decide +kernel
theorem dX5_digest_37 : decode cX5_digest 37 = .ok (.iload_n 3, 1) := by decide +kernel
theorem dX5_digest_38 : decode cX5_digest 38 = .ok (.aload_n 0, 1) := by decide +kernel
theorem dX5_digest_39 : decode cX5_digest 39 = .ok (.getfield 10, 3) := by decide +kernel
theorem dX5_digest_42 : decode cX5_digest 42 = .ok (.getfield 96, 3) := by decide +kernel
theorem dX5_digest_45 : decode cX5_digest 45 = .ok (.invokevirtual 244, 3) := by decide +kernel
theorem dX5_digest_48 : decode cX5_digest 48 = .ok (.if_icmp .ge 16, 3) := by decide +kernel
theorem dX5_digest_51 : decode cX5_digest 51 = .ok (.aload_n 0, 1) := by decide +kernel
theorem dX5_digest_52 : decode cX5_digest 52 = .ok (.lload_n 1, 1) := by decide +kernel
theorem dX5_digest_53 : decode cX5_digest 53 = .ok (.iload_n 3, 1) := by decide +kernel
theorem dX5_digest_54 : decode cX5_digest 54 = .ok (.invokevirtual 258, 3) := by decide +kernel
theorem dX5_digest_57 : decode cX5_digest 57 = .ok (.lstore_n 1, 1) := by decide +kernel
theorem dX5_digest_58 : decode cX5_digest 58 = .ok (.iinc 3 1, 3) := by decide +kernel
theorem dX5_digest_61 : decode cX5_digest 61 = .ok (.goto (-24), 3) := by decide +kernel
theorem dX5_digest_64 : decode cX5_digest 64 = .ok (.iconst 0, 1) := by decide +kernel
theorem dX5_digest_65 : decode cX5_digest 65 = .ok (.istore_n 3, 1) := by decide +kernel
theorem dX5_digest_66 : decode cX5_digest 66 = .ok (.iload_n 3, 1) := by decide +kernel
theorem dX5_digest_67 : decode cX5_digest 67 = .ok (.iconst 4, 1) := by decide +kernel
theorem dX5_digest_68 : decode cX5_digest 68 = .ok (.if_icmp .ge 23, 3) := by decide +kernel
theorem dX5_digest_71 : decode cX5_digest 71 = .ok (.lload_n 1, 1) := by decide +kernel
theorem dX5_digest_72 : decode cX5_digest 72 = .ok (.aload_n 0, 1) := by decide +kernel
theorem dX5_digest_73 : decode cX5_digest 73 = .ok (.getfield 10, 3) := by decide +kernel
theorem dX5_digest_76 : decode cX5_digest 76 = .ok (.iload_n 3, 1) := by decide +kernel
theorem dX5_digest_77 : decode cX5_digest 77 = .ok (.invokevirtual 213, 3) := by decide +kernel
theorem dX5_digest_80 : decode cX5_digest 80 = .ok (.i2l, 1) := by decide +kernel
theorem dX5_digest_81 : decode cX5_digest 81 = .ok (.invokestatic 250, 3) := by decide +kernel
theorem dX5_digest_84 : decode cX5_digest 84 = .ok (.lstore_n 1, 1) := by decide +kernel
theorem dX5_digest_85 : decode cX5_digest 85 = .ok (.iinc 3 1, 3) := by decide +kernel
theorem dX5_digest_88 : decode cX5_digest 88 = .ok (.goto (-22), 3) := by decide +kernel
theorem dX5_digest_91 : decode cX5_digest 91 = .ok (.lload_n 1, 1) := by decide +kernel
theorem dX5_digest_92 : decode cX5_digest 92 = .ok (.aload_n 0, 1) := by decide +kernel
theorem dX5_digest_93 : decode cX5_digest 93 = .ok (.getfield 10, 3) := by decide +kernel
theorem dX5_digest_96 : decode cX5_digest 96 = .ok (.invokevirtual 238, 3) := by decide +kernel
theorem dX5_digest_99 : decode cX5_digest 99 = .ok (.i2l, 1) := by decide +kernel
theorem dX5_digest_100 : decode cX5_digest 100 = .ok (.invokestatic 250, 3) := by decide +kernel
theorem dX5_digest_103 : decode cX5_digest 103 = .ok (.lstore_n 1, 1) := by decide +kernel
theorem dX5_digest_104 : decode cX5_digest 104 = .ok (.lload_n 1, 1) := by decide +kernel
theorem dX5_digest_105 : decode cX5_digest 105 = .ok (.aload_n 0, 1) := by decide +kernel
theorem dX5_digest_106 : decode cX5_digest 106 = .ok (.getfield 10, 3) := by decide +kernel
theorem dX5_digest_109 : decode cX5_digest 109 = .ok (.aload_n 0, 1) := by decide +kernel
theorem dX5_digest_110 : decode cX5_digest 110 = .ok (.getfield 10, 3) := by decide +kernel
theorem dX5_digest_113 : decode cX5_digest 113 = .ok (.getfield 44, 3) := by decide +kernel
theorem dX5_digest_116 : decode cX5_digest 116 = .ok (.invokevirtual 108, 3) := by decide +kernel
theorem dX5_digest_119 : decode cX5_digest 119 = .ok (.iconst 0, 1) := by decide +kernel
theorem dX5_digest_120 : decode cX5_digest 120 = .ok (.iconst 5, 1) := by decide +kernel
theorem dX5_digest_121 : decode cX5_digest 121 = .ok (.invokevirtual 241, 3) := by decide +kernel
theorem dX5_digest_124 : decode cX5_digest 124 = .ok (.i2l, 1) := by decide +kernel
theorem dX5_digest_125 : decode cX5_digest 125 = .ok (.invokestatic 250, 3) := by decide +kernel
theorem dX5_digest_128 : decode cX5_digest 128 = .ok (.lstore_n 1, 1) := by decide +kernel
theorem dX5_digest_129 : decode cX5_digest 129 = .ok (.lload_n 1, 1) := by decide +kernel
theorem dX5_digest_130 : decode cX5_digest 130 = .ok (.aload_n 0, 1) := by decide +kernel
theorem dX5_digest_131 : decode cX5_digest 131 = .ok (.invokevirtual 262, 3) := by decide +kernel
theorem dX5_digest_134 : decode cX5_digest 134 = .ok (.invokestatic 266, 3) := by decide +kernel
theorem dX5_digest_137 : decode cX5_digest 137 = .ok (.invokestatic 250, 3) := by decide +kernel
theorem dX5_digest_140 : decode cX5_digest 140 = .ok (.lstore_n 1, 1) := by decide +kernel
theorem dX5_digest_141 : decode cX5_digest 141 = .ok (.aload_n 0, 1) := by decide +kernel
theorem dX5_digest_142 : decode cX5_digest 142 = .ok (.lload_n 1, 1) := by decide +kernel
theorem dX5_digest_143 : decode cX5_digest 143 = .ok (.invokevirtual 270, 3) := by decide +kernel
theorem dX5_digest_146 : decode cX5_digest 146 = .ok (.lreturn, 1) := by decide +kernel
theorem dX5_counted_0 : decode cX5_counted 0 = .ok (.iload_n 1, 1) := by decide +kernel
theorem dX5_counted_1 : decode cX5_counted 1 = .ok (.tableswitch 154 0 8 #[51, 62, 73, 84, 92, 103, 114, 125, 146], 51) := by decide +kernel
theorem dX5_counted_52 : decode cX5_counted 52 = .ok (.aload_n 0, 1) := by decide +kernel
theorem dX5_counted_53 : decode cX5_counted 53 = .ok (.getfield 10, 3) := by decide +kernel
theorem dX5_counted_56 : decode cX5_counted 56 = .ok (.getfield 44, 3) := by decide +kernel
theorem dX5_counted_59 : decode cX5_counted 59 = .ok (.invokevirtual 273, 3) := by decide +kernel
theorem dX5_counted_62 : decode cX5_counted 62 = .ok (.ireturn, 1) := by decide +kernel
theorem dX5_counted_63 : decode cX5_counted 63 = .ok (.aload_n 0, 1) := by decide +kernel
theorem dX5_counted_64 : decode cX5_counted 64 = .ok (.getfield 10, 3) := by decide +kernel
theorem dX5_counted_67 : decode cX5_counted 67 = .ok (.getfield 44, 3) := by decide +kernel
theorem dX5_counted_70 : decode cX5_counted 70 = .ok (.invokevirtual 274, 3) := by decide +kernel
theorem dX5_counted_73 : decode cX5_counted 73 = .ok (.ireturn, 1) := by decide +kernel
theorem dX5_counted_74 : decode cX5_counted 74 = .ok (.aload_n 0, 1) := by decide +kernel
theorem dX5_counted_75 : decode cX5_counted 75 = .ok (.getfield 10, 3) := by decide +kernel
theorem dX5_counted_78 : decode cX5_counted 78 = .ok (.getfield 96, 3) := by decide +kernel
theorem dX5_counted_81 : decode cX5_counted 81 = .ok (.invokevirtual 244, 3) := by decide +kernel
theorem dX5_counted_84 : decode cX5_counted 84 = .ok (.ireturn, 1) := by decide +kernel
theorem dX5_counted_85 : decode cX5_counted 85 = .ok (.aload_n 0, 1) := by decide +kernel
theorem dX5_counted_86 : decode cX5_counted 86 = .ok (.getfield 10, 3) := by decide +kernel
theorem dX5_counted_89 : decode cX5_counted 89 = .ok (.invokevirtual 245, 3) := by decide +kernel
theorem dX5_counted_92 : decode cX5_counted 92 = .ok (.ireturn, 1) := by decide +kernel
theorem dX5_counted_93 : decode cX5_counted 93 = .ok (.aload_n 0, 1) := by decide +kernel
theorem dX5_counted_94 : decode cX5_counted 94 = .ok (.getfield 10, 3) := by decide +kernel
theorem dX5_counted_97 : decode cX5_counted 97 = .ok (.getfield 96, 3) := by decide +kernel
theorem dX5_counted_100 : decode cX5_counted 100 = .ok (.invokevirtual 277, 3) := by decide +kernel
theorem dX5_counted_103 : decode cX5_counted 103 = .ok (.ireturn, 1) := by decide +kernel
theorem dX5_counted_104 : decode cX5_counted 104 = .ok (.aload_n 0, 1) := by decide +kernel
theorem dX5_counted_105 : decode cX5_counted 105 = .ok (.getfield 10, 3) := by decide +kernel
theorem dX5_counted_108 : decode cX5_counted 108 = .ok (.getfield 96, 3) := by decide +kernel
theorem dX5_counted_111 : decode cX5_counted 111 = .ok (.invokevirtual 280, 3) := by decide +kernel
theorem dX5_counted_114 : decode cX5_counted 114 = .ok (.ireturn, 1) := by decide +kernel
theorem dX5_counted_115 : decode cX5_counted 115 = .ok (.aload_n 0, 1) := by decide +kernel
theorem dX5_counted_116 : decode cX5_counted 116 = .ok (.getfield 10, 3) := by decide +kernel
theorem dX5_counted_119 : decode cX5_counted 119 = .ok (.getfield 96, 3) := by decide +kernel
theorem dX5_counted_122 : decode cX5_counted 122 = .ok (.invokevirtual 283, 3) := by decide +kernel
theorem dX5_counted_125 : decode cX5_counted 125 = .ok (.ireturn, 1) := by decide +kernel
theorem dX5_counted_126 : decode cX5_counted 126 = .ok (.aload_n 0, 1) := by decide +kernel
theorem dX5_counted_127 : decode cX5_counted 127 = .ok (.getfield 10, 3) := by decide +kernel
theorem dX5_counted_130 : decode cX5_counted 130 = .ok (.getfield 44, 3) := by decide +kernel
theorem dX5_counted_133 : decode cX5_counted 133 = .ok (.aload_n 0, 1) := by decide +kernel
theorem dX5_counted_134 : decode cX5_counted 134 = .ok (.getfield 10, 3) := by decide +kernel
theorem dX5_counted_137 : decode cX5_counted 137 = .ok (.getfield 44, 3) := by decide +kernel
theorem dX5_counted_140 : decode cX5_counted 140 = .ok (.invokevirtual 108, 3) := by decide +kernel
theorem dX5_counted_143 : decode cX5_counted 143 = .ok (.invokevirtual 286, 3) := by decide +kernel
theorem dX5_counted_146 : decode cX5_counted 146 = .ok (.ireturn, 1) := by decide +kernel
theorem dX5_counted_147 : decode cX5_counted 147 = .ok (.aload_n 0, 1) := by decide +kernel
theorem dX5_counted_148 : decode cX5_counted 148 = .ok (.getfield 10, 3) := by decide +kernel
theorem dX5_counted_151 : decode cX5_counted 151 = .ok (.invokevirtual 161, 3) := by decide +kernel
theorem dX5_counted_154 : decode cX5_counted 154 = .ok (.ireturn, 1) := by decide +kernel
theorem dX5_counted_155 : decode cX5_counted 155 = .ok (.aload_n 0, 1) := by decide +kernel
theorem dX5_counted_156 : decode cX5_counted 156 = .ok (.getfield 19, 3) := by decide +kernel
theorem dX5_counted_159 : decode cX5_counted 159 = .ok (.invokevirtual 197, 3) := by decide +kernel
theorem dX5_counted_162 : decode cX5_counted 162 = .ok (.ireturn, 1) := by decide +kernel
theorem dX5_carriesOut_0 : decode cX5_carriesOut 0 = .ok (.aload_n 0, 1) := by decide +kernel
theorem dX5_carriesOut_1 : decode cX5_carriesOut 1 = .ok (.getfield 26, 3) := by decide +kernel
theorem dX5_carriesOut_4 : decode cX5_carriesOut 4 = .ok (.iload_n 1, 1) := by decide +kernel
theorem dX5_carriesOut_5 : decode cX5_carriesOut 5 = .ok (.invokevirtual 289, 3) := by decide +kernel
theorem dX5_carriesOut_8 : decode cX5_carriesOut 8 = .ok (.lookupswitch 93 #[(43, 44), (45, 75), (62, 82), (110, 88)], 44) := by decide +kernel
theorem dX5_carriesOut_52 : decode cX5_carriesOut 52 = .ok (.aload_n 0, 1) := by decide +kernel
theorem dX5_carriesOut_53 : decode cX5_carriesOut 53 = .ok (.getfield 26, 3) := by decide +kernel
theorem dX5_carriesOut_56 : decode cX5_carriesOut 56 = .ok (.iload_n 1, 1) := by decide +kernel
theorem dX5_carriesOut_57 : decode cX5_carriesOut 57 = .ok (.iconst 2, 1) := by decide +kernel
theorem dX5_carriesOut_58 : decode cX5_carriesOut 58 = .ok (.iadd, 1) := by decide +kernel
theorem dX5_carriesOut_59 : decode cX5_carriesOut 59 = .ok (.invokevirtual 289, 3) := by decide +kernel
theorem dX5_carriesOut_62 : decode cX5_carriesOut 62 = .ok (.bipush 61, 2) := by decide +kernel
theorem dX5_carriesOut_64 : decode cX5_carriesOut 64 = .ok (.if_icmp .ne 12, 3) := by decide +kernel
theorem dX5_carriesOut_67 : decode cX5_carriesOut 67 = .ok (.aload_n 0, 1) := by decide +kernel
theorem dX5_carriesOut_68 : decode cX5_carriesOut 68 = .ok (.iload_n 1, 1) := by decide +kernel
theorem dX5_carriesOut_69 : decode cX5_carriesOut 69 = .ok (.iload_n 2, 1) := by decide +kernel
theorem dX5_carriesOut_70 : decode cX5_carriesOut 70 = .ok (.invokevirtual 292, 3) := by decide +kernel
theorem dX5_carriesOut_73 : decode cX5_carriesOut 73 = .ok (.goto 9, 3) := by decide +kernel
theorem dX5_carriesOut_76 : decode cX5_carriesOut 76 = .ok (.aload_n 0, 1) := by decide +kernel
theorem dX5_carriesOut_77 : decode cX5_carriesOut 77 = .ok (.iload_n 1, 1) := by decide +kernel
theorem dX5_carriesOut_78 : decode cX5_carriesOut 78 = .ok (.iload_n 2, 1) := by decide +kernel
theorem dX5_carriesOut_79 : decode cX5_carriesOut 79 = .ok (.invokevirtual 295, 3) := by decide +kernel
theorem dX5_carriesOut_82 : decode cX5_carriesOut 82 = .ok (.ireturn, 1) := by decide +kernel
theorem dX5_carriesOut_83 : decode cX5_carriesOut 83 = .ok (.aload_n 0, 1) := by decide +kernel
theorem dX5_carriesOut_84 : decode cX5_carriesOut 84 = .ok (.iload_n 1, 1) := by decide +kernel
theorem dX5_carriesOut_85 : decode cX5_carriesOut 85 = .ok (.iload_n 2, 1) := by decide +kernel
theorem dX5_carriesOut_86 : decode cX5_carriesOut 86 = .ok (.invokevirtual 298, 3) := by decide +kernel
theorem dX5_carriesOut_89 : decode cX5_carriesOut 89 = .ok (.ireturn, 1) := by decide +kernel
theorem dX5_carriesOut_90 : decode cX5_carriesOut 90 = .ok (.aload_n 0, 1) := by decide +kernel
theorem dX5_carriesOut_91 : decode cX5_carriesOut 91 = .ok (.iload_n 1, 1) := by decide +kernel
theorem dX5_carriesOut_92 : decode cX5_carriesOut 92 = .ok (.invokevirtual 301, 3) := by decide +kernel
theorem dX5_carriesOut_95 : decode cX5_carriesOut 95 = .ok (.ireturn, 1) := by decide +kernel
theorem dX5_carriesOut_96 : decode cX5_carriesOut 96 = .ok (.aload_n 0, 1) := by decide +kernel
theorem dX5_carriesOut_97 : decode cX5_carriesOut 97 = .ok (.invokevirtual 304, 3) := by decide +kernel
theorem dX5_carriesOut_100 : decode cX5_carriesOut 100 = .ok (.ireturn, 1) := by decide +kernel
theorem dX5_carriesOut_101 : decode cX5_carriesOut 101 = .ok (.aload_n 0, 1) := by decide +kernel
theorem dX5_carriesOut_102 : decode cX5_carriesOut 102 = .ok (.getfield 10, 3) := by decide +kernel
theorem dX5_carriesOut_105 : decode cX5_carriesOut 105 = .ok (.aload_n 0, 1) := by decide +kernel
theorem dX5_carriesOut_106 : decode cX5_carriesOut 106 = .ok (.getfield 26, 3) := by decide +kernel
theorem dX5_carriesOut_109 : decode cX5_carriesOut 109 = .ok (.iload_n 1, 1) := by decide +kernel
theorem dX5_carriesOut_110 : decode cX5_carriesOut 110 = .ok (.iconst 1, 1) := by decide +kernel
theorem dX5_carriesOut_111 : decode cX5_carriesOut 111 = .ok (.iadd, 1) := by decide +kernel
theorem dX5_carriesOut_112 : decode cX5_carriesOut 112 = .ok (.iload_n 2, 1) := by decide +kernel
theorem dX5_carriesOut_113 : decode cX5_carriesOut 113 = .ok (.invokevirtual 307, 3) := by decide +kernel
theorem dX5_carriesOut_116 : decode cX5_carriesOut 116 = .ok (.invokevirtual 150, 3) := by decide +kernel
theorem dX5_carriesOut_119 : decode cX5_carriesOut 119 = .ok (.pop, 1) := by decide +kernel
theorem dX5_carriesOut_120 : decode cX5_carriesOut 120 = .ok (.iconst 1, 1) := by decide +kernel
theorem dX5_carriesOut_121 : decode cX5_carriesOut 121 = .ok (.ireturn, 1) := by decide +kernel
theorem dX5_addsNumber_0 : decode cX5_addsNumber 0 = .ok (.aload_n 0, 1) := by decide +kernel
theorem dX5_addsNumber_1 : decode cX5_addsNumber 1 = .ok (.getfield 26, 3) := by decide +kernel
theorem dX5_addsNumber_4 : decode cX5_addsNumber 4 = .ok (.iload_n 1, 1) := by decide +kernel
theorem dX5_addsNumber_5 : decode cX5_addsNumber 5 = .ok (.iconst 1, 1) := by decide +kernel
theorem dX5_addsNumber_6 : decode cX5_addsNumber 6 = .ok (.iadd, 1) := by decide +kernel
theorem dX5_addsNumber_7 : decode cX5_addsNumber 7 = .ok (.invokevirtual 310, 3) := by decide +kernel
theorem dX5_addsNumber_10 : decode cX5_addsNumber 10 = .ok (.istore_n 3, 1) := by decide +kernel
theorem dX5_addsNumber_11 : decode cX5_addsNumber 11 = .ok (.aload_n 0, 1) := by decide +kernel
theorem dX5_addsNumber_12 : decode cX5_addsNumber 12 = .ok (.getfield 10, 3) := by decide +kernel
theorem dX5_addsNumber_15 : decode cX5_addsNumber 15 = .ok (.getfield 44, 3) := by decide +kernel
theorem dX5_addsNumber_18 : decode cX5_addsNumber 18 = .ok (.iload_n 3, 1) := by decide +kernel
theorem dX5_addsNumber_19 : decode cX5_addsNumber 19 = .ok (.invokevirtual 48, 3) := by decide +kernel
theorem dX5_addsNumber_22 : decode cX5_addsNumber 22 = .ok (.ifCond .ne 5, 3) := by decide +kernel
theorem dX5_addsNumber_25 : decode cX5_addsNumber 25 = .ok (.iconst 0, 1) := by decide +kernel
theorem dX5_addsNumber_26 : decode cX5_addsNumber 26 = .ok (.ireturn, 1) := by decide +kernel
theorem dX5_addsNumber_27 : decode cX5_addsNumber 27 = .ok (.aload_n 0, 1) := by decide +kernel
theorem dX5_addsNumber_28 : decode cX5_addsNumber 28 = .ok (.getfield 10, 3) := by decide +kernel
theorem dX5_addsNumber_31 : decode cX5_addsNumber 31 = .ok (.getfield 44, 3) := by decide +kernel
theorem dX5_addsNumber_34 : decode cX5_addsNumber 34 = .ok (.iload_n 3, 1) := by decide +kernel
theorem dX5_addsNumber_35 : decode cX5_addsNumber 35 = .ok (.aload_n 0, 1) := by decide +kernel
theorem dX5_addsNumber_36 : decode cX5_addsNumber 36 = .ok (.getfield 26, 3) := by decide +kernel
theorem dX5_addsNumber_39 : decode cX5_addsNumber 39 = .ok (.iload_n 1, 1) := by decide +kernel
theorem dX5_addsNumber_40 : decode cX5_addsNumber 40 = .ok (.iconst 3, 1) := by decide +kernel
theorem dX5_addsNumber_41 : decode cX5_addsNumber 41 = .ok (.iadd, 1) := by decide +kernel
theorem dX5_addsNumber_42 : decode cX5_addsNumber 42 = .ok (.iload_n 2, 1) := by decide +kernel
theorem dX5_addsNumber_43 : decode cX5_addsNumber 43 = .ok (.invokevirtual 307, 3) := by decide +kernel
theorem dX5_addsNumber_46 : decode cX5_addsNumber 46 = .ok (.invokevirtual 62, 3) := by decide +kernel
theorem dX5_addsNumber_49 : decode cX5_addsNumber 49 = .ok (.pop, 1) := by decide +kernel
theorem dX5_addsNumber_50 : decode cX5_addsNumber 50 = .ok (.iconst 1, 1) := by decide +kernel
theorem dX5_addsNumber_51 : decode cX5_addsNumber 51 = .ok (.ireturn, 1) := by decide +kernel
theorem dX5_addsFrom_0 : decode cX5_addsFrom 0 = .ok (.aload_n 0, 1) := by decide +kernel
theorem dX5_addsFrom_1 : decode cX5_addsFrom 1 = .ok (.getfield 26, 3) := by decide +kernel
theorem dX5_addsFrom_4 : decode cX5_addsFrom 4 = .ok (.iload_n 1, 1) := by decide +kernel
theorem dX5_addsFrom_5 : decode cX5_addsFrom 5 = .ok (.iconst 1, 1) := by decide +kernel
theorem dX5_addsFrom_6 : decode cX5_addsFrom 6 = .ok (.iadd, 1) := by decide +kernel
theorem dX5_addsFrom_7 : decode cX5_addsFrom 7 = .ok (.invokevirtual 310, 3) := by decide +kernel
theorem dX5_addsFrom_10 : decode cX5_addsFrom 10 = .ok (.istore_n 3, 1) := by decide +kernel
theorem dX5_addsFrom_11 : decode cX5_addsFrom 11 = .ok (.aload_n 0, 1) := by decide +kernel
theorem dX5_addsFrom_12 : decode cX5_addsFrom 12 = .ok (.getfield 26, 3) := by decide +kernel
theorem dX5_addsFrom_15 : decode cX5_addsFrom 15 = .ok (.iload_n 1, 1) := by decide +kernel
theorem dX5_addsFrom_16 : decode cX5_addsFrom 16 = .ok (.iconst 3, 1) := by decide +kernel
theorem dX5_addsFrom_17 : decode cX5_addsFrom 17 = .ok (.iadd, 1) := by decide +kernel
theorem dX5_addsFrom_18 : decode cX5_addsFrom 18 = .ok (.invokevirtual 310, 3) := by decide +kernel
theorem dX5_addsFrom_21 : decode cX5_addsFrom 21 = .ok (.istore 4, 2) := by decide +kernel
theorem dX5_addsFrom_23 : decode cX5_addsFrom 23 = .ok (.iload_n 2, 1) := by decide +kernel
theorem dX5_addsFrom_24 : decode cX5_addsFrom 24 = .ok (.iload_n 1, 1) := by decide +kernel
theorem dX5_addsFrom_25 : decode cX5_addsFrom 25 = .ok (.iconst 4, 1) := by decide +kernel
theorem dX5_addsFrom_26 : decode cX5_addsFrom 26 = .ok (.iadd, 1) := by decide +kernel
theorem dX5_addsFrom_27 : decode cX5_addsFrom 27 = .ok (.if_icmp .le 16, 3) := by decide +kernel
theorem dX5_addsFrom_30 : decode cX5_addsFrom 30 = .ok (.aload_n 0, 1) := by decide +kernel
theorem dX5_addsFrom_31 : decode cX5_addsFrom 31 = .ok (.getfield 26, 3) := by decide +kernel
theorem dX5_addsFrom_34 : decode cX5_addsFrom 34 = .ok (.iload_n 1, 1) := by decide +kernel
theorem dX5_addsFrom_35 : decode cX5_addsFrom 35 = .ok (.iconst 5, 1) := by decide +kernel
theorem dX5_addsFrom_36 : decode cX5_addsFrom 36 = .ok (.iadd, 1) := by decide +kernel
theorem dX5_addsFrom_37 : decode cX5_addsFrom 37 = .ok (.invokevirtual 310, 3) := by decide +kernel
theorem dX5_addsFrom_40 : decode cX5_addsFrom 40 = .ok (.goto 4, 3) := by decide +kernel
theorem dX5_addsFrom_43 : decode cX5_addsFrom 43 = .ok (.iconst (-1), 1) := by decide +kernel
theorem dX5_addsFrom_44 : decode cX5_addsFrom 44 = .ok (.istore 5, 2) := by decide +kernel
theorem dX5_addsFrom_46 : decode cX5_addsFrom 46 = .ok (.aload_n 0, 1) := by decide +kernel
theorem dX5_addsFrom_47 : decode cX5_addsFrom 47 = .ok (.getfield 10, 3) := by decide +kernel
theorem dX5_addsFrom_50 : decode cX5_addsFrom 50 = .ok (.getfield 44, 3) := by decide +kernel
theorem dX5_addsFrom_53 : decode cX5_addsFrom 53 = .ok (.iload_n 3, 1) := by decide +kernel
theorem dX5_addsFrom_54 : decode cX5_addsFrom 54 = .ok (.iload 4, 2) := by decide +kernel
theorem dX5_addsFrom_56 : decode cX5_addsFrom 56 = .ok (.iload 5, 2) := by decide +kernel
theorem dX5_addsFrom_58 : decode cX5_addsFrom 58 = .ok (.invokevirtual 71, 3) := by decide +kernel
theorem dX5_addsFrom_61 : decode cX5_addsFrom 61 = .ok (.ifCond .ne 5, 3) := by decide +kernel
theorem dX5_addsFrom_64 : decode cX5_addsFrom 64 = .ok (.iconst 0, 1) := by decide +kernel
theorem dX5_addsFrom_65 : decode cX5_addsFrom 65 = .ok (.ireturn, 1) := by decide +kernel
theorem dX5_addsFrom_66 : decode cX5_addsFrom 66 = .ok (.aload_n 0, 1) := by decide +kernel
theorem dX5_addsFrom_67 : decode cX5_addsFrom 67 = .ok (.getfield 10, 3) := by decide +kernel
theorem dX5_addsFrom_70 : decode cX5_addsFrom 70 = .ok (.getfield 44, 3) := by decide +kernel
theorem dX5_addsFrom_73 : decode cX5_addsFrom 73 = .ok (.iload_n 3, 1) := by decide +kernel
theorem dX5_addsFrom_74 : decode cX5_addsFrom 74 = .ok (.iload 4, 2) := by decide +kernel
theorem dX5_addsFrom_76 : decode cX5_addsFrom 76 = .ok (.iload 5, 2) := by decide +kernel
theorem dX5_addsFrom_78 : decode cX5_addsFrom 78 = .ok (.invokevirtual 77, 3) := by decide +kernel
theorem dX5_addsFrom_81 : decode cX5_addsFrom 81 = .ok (.pop, 1) := by decide +kernel
theorem dX5_addsFrom_82 : decode cX5_addsFrom 82 = .ok (.iconst 1, 1) := by decide +kernel
theorem dX5_addsFrom_83 : decode cX5_addsFrom 83 = .ok (.ireturn, 1) := by decide +kernel
theorem dX5_drops_0 : decode cX5_drops 0 = .ok (.aload_n 0, 1) := by decide +kernel
theorem dX5_drops_1 : decode cX5_drops 1 = .ok (.getfield 26, 3) := by decide +kernel
theorem dX5_drops_4 : decode cX5_drops 4 = .ok (.iload_n 1, 1) := by decide +kernel
theorem dX5_drops_5 : decode cX5_drops 5 = .ok (.iconst 1, 1) := by decide +kernel
theorem dX5_drops_6 : decode cX5_drops 6 = .ok (.iadd, 1) := by decide +kernel
theorem dX5_drops_7 : decode cX5_drops 7 = .ok (.invokevirtual 310, 3) := by decide +kernel
theorem dX5_drops_10 : decode cX5_drops 10 = .ok (.istore_n 3, 1) := by decide +kernel
theorem dX5_drops_11 : decode cX5_drops 11 = .ok (.aload_n 0, 1) := by decide +kernel
theorem dX5_drops_12 : decode cX5_drops 12 = .ok (.getfield 10, 3) := by decide +kernel
theorem dX5_drops_15 : decode cX5_drops 15 = .ok (.getfield 44, 3) := by decide +kernel
theorem dX5_drops_18 : decode cX5_drops 18 = .ok (.iload_n 3, 1) := by decide +kernel
theorem dX5_drops_19 : decode cX5_drops 19 = .ok (.invokevirtual 81, 3) := by decide +kernel
theorem dX5_drops_22 : decode cX5_drops 22 = .ok (.ifCond .ne 5, 3) := by decide +kernel
theorem dX5_drops_25 : decode cX5_drops 25 = .ok (.iconst 0, 1) := by decide +kernel
theorem dX5_drops_26 : decode cX5_drops 26 = .ok (.ireturn, 1) := by decide +kernel
theorem dX5_drops_27 : decode cX5_drops 27 = .ok (.aload_n 0, 1) := by decide +kernel
theorem dX5_drops_28 : decode cX5_drops 28 = .ok (.getfield 10, 3) := by decide +kernel
theorem dX5_drops_31 : decode cX5_drops 31 = .ok (.getfield 44, 3) := by decide +kernel
theorem dX5_drops_34 : decode cX5_drops 34 = .ok (.iload_n 3, 1) := by decide +kernel
theorem dX5_drops_35 : decode cX5_drops 35 = .ok (.aload_n 0, 1) := by decide +kernel
theorem dX5_drops_36 : decode cX5_drops 36 = .ok (.getfield 26, 3) := by decide +kernel
theorem dX5_drops_39 : decode cX5_drops 39 = .ok (.iload_n 1, 1) := by decide +kernel
theorem dX5_drops_40 : decode cX5_drops 40 = .ok (.iconst 3, 1) := by decide +kernel
theorem dX5_drops_41 : decode cX5_drops 41 = .ok (.iadd, 1) := by decide +kernel
theorem dX5_drops_42 : decode cX5_drops 42 = .ok (.iload_n 2, 1) := by decide +kernel
theorem dX5_drops_43 : decode cX5_drops 43 = .ok (.invokevirtual 307, 3) := by decide +kernel
theorem dX5_drops_46 : decode cX5_drops 46 = .ok (.invokevirtual 86, 3) := by decide +kernel
theorem dX5_drops_49 : decode cX5_drops 49 = .ok (.pop, 1) := by decide +kernel
theorem dX5_drops_50 : decode cX5_drops 50 = .ok (.iconst 1, 1) := by decide +kernel
theorem dX5_drops_51 : decode cX5_drops 51 = .ok (.ireturn, 1) := by decide +kernel
theorem dX5_renames_0 : decode cX5_renames 0 = .ok (.aload_n 0, 1) := by decide +kernel
theorem dX5_renames_1 : decode cX5_renames 1 = .ok (.getfield 26, 3) := by decide +kernel
theorem dX5_renames_4 : decode cX5_renames 4 = .ok (.iload_n 1, 1) := by decide +kernel
theorem dX5_renames_5 : decode cX5_renames 5 = .ok (.iconst 1, 1) := by decide +kernel
theorem dX5_renames_6 : decode cX5_renames 6 = .ok (.iadd, 1) := by decide +kernel
theorem dX5_renames_7 : decode cX5_renames 7 = .ok (.invokevirtual 310, 3) := by decide +kernel
theorem dX5_renames_10 : decode cX5_renames 10 = .ok (.istore_n 2, 1) := by decide +kernel
theorem dX5_renames_11 : decode cX5_renames 11 = .ok (.aload_n 0, 1) := by decide +kernel
theorem dX5_renames_12 : decode cX5_renames 12 = .ok (.getfield 26, 3) := by decide +kernel
theorem dX5_renames_15 : decode cX5_renames 15 = .ok (.iload_n 1, 1) := by decide +kernel
theorem dX5_renames_16 : decode cX5_renames 16 = .ok (.iconst 2, 1) := by decide +kernel
theorem dX5_renames_17 : decode cX5_renames 17 = .ok (.iadd, 1) := by decide +kernel
theorem dX5_renames_18 : decode cX5_renames 18 = .ok (.invokevirtual 310, 3) := by decide +kernel
theorem dX5_renames_21 : decode cX5_renames 21 = .ok (.istore_n 3, 1) := by decide +kernel
theorem dX5_renames_22 : decode cX5_renames 22 = .ok (.aload_n 0, 1) := by decide +kernel
theorem dX5_renames_23 : decode cX5_renames 23 = .ok (.getfield 10, 3) := by decide +kernel
theorem dX5_renames_26 : decode cX5_renames 26 = .ok (.getfield 44, 3) := by decide +kernel
theorem dX5_renames_29 : decode cX5_renames 29 = .ok (.iload_n 2, 1) := by decide +kernel
theorem dX5_renames_30 : decode cX5_renames 30 = .ok (.iload_n 3, 1) := by decide +kernel
theorem dX5_renames_31 : decode cX5_renames 31 = .ok (.invokevirtual 89, 3) := by decide +kernel
theorem dX5_renames_34 : decode cX5_renames 34 = .ok (.ifCond .ne 5, 3) := by decide +kernel
theorem dX5_renames_37 : decode cX5_renames 37 = .ok (.iconst 0, 1) := by decide +kernel
theorem dX5_renames_38 : decode cX5_renames 38 = .ok (.ireturn, 1) := by decide +kernel
theorem dX5_renames_39 : decode cX5_renames 39 = .ok (.aload_n 0, 1) := by decide +kernel
theorem dX5_renames_40 : decode cX5_renames 40 = .ok (.getfield 10, 3) := by decide +kernel
theorem dX5_renames_43 : decode cX5_renames 43 = .ok (.getfield 44, 3) := by decide +kernel
theorem dX5_renames_46 : decode cX5_renames 46 = .ok (.iload_n 2, 1) := by decide +kernel
theorem dX5_renames_47 : decode cX5_renames 47 = .ok (.iload_n 3, 1) := by decide +kernel
theorem dX5_renames_48 : decode cX5_renames 48 = .ok (.invokevirtual 93, 3) := by decide +kernel
theorem dX5_renames_51 : decode cX5_renames 51 = .ok (.pop, 1) := by decide +kernel
theorem dX5_renames_52 : decode cX5_renames 52 = .ok (.iconst 1, 1) := by decide +kernel
theorem dX5_renames_53 : decode cX5_renames 53 = .ok (.ireturn, 1) := by decide +kernel
theorem dX5_inserts_0 : decode cX5_inserts 0 = .ok (.aload_n 0, 1) := by decide +kernel
theorem dX5_inserts_1 : decode cX5_inserts 1 = .ok (.getfield 10, 3) := by decide +kernel
theorem dX5_inserts_4 : decode cX5_inserts 4 = .ok (.getfield 96, 3) := by decide +kernel
theorem dX5_inserts_7 : decode cX5_inserts 7 = .ok (.invokevirtual 100, 3) := by decide +kernel
theorem dX5_inserts_10 : decode cX5_inserts 10 = .ok (.ifCond .eq 5, 3) := by decide +kernel
theorem dX5_inserts_13 : decode cX5_inserts 13 = .ok (.iconst 0, 1) := by decide +kernel
theorem dX5_inserts_14 : decode cX5_inserts 14 = .ok (.ireturn, 1) := by decide +kernel
theorem dX5_inserts_15 : decode cX5_inserts 15 = .ok (.aload_n 0, 1) := by decide +kernel
theorem dX5_inserts_16 : decode cX5_inserts 16 = .ok (.getfield 10, 3) := by decide +kernel
theorem dX5_inserts_19 : decode cX5_inserts 19 = .ok (.getfield 96, 3) := by decide +kernel
theorem dX5_inserts_22 : decode cX5_inserts 22 = .ok (.aload_n 0, 1) := by decide +kernel
theorem dX5_inserts_23 : decode cX5_inserts 23 = .ok (.getfield 10, 3) := by decide +kernel
theorem dX5_inserts_26 : decode cX5_inserts 26 = .ok (.getfield 44, 3) := by decide +kernel
theorem dX5_inserts_29 : decode cX5_inserts 29 = .ok (.invokevirtual 108, 3) := by decide +kernel
theorem dX5_inserts_32 : decode cX5_inserts 32 = .ok (.invokevirtual 112, 3) := by decide +kernel
theorem dX5_inserts_35 : decode cX5_inserts 35 = .ok (.pop, 1) := by decide +kernel
theorem dX5_inserts_36 : decode cX5_inserts 36 = .ok (.iconst 1, 1) := by decide +kernel
theorem dX5_inserts_37 : decode cX5_inserts 37 = .ok (.ireturn, 1) := by decide +kernel
theorem dX5_mixedShapes_0 : decode cX5_mixedShapes 0 = .ok (.lload_n 1, 1) := by decide +kernel
theorem dX5_mixedShapes_1 : decode cX5_mixedShapes 1 = .ok (.lstore_n 3, 1) := by decide +kernel
theorem dX5_mixedShapes_2 : decode cX5_mixedShapes 2 = .ok (.iconst 0, 1) := by decide +kernel
theorem dX5_mixedShapes_3 : decode cX5_mixedShapes 3 = .ok (.istore 5, 2) := by decide +kernel
theorem dX5_mixedShapes_5 : decode cX5_mixedShapes 5 = .ok (.iload 5, 2) := by decide +kernel
theorem dX5_mixedShapes_7 : decode cX5_mixedShapes 7 = .ok (.aload_n 0, 1) := by decide +kernel
theorem dX5_mixedShapes_8 : decode cX5_mixedShapes 8 = .ok (.getfield 10, 3) := by decide +kernel
theorem dX5_mixedShapes_11 : decode cX5_mixedShapes 11 = .ok (.getfield 44, 3) := by decide +kernel
theorem dX5_mixedShapes_14 : decode cX5_mixedShapes 14 = .ok (.invokevirtual 273, 3) := by decide +kernel
theorem dX5_mixedShapes_17 : decode cX5_mixedShapes 17 = .ok (.if_icmp .ge 105, 3) := by decide +kernel
theorem dX5_mixedShapes_20 : decode cX5_mixedShapes 20 = .ok (.iconst 0, 1) := by decide +kernel
theorem dX5_mixedShapes_21 : decode cX5_mixedShapes 21 = .ok (.istore 6, 2) := by decide +kernel
theorem dX5_mixedShapes_23 : decode cX5_mixedShapes 23 = .ok (.iload 6, 2) := by decide +kernel
theorem dX5_mixedShapes_25 : decode cX5_mixedShapes 25 = .ok (.bipush 6, 2) := by decide +kernel
theorem dX5_mixedShapes_27 : decode cX5_mixedShapes 27 = .ok (.if_icmp .ge 26, 3) := by decide +kernel
theorem dX5_mixedShapes_30 : decode cX5_mixedShapes 30 = .ok (.lload_n 3, 1) := by decide +kernel
theorem dX5_mixedShapes_31 : decode cX5_mixedShapes 31 = .ok (.aload_n 0, 1) := by decide +kernel
theorem dX5_mixedShapes_32 : decode cX5_mixedShapes 32 = .ok (.getfield 10, 3) := by decide +kernel
theorem dX5_mixedShapes_35 : decode cX5_mixedShapes 35 = .ok (.iload 5, 2) := by decide +kernel
theorem dX5_mixedShapes_37 : decode cX5_mixedShapes 37 = .ok (.iload 6, 2) := by decide +kernel
theorem dX5_mixedShapes_39 : decode cX5_mixedShapes 39 = .ok (.invokevirtual 226, 3) := by decide +kernel
theorem dX5_mixedShapes_42 : decode cX5_mixedShapes 42 = .ok (.i2l, 1) := by decide +kernel
theorem dX5_mixedShapes_43 : decode cX5_mixedShapes 43 = .ok (.invokestatic 250, 3) := by decide +kernel
theorem dX5_mixedShapes_46 : decode cX5_mixedShapes 46 = .ok (.lstore_n 3, 1) := by decide +kernel
theorem dX5_mixedShapes_47 : decode cX5_mixedShapes 47 = .ok (.iinc 6 1, 3) := by decide +kernel
theorem dX5_mixedShapes_50 : decode cX5_mixedShapes 50 = .ok (.goto (-27), 3) := by decide +kernel
theorem dX5_mixedShapes_53 : decode cX5_mixedShapes 53 = .ok (.iconst 0, 1) := by decide +kernel
theorem dX5_mixedShapes_54 : decode cX5_mixedShapes 54 = .ok (.istore 6, 2) := by decide +kernel
theorem dX5_mixedShapes_56 : decode cX5_mixedShapes 56 = .ok (.iload 6, 2) := by decide +kernel
theorem dX5_mixedShapes_58 : decode cX5_mixedShapes 58 = .ok (.aload_n 0, 1) := by decide +kernel
theorem dX5_mixedShapes_59 : decode cX5_mixedShapes 59 = .ok (.getfield 10, 3) := by decide +kernel
theorem dX5_mixedShapes_62 : decode cX5_mixedShapes 62 = .ok (.getfield 44, 3) := by decide +kernel
theorem dX5_mixedShapes_65 : decode cX5_mixedShapes 65 = .ok (.iload 5, 2) := by decide +kernel
theorem dX5_mixedShapes_67 : decode cX5_mixedShapes 67 = .ok (.invokevirtual 286, 3) := by decide +kernel
theorem dX5_mixedShapes_70 : decode cX5_mixedShapes 70 = .ok (.if_icmp .ge 46, 3) := by decide +kernel
theorem dX5_mixedShapes_73 : decode cX5_mixedShapes 73 = .ok (.iconst 0, 1) := by decide +kernel
theorem dX5_mixedShapes_74 : decode cX5_mixedShapes 74 = .ok (.istore 7, 2) := by decide +kernel
theorem dX5_mixedShapes_76 : decode cX5_mixedShapes 76 = .ok (.iload 7, 2) := by decide +kernel
theorem dX5_mixedShapes_78 : decode cX5_mixedShapes 78 = .ok (.iconst 3, 1) := by decide +kernel
theorem dX5_mixedShapes_79 : decode cX5_mixedShapes 79 = .ok (.if_icmp .ge 31, 3) := by decide +kernel
theorem dX5_mixedShapes_82 : decode cX5_mixedShapes 82 = .ok (.lload_n 3, 1) := by decide +kernel
theorem dX5_mixedShapes_83 : decode cX5_mixedShapes 83 = .ok (.aload_n 0, 1) := by decide +kernel
theorem dX5_mixedShapes_84 : decode cX5_mixedShapes 84 = .ok (.getfield 10, 3) := by decide +kernel
theorem dX5_mixedShapes_87 : decode cX5_mixedShapes 87 = .ok (.getfield 44, 3) := by decide +kernel
theorem dX5_mixedShapes_90 : decode cX5_mixedShapes 90 = .ok (.iload 5, 2) := by decide +kernel
theorem dX5_mixedShapes_92 : decode cX5_mixedShapes 92 = .ok (.iload 6, 2) := by decide +kernel
theorem dX5_mixedShapes_94 : decode cX5_mixedShapes 94 = .ok (.iload 7, 2) := by decide +kernel
theorem dX5_mixedShapes_96 : decode cX5_mixedShapes 96 = .ok (.invokevirtual 221, 3) := by decide +kernel
theorem dX5_mixedShapes_99 : decode cX5_mixedShapes 99 = .ok (.i2l, 1) := by decide +kernel
theorem dX5_mixedShapes_100 : decode cX5_mixedShapes 100 = .ok (.invokestatic 250, 3) := by decide +kernel
theorem dX5_mixedShapes_103 : decode cX5_mixedShapes 103 = .ok (.lstore_n 3, 1) := by decide +kernel
theorem dX5_mixedShapes_104 : decode cX5_mixedShapes 104 = .ok (.iinc 7 1, 3) := by decide +kernel
theorem dX5_mixedShapes_107 : decode cX5_mixedShapes 107 = .ok (.goto (-31), 3) := by decide +kernel
theorem dX5_mixedShapes_110 : decode cX5_mixedShapes 110 = .ok (.iinc 6 1, 3) := by decide +kernel
theorem dX5_mixedShapes_113 : decode cX5_mixedShapes 113 = .ok (.goto (-57), 3) := by decide +kernel
theorem dX5_mixedShapes_116 : decode cX5_mixedShapes 116 = .ok (.iinc 5 1, 3) := by decide +kernel
theorem dX5_mixedShapes_119 : decode cX5_mixedShapes 119 = .ok (.goto (-114), 3) := by decide +kernel
theorem dX5_mixedShapes_122 : decode cX5_mixedShapes 122 = .ok (.lload_n 3, 1) := by decide +kernel
theorem dX5_mixedShapes_123 : decode cX5_mixedShapes 123 = .ok (.lreturn, 1) := by decide +kernel
theorem dX5_mixedRow_0 : decode cX5_mixedRow 0 = .ok (.lload_n 1, 1) := by decide +kernel
theorem dX5_mixedRow_1 : decode cX5_mixedRow 1 = .ok (.lstore 4, 2) := by decide +kernel
theorem dX5_mixedRow_3 : decode cX5_mixedRow 3 = .ok (.iconst 0, 1) := by decide +kernel
theorem dX5_mixedRow_4 : decode cX5_mixedRow 4 = .ok (.istore 6, 2) := by decide +kernel
theorem dX5_mixedRow_6 : decode cX5_mixedRow 6 = .ok (.iload 6, 2) := by decide +kernel
theorem dX5_mixedRow_8 : decode cX5_mixedRow 8 = .ok (.bipush 6, 2) := by decide +kernel
theorem dX5_mixedRow_10 : decode cX5_mixedRow 10 = .ok (.if_icmp .ge 27, 3) := by decide +kernel
theorem dX5_mixedRow_13 : decode cX5_mixedRow 13 = .ok (.lload 4, 2) := by decide +kernel
theorem dX5_mixedRow_15 : decode cX5_mixedRow 15 = .ok (.aload_n 0, 1) := by decide +kernel
theorem dX5_mixedRow_16 : decode cX5_mixedRow 16 = .ok (.getfield 10, 3) := by decide +kernel
theorem dX5_mixedRow_19 : decode cX5_mixedRow 19 = .ok (.iload_n 3, 1) := by decide +kernel
theorem dX5_mixedRow_20 : decode cX5_mixedRow 20 = .ok (.iload 6, 2) := by decide +kernel
theorem dX5_mixedRow_22 : decode cX5_mixedRow 22 = .ok (.invokevirtual 229, 3) := by decide +kernel
theorem dX5_mixedRow_25 : decode cX5_mixedRow 25 = .ok (.i2l, 1) := by decide +kernel
theorem dX5_mixedRow_26 : decode cX5_mixedRow 26 = .ok (.invokestatic 250, 3) := by decide +kernel
theorem dX5_mixedRow_29 : decode cX5_mixedRow 29 = .ok (.lstore 4, 2) := by decide +kernel
theorem dX5_mixedRow_31 : decode cX5_mixedRow 31 = .ok (.iinc 6 1, 3) := by decide +kernel
theorem dX5_mixedRow_34 : decode cX5_mixedRow 34 = .ok (.goto (-28), 3) := by decide +kernel
theorem dX5_mixedRow_37 : decode cX5_mixedRow 37 = .ok (.aload_n 0, 1) := by decide +kernel
theorem dX5_mixedRow_38 : decode cX5_mixedRow 38 = .ok (.getfield 10, 3) := by decide +kernel
theorem dX5_mixedRow_41 : decode cX5_mixedRow 41 = .ok (.getfield 44, 3) := by decide +kernel
theorem dX5_mixedRow_44 : decode cX5_mixedRow 44 = .ok (.invokevirtual 274, 3) := by decide +kernel
theorem dX5_mixedRow_47 : decode cX5_mixedRow 47 = .ok (.istore 6, 2) := by decide +kernel
theorem dX5_mixedRow_49 : decode cX5_mixedRow 49 = .ok (.iload 6, 2) := by decide +kernel
theorem dX5_mixedRow_51 : decode cX5_mixedRow 51 = .ok (.aload_n 0, 1) := by decide +kernel
theorem dX5_mixedRow_52 : decode cX5_mixedRow 52 = .ok (.getfield 10, 3) := by decide +kernel
theorem dX5_mixedRow_55 : decode cX5_mixedRow 55 = .ok (.getfield 44, 3) := by decide +kernel
theorem dX5_mixedRow_58 : decode cX5_mixedRow 58 = .ok (.invokevirtual 273, 3) := by decide +kernel
theorem dX5_mixedRow_61 : decode cX5_mixedRow 61 = .ok (.if_icmp .ge 92, 3) := by decide +kernel
theorem dX5_mixedRow_64 : decode cX5_mixedRow 64 = .ok (.aload_n 0, 1) := by decide +kernel
theorem dX5_mixedRow_65 : decode cX5_mixedRow 65 = .ok (.getfield 10, 3) := by decide +kernel
theorem dX5_mixedRow_68 : decode cX5_mixedRow 68 = .ok (.iload_n 3, 1) := by decide +kernel
theorem dX5_mixedRow_69 : decode cX5_mixedRow 69 = .ok (.iload 6, 2) := by decide +kernel
theorem dX5_mixedRow_71 : decode cX5_mixedRow 71 = .ok (.invokevirtual 313, 3) := by decide +kernel
theorem dX5_mixedRow_74 : decode cX5_mixedRow 74 = .ok (.astore 7, 2) := by decide +kernel
theorem dX5_mixedRow_76 : decode cX5_mixedRow 76 = .ok (.iconst 0, 1) := by decide +kernel
theorem dX5_mixedRow_77 : decode cX5_mixedRow 77 = .ok (.istore 8, 2) := by decide +kernel
theorem dX5_mixedRow_79 : decode cX5_mixedRow 79 = .ok (.iload 8, 2) := by decide +kernel
theorem dX5_mixedRow_81 : decode cX5_mixedRow 81 = .ok (.aload_n 0, 1) := by decide +kernel
theorem dX5_mixedRow_82 : decode cX5_mixedRow 82 = .ok (.getfield 10, 3) := by decide +kernel
theorem dX5_mixedRow_85 : decode cX5_mixedRow 85 = .ok (.getfield 44, 3) := by decide +kernel
theorem dX5_mixedRow_88 : decode cX5_mixedRow 88 = .ok (.iload 6, 2) := by decide +kernel
theorem dX5_mixedRow_90 : decode cX5_mixedRow 90 = .ok (.invokevirtual 286, 3) := by decide +kernel
theorem dX5_mixedRow_93 : decode cX5_mixedRow 93 = .ok (.if_icmp .ge 36, 3) := by decide +kernel
theorem dX5_mixedRow_96 : decode cX5_mixedRow 96 = .ok (.lload 4, 2) := by decide +kernel
theorem dX5_mixedRow_98 : decode cX5_mixedRow 98 = .ok (.aload 7, 2) := by decide +kernel
theorem dX5_mixedRow_100 : decode cX5_mixedRow 100 = .ok (.aload_n 0, 1) := by decide +kernel
theorem dX5_mixedRow_101 : decode cX5_mixedRow 101 = .ok (.getfield 10, 3) := by decide +kernel
theorem dX5_mixedRow_104 : decode cX5_mixedRow 104 = .ok (.getfield 44, 3) := by decide +kernel
theorem dX5_mixedRow_107 : decode cX5_mixedRow 107 = .ok (.iload 6, 2) := by decide +kernel
theorem dX5_mixedRow_109 : decode cX5_mixedRow 109 = .ok (.iload 8, 2) := by decide +kernel
theorem dX5_mixedRow_111 : decode cX5_mixedRow 111 = .ok (.invokevirtual 317, 3) := by decide +kernel
theorem dX5_mixedRow_114 : decode cX5_mixedRow 114 = .ok (.invokestatic 320, 3) := by decide +kernel
theorem dX5_mixedRow_117 : decode cX5_mixedRow 117 = .ok (.i2l, 1) := by decide +kernel
theorem dX5_mixedRow_118 : decode cX5_mixedRow 118 = .ok (.invokestatic 250, 3) := by decide +kernel
theorem dX5_mixedRow_121 : decode cX5_mixedRow 121 = .ok (.lstore 4, 2) := by decide +kernel
theorem dX5_mixedRow_123 : decode cX5_mixedRow 123 = .ok (.iinc 8 1, 3) := by decide +kernel
theorem dX5_mixedRow_126 : decode cX5_mixedRow 126 = .ok (.goto (-47), 3) := by decide +kernel
theorem dX5_mixedRow_129 : decode cX5_mixedRow 129 = .ok (.lload 4, 2) := by decide +kernel
theorem dX5_mixedRow_131 : decode cX5_mixedRow 131 = .ok (.aload_n 0, 1) := by decide +kernel
theorem dX5_mixedRow_132 : decode cX5_mixedRow 132 = .ok (.getfield 10, 3) := by decide +kernel
theorem dX5_mixedRow_135 : decode cX5_mixedRow 135 = .ok (.iload_n 3, 1) := by decide +kernel
theorem dX5_mixedRow_136 : decode cX5_mixedRow 136 = .ok (.iload 6, 2) := by decide +kernel
theorem dX5_mixedRow_138 : decode cX5_mixedRow 138 = .ok (.invokevirtual 235, 3) := by decide +kernel
theorem dX5_mixedRow_141 : decode cX5_mixedRow 141 = .ok (.i2l, 1) := by decide +kernel
theorem dX5_mixedRow_142 : decode cX5_mixedRow 142 = .ok (.invokestatic 250, 3) := by decide +kernel
theorem dX5_mixedRow_145 : decode cX5_mixedRow 145 = .ok (.lstore 4, 2) := by decide +kernel
theorem dX5_mixedRow_147 : decode cX5_mixedRow 147 = .ok (.iinc 6 1, 3) := by decide +kernel
theorem dX5_mixedRow_150 : decode cX5_mixedRow 150 = .ok (.goto (-101), 3) := by decide +kernel
theorem dX5_mixedRow_153 : decode cX5_mixedRow 153 = .ok (.lload 4, 2) := by decide +kernel
theorem dX5_mixedRow_155 : decode cX5_mixedRow 155 = .ok (.lreturn, 1) := by decide +kernel
theorem dX5_mixedText_0 : decode cX5_mixedText 0 = .ok (.lload_n 1, 1) := by decide +kernel
theorem dX5_mixedText_1 : decode cX5_mixedText 1 = .ok (.aload_n 0, 1) := by decide +kernel
theorem dX5_mixedText_2 : decode cX5_mixedText 2 = .ok (.getfield 26, 3) := by decide +kernel
theorem dX5_mixedText_5 : decode cX5_mixedText 5 = .ok (.invokevirtual 188, 3) := by decide +kernel
theorem dX5_mixedText_8 : decode cX5_mixedText 8 = .ok (.i2l, 1) := by decide +kernel
theorem dX5_mixedText_9 : decode cX5_mixedText 9 = .ok (.invokestatic 250, 3) := by decide +kernel
theorem dX5_mixedText_12 : decode cX5_mixedText 12 = .ok (.lstore_n 3, 1) := by decide +kernel
theorem dX5_mixedText_13 : decode cX5_mixedText 13 = .ok (.iconst 0, 1) := by decide +kernel
theorem dX5_mixedText_14 : decode cX5_mixedText 14 = .ok (.istore 5, 2) := by decide +kernel
theorem dX5_mixedText_16 : decode cX5_mixedText 16 = .ok (.iload 5, 2) := by decide +kernel
theorem dX5_mixedText_18 : decode cX5_mixedText 18 = .ok (.aload_n 0, 1) := by decide +kernel
theorem dX5_mixedText_19 : decode cX5_mixedText 19 = .ok (.getfield 26, 3) := by decide +kernel
theorem dX5_mixedText_22 : decode cX5_mixedText 22 = .ok (.invokevirtual 188, 3) := by decide +kernel
theorem dX5_mixedText_25 : decode cX5_mixedText 25 = .ok (.if_icmp .ge 24, 3) := by decide +kernel
theorem dX5_mixedText_28 : decode cX5_mixedText 28 = .ok (.lload_n 3, 1) := by decide +kernel
theorem dX5_mixedText_29 : decode cX5_mixedText 29 = .ok (.aload_n 0, 1) := by decide +kernel
theorem dX5_mixedText_30 : decode cX5_mixedText 30 = .ok (.getfield 26, 3) := by decide +kernel
theorem dX5_mixedText_33 : decode cX5_mixedText 33 = .ok (.iload 5, 2) := by decide +kernel
theorem dX5_mixedText_35 : decode cX5_mixedText 35 = .ok (.invokevirtual 289, 3) := by decide +kernel
theorem dX5_mixedText_38 : decode cX5_mixedText 38 = .ok (.i2l, 1) := by decide +kernel
theorem dX5_mixedText_39 : decode cX5_mixedText 39 = .ok (.invokestatic 250, 3) := by decide +kernel
theorem dX5_mixedText_42 : decode cX5_mixedText 42 = .ok (.lstore_n 3, 1) := by decide +kernel
theorem dX5_mixedText_43 : decode cX5_mixedText 43 = .ok (.iinc 5 1, 3) := by decide +kernel
theorem dX5_mixedText_46 : decode cX5_mixedText 46 = .ok (.goto (-30), 3) := by decide +kernel
theorem dX5_mixedText_49 : decode cX5_mixedText 49 = .ok (.lload_n 3, 1) := by decide +kernel
theorem dX5_mixedText_50 : decode cX5_mixedText 50 = .ok (.lreturn, 1) := by decide +kernel
theorem dX5_mixed_0 : decode cX5_mixed 0 = .ok (.ldc2_w 324, 3) := by decide +kernel
theorem dX5_mixed_3 : decode cX5_mixed 3 = .ok (.lload_n 0, 1) := by decide +kernel
theorem dX5_mixed_4 : decode cX5_mixed 4 = .ok (.lmul, 1) := by decide +kernel
theorem dX5_mixed_5 : decode cX5_mixed 5 = .ok (.lload_n 2, 1) := by decide +kernel
theorem dX5_mixed_6 : decode cX5_mixed 6 = .ok (.ladd, 1) := by decide +kernel
theorem dX5_mixed_7 : decode cX5_mixed 7 = .ok (.lreturn, 1) := by decide +kernel
theorem dX5_bitsOfShare_0 : decode cX5_bitsOfShare 0 = .ok (.dload_n 0, 1) := by decide +kernel
theorem dX5_bitsOfShare_1 : decode cX5_bitsOfShare 1 = .ok (.dconst 0, 1) := by decide +kernel
theorem dX5_bitsOfShare_2 : decode cX5_bitsOfShare 2 = .ok (.dcmp .g, 1) := by decide +kernel
theorem dX5_bitsOfShare_3 : decode cX5_bitsOfShare 3 = .ok (.ifCond .gt 5, 3) := by decide +kernel
theorem dX5_bitsOfShare_6 : decode cX5_bitsOfShare 6 = .ok (.lconst 0, 1) := by decide +kernel
theorem dX5_bitsOfShare_7 : decode cX5_bitsOfShare 7 = .ok (.lreturn, 1) := by decide +kernel
theorem dX5_bitsOfShare_8 : decode cX5_bitsOfShare 8 = .ok (.dload_n 0, 1) := by decide +kernel
theorem dX5_bitsOfShare_9 : decode cX5_bitsOfShare 9 = .ok (.dstore_n 2, 1) := by decide +kernel
theorem dX5_bitsOfShare_10 : decode cX5_bitsOfShare 10 = .ok (.ldc2_w 326, 3) := by decide +kernel
theorem dX5_bitsOfShare_13 : decode cX5_bitsOfShare 13 = .ok (.lstore 4, 2) := by decide +kernel
theorem dX5_bitsOfShare_15 : decode cX5_bitsOfShare 15 = .ok (.iconst 0, 1) := by decide +kernel
theorem dX5_bitsOfShare_16 : decode cX5_bitsOfShare 16 = .ok (.istore 6, 2) := by decide +kernel
theorem dX5_bitsOfShare_18 : decode cX5_bitsOfShare 18 = .ok (.iload 6, 2) := by decide +kernel
theorem dX5_bitsOfShare_20 : decode cX5_bitsOfShare 20 = .ok (.sipush 1000, 3) := by decide +kernel
theorem dX5_bitsOfShare_23 : decode cX5_bitsOfShare 23 = .ok (.if_icmp .ge 27, 3) := by decide +kernel
theorem dX5_bitsOfShare_26 : decode cX5_bitsOfShare 26 = .ok (.dload_n 2, 1) := by decide +kernel
theorem dX5_bitsOfShare_27 : decode cX5_bitsOfShare 27 = .ok (.dconst 1, 1) := by decide +kernel
theorem dX5_bitsOfShare_28 : decode cX5_bitsOfShare 28 = .ok (.dcmp .g, 1) := by decide +kernel
theorem dX5_bitsOfShare_29 : decode cX5_bitsOfShare 29 = .ok (.ifCond .ge 21, 3) := by decide +kernel
theorem dX5_bitsOfShare_32 : decode cX5_bitsOfShare 32 = .ok (.dload_n 2, 1) := by decide +kernel
theorem dX5_bitsOfShare_33 : decode cX5_bitsOfShare 33 = .ok (.ldc2_w 328, 3) := by decide +kernel
theorem dX5_bitsOfShare_36 : decode cX5_bitsOfShare 36 = .ok (.dmul, 1) := by decide +kernel
theorem dX5_bitsOfShare_37 : decode cX5_bitsOfShare 37 = .ok (.dstore_n 2, 1) := by decide +kernel
theorem dX5_bitsOfShare_38 : decode cX5_bitsOfShare 38 = .ok (.lload 4, 2) := by decide +kernel
theorem dX5_bitsOfShare_40 : decode cX5_bitsOfShare 40 = .ok (.lconst 1, 1) := by decide +kernel
theorem dX5_bitsOfShare_41 : decode cX5_bitsOfShare 41 = .ok (.lsub, 1) := by decide +kernel
theorem dX5_bitsOfShare_42 : decode cX5_bitsOfShare 42 = .ok (.lstore 4, 2) := by decide +kernel
theorem dX5_bitsOfShare_44 : decode cX5_bitsOfShare 44 = .ok (.iinc 6 1, 3) := by decide +kernel
theorem dX5_bitsOfShare_47 : decode cX5_bitsOfShare 47 = .ok (.goto (-29), 3) := by decide +kernel
theorem dX5_bitsOfShare_50 : decode cX5_bitsOfShare 50 = .ok (.lload 4, 2) := by decide +kernel
theorem dX5_bitsOfShare_52 : decode cX5_bitsOfShare 52 = .ok (.bipush 52, 2) := by decide +kernel
theorem dX5_bitsOfShare_54 : decode cX5_bitsOfShare 54 = .ok (.lshl, 1) := by decide +kernel
theorem dX5_bitsOfShare_55 : decode cX5_bitsOfShare 55 = .ok (.dload_n 2, 1) := by decide +kernel
theorem dX5_bitsOfShare_56 : decode cX5_bitsOfShare 56 = .ok (.dconst 1, 1) := by decide +kernel
theorem dX5_bitsOfShare_57 : decode cX5_bitsOfShare 57 = .ok (.dsub, 1) := by decide +kernel
theorem dX5_bitsOfShare_58 : decode cX5_bitsOfShare 58 = .ok (.ldc2_w 330, 3) := by decide +kernel
theorem dX5_bitsOfShare_61 : decode cX5_bitsOfShare 61 = .ok (.dmul, 1) := by decide +kernel
theorem dX5_bitsOfShare_62 : decode cX5_bitsOfShare 62 = .ok (.d2l, 1) := by decide +kernel
theorem dX5_bitsOfShare_63 : decode cX5_bitsOfShare 63 = .ok (.ladd, 1) := by decide +kernel
theorem dX5_bitsOfShare_64 : decode cX5_bitsOfShare 64 = .ok (.lreturn, 1) := by decide +kernel
theorem dX5_isLetter_0 : decode cX5_isLetter 0 = .ok (.iload_n 0, 1) := by decide +kernel
theorem dX5_isLetter_1 : decode cX5_isLetter 1 = .ok (.ifCond .lt 13, 3) := by decide +kernel
theorem dX5_isLetter_4 : decode cX5_isLetter 4 = .ok (.iload_n 0, 1) := by decide +kernel
theorem dX5_isLetter_5 : decode cX5_isLetter 5 = .ok (.bipush 8, 2) := by decide +kernel
theorem dX5_isLetter_7 : decode cX5_isLetter 7 = .ok (.if_icmp .ge 7, 3) := by decide +kernel
theorem dX5_isLetter_10 : decode cX5_isLetter 10 = .ok (.iconst 1, 1) := by decide +kernel
theorem dX5_isLetter_11 : decode cX5_isLetter 11 = .ok (.goto 4, 3) := by decide +kernel
theorem dX5_isLetter_14 : decode cX5_isLetter 14 = .ok (.iconst 0, 1) := by decide +kernel
theorem dX5_isLetter_15 : decode cX5_isLetter 15 = .ok (.ireturn, 1) := by decide +kernel
theorem dX5_isLetterOrNone_0 : decode cX5_isLetterOrNone 0 = .ok (.iload_n 0, 1) := by decide +kernel
theorem dX5_isLetterOrNone_1 : decode cX5_isLetterOrNone 1 = .ok (.iconst (-1), 1) := by decide +kernel
theorem dX5_isLetterOrNone_2 : decode cX5_isLetterOrNone 2 = .ok (.if_icmp .eq 10, 3) := by decide +kernel
theorem dX5_isLetterOrNone_5 : decode cX5_isLetterOrNone 5 = .ok (.iload_n 0, 1) := by decide +kernel
theorem dX5_isLetterOrNone_6 : decode cX5_isLetterOrNone 6 = .ok (.invokestatic 30, 3) := by decide +kernel
theorem dX5_isLetterOrNone_9 : decode cX5_isLetterOrNone 9 = .ok (.ifCond .eq 7, 3) := by decide +kernel
theorem dX5_isLetterOrNone_12 : decode cX5_isLetterOrNone 12 = .ok (.iconst 1, 1) := by decide +kernel
theorem dX5_isLetterOrNone_13 : decode cX5_isLetterOrNone 13 = .ok (.goto 4, 3) := by decide +kernel
theorem dX5_isLetterOrNone_16 : decode cX5_isLetterOrNone 16 = .ok (.iconst 0, 1) := by decide +kernel
theorem dX5_isLetterOrNone_17 : decode cX5_isLetterOrNone 17 = .ok (.ireturn, 1) := by decide +kernel
theorem dX5_isNumber_0 : decode cX5_isNumber 0 = .ok (.iload_n 0, 1) := by decide +kernel
theorem dX5_isNumber_1 : decode cX5_isNumber 1 = .ok (.ifCond .lt 13, 3) := by decide +kernel
theorem dX5_isNumber_4 : decode cX5_isNumber 4 = .ok (.iload_n 0, 1) := by decide +kernel
theorem dX5_isNumber_5 : decode cX5_isNumber 5 = .ok (.bipush 99, 2) := by decide +kernel
theorem dX5_isNumber_7 : decode cX5_isNumber 7 = .ok (.if_icmp .gt 7, 3) := by decide +kernel
theorem dX5_isNumber_10 : decode cX5_isNumber 10 = .ok (.iconst 1, 1) := by decide +kernel
theorem dX5_isNumber_11 : decode cX5_isNumber 11 = .ok (.goto 4, 3) := by decide +kernel
theorem dX5_isNumber_14 : decode cX5_isNumber 14 = .ok (.iconst 0, 1) := by decide +kernel
theorem dX5_isNumber_15 : decode cX5_isNumber 15 = .ok (.ireturn, 1) := by decide +kernel
theorem dX5_isValue_0 : decode cX5_isValue 0 = .ok (.iload_n 0, 1) := by decide +kernel
theorem dX5_isValue_1 : decode cX5_isValue 1 = .ok (.ifCond .lt 14, 3) := by decide +kernel
theorem dX5_isValue_4 : decode cX5_isValue 4 = .ok (.iload_n 0, 1) := by decide +kernel
theorem dX5_isValue_5 : decode cX5_isValue 5 = .ok (.ldc_w 332, 3) := by decide +kernel
theorem dX5_isValue_8 : decode cX5_isValue 8 = .ok (.if_icmp .gt 7, 3) := by decide +kernel
theorem dX5_isValue_11 : decode cX5_isValue 11 = .ok (.iconst 1, 1) := by decide +kernel
theorem dX5_isValue_12 : decode cX5_isValue 12 = .ok (.goto 4, 3) := by decide +kernel
theorem dX5_isValue_15 : decode cX5_isValue 15 = .ok (.iconst 0, 1) := by decide +kernel
theorem dX5_isValue_16 : decode cX5_isValue 16 = .ok (.ireturn, 1) := by decide +kernel
theorem dX5_isReader_0 : decode cX5_isReader 0 = .ok (.iload_n 0, 1) := by decide +kernel
theorem dX5_isReader_1 : decode cX5_isReader 1 = .ok (.ifCond .lt 12, 3) := by decide +kernel
theorem dX5_isReader_4 : decode cX5_isReader 4 = .ok (.iload_n 0, 1) := by decide +kernel
theorem dX5_isReader_5 : decode cX5_isReader 5 = .ok (.iconst 4, 1) := by decide +kernel
theorem dX5_isReader_6 : decode cX5_isReader 6 = .ok (.if_icmp .ge 7, 3) := by decide +kernel
theorem dX5_isReader_9 : decode cX5_isReader 9 = .ok (.iconst 1, 1) := by decide +kernel
theorem dX5_isReader_10 : decode cX5_isReader 10 = .ok (.goto 4, 3) := by decide +kernel
theorem dX5_isReader_13 : decode cX5_isReader 13 = .ok (.iconst 0, 1) := by decide +kernel
theorem dX5_isReader_14 : decode cX5_isReader 14 = .ok (.ireturn, 1) := by decide +kernel
theorem dX5_at_0 : decode cX5_at 0 = .ok (.iload_n 1, 1) := by decide +kernel
theorem dX5_at_1 : decode cX5_at 1 = .ok (.ifCond .lt 15, 3) := by decide +kernel
theorem dX5_at_4 : decode cX5_at 4 = .ok (.iload_n 1, 1) := by decide +kernel
theorem dX5_at_5 : decode cX5_at 5 = .ok (.aload_n 0, 1) := by decide +kernel
theorem dX5_at_6 : decode cX5_at 6 = .ok (.arraylength, 1) := by decide +kernel
theorem dX5_at_7 : decode cX5_at 7 = .ok (.if_icmp .ge 9, 3) := by decide +kernel
theorem dX5_at_10 : decode cX5_at 10 = .ok (.aload_n 0, 1) := by decide +kernel
theorem dX5_at_11 : decode cX5_at 11 = .ok (.iload_n 1, 1) := by decide +kernel
theorem dX5_at_12 : decode cX5_at 12 = .ok (.iaload, 1) := by decide +kernel
theorem dX5_at_13 : decode cX5_at 13 = .ok (.goto 4, 3) := by decide +kernel
theorem dX5_at_16 : decode cX5_at 16 = .ok (.iconst (-1), 1) := by decide +kernel
theorem dX5_at_17 : decode cX5_at 17 = .ok (.ireturn, 1) := by decide +kernel
theorem dX5_put_0 : decode cX5_put 0 = .ok (.iload_n 1, 1) := by decide +kernel
theorem dX5_put_1 : decode cX5_put 1 = .ok (.ifCond .lt 13, 3) := by decide +kernel
theorem dX5_put_4 : decode cX5_put 4 = .ok (.iload_n 1, 1) := by decide +kernel
theorem dX5_put_5 : decode cX5_put 5 = .ok (.aload_n 0, 1) := by decide +kernel
theorem dX5_put_6 : decode cX5_put 6 = .ok (.arraylength, 1) := by decide +kernel
theorem dX5_put_7 : decode cX5_put 7 = .ok (.if_icmp .ge 7, 3) := by decide +kernel
theorem dX5_put_10 : decode cX5_put 10 = .ok (.aload_n 0, 1) := by decide +kernel
theorem dX5_put_11 : decode cX5_put 11 = .ok (.iload_n 1, 1) := by decide +kernel
theorem dX5_put_12 : decode cX5_put 12 = .ok (.iload_n 2, 1) := by decide +kernel
theorem dX5_put_13 : decode cX5_put 13 = .ok (.iastore, 1) := by decide +kernel
theorem dX5_put_14 : decode cX5_put 14 = .ok (.return_, 1) := by decide +kernel
theorem dX5_copyAll_0 : decode cX5_copyAll 0 = .ok (.aload_n 0, 1) := by decide +kernel
theorem dX5_copyAll_1 : decode cX5_copyAll 1 = .ok (.iconst 0, 1) := by decide +kernel
theorem dX5_copyAll_2 : decode cX5_copyAll 2 = .ok (.aload_n 1, 1) := by decide +kernel
theorem dX5_copyAll_3 : decode cX5_copyAll 3 = .ok (.iconst 0, 1) := by decide +kernel
theorem dX5_copyAll_4 : decode cX5_copyAll 4 = .ok (.aload_n 0, 1) := by decide +kernel
theorem dX5_copyAll_5 : decode cX5_copyAll 5 = .ok (.arraylength, 1) := by decide +kernel
theorem dX5_copyAll_6 : decode cX5_copyAll 6 = .ok (.aload_n 1, 1) := by decide +kernel
theorem dX5_copyAll_7 : decode cX5_copyAll 7 = .ok (.arraylength, 1) := by decide +kernel
theorem dX5_copyAll_8 : decode cX5_copyAll 8 = .ok (.invokestatic 333, 3) := by decide +kernel
theorem dX5_copyAll_11 : decode cX5_copyAll 11 = .ok (.invokestatic 338, 3) := by decide +kernel
theorem dX5_copyAll_14 : decode cX5_copyAll 14 = .ok (.return_, 1) := by decide +kernel
theorem dX6_init_0 : decode cX6_init 0 = .ok (.aload_n 0, 1) := by decide +kernel
theorem dX6_init_1 : decode cX6_init 1 = .ok (.invokespecial 1, 3) := by decide +kernel
theorem dX6_init_4 : decode cX6_init 4 = .ok (.aload_n 0, 1) := by decide +kernel
theorem dX6_init_5 : decode cX6_init 5 = .ok (.sipush 370, 3) := by decide +kernel
theorem dX6_init_8 : decode cX6_init 8 = .ok (.newarray .int, 2) := by decide +kernel
theorem dX6_init_10 : decode cX6_init 10 = .ok (.putfield 7, 3) := by decide +kernel
theorem dX6_init_13 : decode cX6_init 13 = .ok (.aload_n 0, 1) := by decide +kernel
theorem dX6_init_14 : decode cX6_init 14 = .ok (.sipush 2220, 3) := by decide +kernel
theorem dX6_init_17 : decode cX6_init 17 = .ok (.newarray .int, 2) := by decide +kernel
theorem dX6_init_19 : decode cX6_init 19 = .ok (.putfield 13, 3) := by decide +kernel
theorem dX6_init_22 : decode cX6_init 22 = .ok (.aload_n 0, 1) := by decide +kernel
theorem dX6_init_23 : decode cX6_init 23 = .ok (.bipush 60, 2) := by decide +kernel
theorem dX6_init_25 : decode cX6_init 25 = .ok (.newarray .int, 2) := by decide +kernel
theorem dX6_init_27 : decode cX6_init 27 = .ok (.putfield 16, 3) := by decide +kernel
theorem dX6_init_30 : decode cX6_init 30 = .ok (.aload_n 0, 1) := by decide +kernel
theorem dX6_init_31 : decode cX6_init 31 = .ok (.bipush 10, 2) := by decide +kernel
theorem dX6_init_33 : decode cX6_init 33 = .ok (.newarray .int, 2) := by decide +kernel
theorem dX6_init_35 : decode cX6_init 35 = .ok (.putfield 19, 3) := by decide +kernel
theorem dX6_init_38 : decode cX6_init 38 = .ok (.aload_n 0, 1) := by decide +kernel
theorem dX6_init_39 : decode cX6_init 39 = .ok (.sipush 256, 3) := by decide +kernel
theorem dX6_init_42 : decode cX6_init 42 = .ok (.newarray .int, 2) := by decide +kernel
theorem dX6_init_44 : decode cX6_init 44 = .ok (.putfield 22, 3) := by decide +kernel
theorem dX6_init_47 : decode cX6_init 47 = .ok (.aload_n 0, 1) := by decide +kernel
theorem dX6_init_48 : decode cX6_init 48 = .ok (.iconst 0, 1) := by decide +kernel
theorem dX6_init_49 : decode cX6_init 49 = .ok (.putfield 25, 3) := by decide +kernel
theorem dX6_init_52 : decode cX6_init 52 = .ok (.aload_n 0, 1) := by decide +kernel
theorem dX6_init_53 : decode cX6_init 53 = .ok (.getfield 7, 3) := by decide +kernel
theorem dX6_init_56 : decode cX6_init 56 = .ok (.iconst 0, 1) := by decide +kernel
theorem dX6_init_57 : decode cX6_init 57 = .ok (.iconst 1, 1) := by decide +kernel
theorem dX6_init_58 : decode cX6_init 58 = .ok (.iastore, 1) := by decide +kernel
theorem dX6_init_59 : decode cX6_init 59 = .ok (.return_, 1) := by decide +kernel
theorem dX6_thrown_0 : decode cX6_thrown 0 = .ok (.aload_n 0, 1) := by decide +kernel
theorem dX6_thrown_1 : decode cX6_thrown 1 = .ok (.getfield 25, 3) := by decide +kernel
theorem dX6_thrown_4 : decode cX6_thrown 4 = .ok (.ireturn, 1) := by decide +kernel
theorem dX6_in_0 : decode cX6_in 0 = .ok (.iload_n 0, 1) := by decide +kernel
theorem dX6_in_1 : decode cX6_in 1 = .ok (.iload_n 1, 1) := by decide +kernel
theorem dX6_in_2 : decode cX6_in 2 = .ok (.if_icmp .lt 12, 3) := by decide +kernel
theorem dX6_in_5 : decode cX6_in 5 = .ok (.iload_n 0, 1) := by decide +kernel
theorem dX6_in_6 : decode cX6_in 6 = .ok (.iload_n 2, 1) := by decide +kernel
theorem dX6_in_7 : decode cX6_in 7 = .ok (.if_icmp .gt 7, 3) := by decide +kernel
theorem dX6_in_10 : decode cX6_in 10 = .ok (.iconst 1, 1) := by decide +kernel
theorem dX6_in_11 : decode cX6_in 11 = .ok (.goto 4, 3) := by decide +kernel
theorem dX6_in_14 : decode cX6_in 14 = .ok (.iconst 0, 1) := by decide +kernel
theorem dX6_in_15 : decode cX6_in 15 = .ok (.ireturn, 1) := by decide +kernel
theorem dX6_fails_0 : decode cX6_fails 0 = .ok (.aload_n 0, 1) := by decide +kernel
theorem dX6_fails_1 : decode cX6_fails 1 = .ok (.iload_n 1, 1) := by decide +kernel
theorem dX6_fails_2 : decode cX6_fails 2 = .ok (.putfield 25, 3) := by decide +kernel
theorem dX6_fails_5 : decode cX6_fails 5 = .ok (.iconst 0, 1) := by decide +kernel
theorem dX6_fails_6 : decode cX6_fails 6 = .ok (.ireturn, 1) := by decide +kernel
theorem dX6_saves_0 : decode cX6_saves 0 = .ok (.aload_n 0, 1) := by decide +kernel
theorem dX6_saves_1 : decode cX6_saves 1 = .ok (.getfield 29, 3) := by decide +kernel
theorem dX6_saves_4 : decode cX6_saves 4 = .ok (.bipush 6, 2) := by decide +kernel
theorem dX6_saves_6 : decode cX6_saves 6 = .ok (.if_icmp .ne 44, 3) := by decide +kernel
theorem dX6_saves_9 : decode cX6_saves 9 = .ok (.iconst 0, 1) := by decide +kernel
theorem dX6_saves_10 : decode cX6_saves 10 = .ok (.istore_n 1, 1) := by decide +kernel
theorem dX6_saves_11 : decode cX6_saves 11 = .ok (.iload_n 1, 1) := by decide +kernel
theorem dX6_saves_12 : decode cX6_saves 12 = .ok (.sipush 1850, 3) := by decide +kernel
theorem dX6_saves_15 : decode cX6_saves 15 = .ok (.if_icmp .ge 25, 3) := by decide +kernel
theorem dX6_saves_18 : decode cX6_saves 18 = .ok (.aload_n 0, 1) := by decide +kernel
theorem dX6_saves_19 : decode cX6_saves 19 = .ok (.getfield 13, 3) := by decide +kernel
theorem dX6_saves_22 : decode cX6_saves 22 = .ok (.iload_n 1, 1) := by decide +kernel
theorem dX6_saves_23 : decode cX6_saves 23 = .ok (.aload_n 0, 1) := by decide +kernel
theorem dX6_saves_24 : decode cX6_saves 24 = .ok (.getfield 13, 3) := by decide +kernel
theorem dX6_saves_27 : decode cX6_saves 27 = .ok (.iload_n 1, 1) := by decide +kernel
theorem dX6_saves_28 : decode cX6_saves 28 = .ok (.sipush 370, 3) := by decide +kernel
theorem dX6_saves_31 : decode cX6_saves 31 = .ok (.iadd, 1) := by decide +kernel
theorem dX6_saves_32 : decode cX6_saves 32 = .ok (.iaload, 1) := by decide +kernel
theorem dX6_saves_33 : decode cX6_saves 33 = .ok (.iastore, 1) := by decide +kernel
theorem dX6_saves_34 : decode cX6_saves 34 = .ok (.iinc 1 1, 3) := by decide +kernel
theorem dX6_saves_37 : decode cX6_saves 37 = .ok (.goto (-26), 3) := by decide +kernel
theorem dX6_saves_40 : decode cX6_saves 40 = .ok (.aload_n 0, 1) := by decide +kernel
theorem dX6_saves_41 : decode cX6_saves 41 = .ok (.dup, 1) := by decide +kernel
theorem dX6_saves_42 : decode cX6_saves 42 = .ok (.getfield 29, 3) := by decide +kernel
theorem dX6_saves_45 : decode cX6_saves 45 = .ok (.iconst 1, 1) := by decide +kernel
theorem dX6_saves_46 : decode cX6_saves 46 = .ok (.isub, 1) := by decide +kernel
theorem dX6_saves_47 : decode cX6_saves 47 = .ok (.putfield 29, 3) := by decide +kernel
theorem dX6_saves_50 : decode cX6_saves 50 = .ok (.iconst 0, 1) := by decide +kernel
theorem dX6_saves_51 : decode cX6_saves 51 = .ok (.istore_n 1, 1) := by decide +kernel
theorem dX6_saves_52 : decode cX6_saves 52 = .ok (.iload_n 1, 1) := by decide +kernel
theorem dX6_saves_53 : decode cX6_saves 53 = .ok (.sipush 370, 3) := by decide +kernel
theorem dX6_saves_56 : decode cX6_saves 56 = .ok (.if_icmp .ge 30, 3) := by decide +kernel
theorem dX6_saves_59 : decode cX6_saves 59 = .ok (.aload_n 0, 1) := by decide +kernel
theorem dX6_saves_60 : decode cX6_saves 60 = .ok (.getfield 13, 3) := by decide +kernel
theorem dX6_saves_63 : decode cX6_saves 63 = .ok (.sipush 370, 3) := by decide +kernel
theorem dX6_saves_66 : decode cX6_saves 66 = .ok (.aload_n 0, 1) := by decide +kernel
theorem dX6_saves_67 : decode cX6_saves 67 = .ok (.getfield 29, 3) := by decide +kernel
theorem dX6_saves_70 : decode cX6_saves 70 = .ok (.imul, 1) := by decide +kernel
theorem dX6_saves_71 : decode cX6_saves 71 = .ok (.iload_n 1, 1) := by decide +kernel
theorem dX6_saves_72 : decode cX6_saves 72 = .ok (.iadd, 1) := by decide +kernel
theorem dX6_saves_73 : decode cX6_saves 73 = .ok (.aload_n 0, 1) := by decide +kernel
theorem dX6_saves_74 : decode cX6_saves 74 = .ok (.getfield 7, 3) := by decide +kernel
theorem dX6_saves_77 : decode cX6_saves 77 = .ok (.iload_n 1, 1) := by decide +kernel
theorem dX6_saves_78 : decode cX6_saves 78 = .ok (.iaload, 1) := by decide +kernel
theorem dX6_saves_79 : decode cX6_saves 79 = .ok (.iastore, 1) := by decide +kernel
theorem dX6_saves_80 : decode cX6_saves 80 = .ok (.iinc 1 1, 3) := by decide +kernel
theorem dX6_saves_83 : decode cX6_saves 83 = .ok (.goto (-31), 3) := by decide +kernel
theorem dX6_saves_86 : decode cX6_saves 86 = .ok (.aload_n 0, 1) := by decide +kernel
theorem dX6_saves_87 : decode cX6_saves 87 = .ok (.dup, 1) := by decide +kernel
theorem dX6_saves_88 : decode cX6_saves 88 = .ok (.getfield 29, 3) := by decide +kernel
theorem dX6_saves_91 : decode cX6_saves 91 = .ok (.iconst 1, 1) := by decide +kernel
theorem dX6_saves_92 : decode cX6_saves 92 = .ok (.iadd, 1) := by decide +kernel
theorem dX6_saves_93 : decode cX6_saves 93 = .ok (.putfield 29, 3) := by decide +kernel
theorem dX6_saves_96 : decode cX6_saves 96 = .ok (.return_, 1) := by decide +kernel
theorem dX6_get_0 : decode cX6_get 0 = .ok (.aload_n 0, 1) := by decide +kernel
theorem dX6_get_1 : decode cX6_get 1 = .ok (.getfield 7, 3) := by decide +kernel
theorem dX6_get_4 : decode cX6_get 4 = .ok (.bipush 10, 2) := by decide +kernel
theorem dX6_get_6 : decode cX6_get 6 = .ok (.bipush 20, 2) := by decide +kernel
theorem dX6_get_8 : decode cX6_get 8 = .ok (.iload_n 1, 1) := by decide +kernel
theorem dX6_get_9 : decode cX6_get 9 = .ok (.imul, 1) := by decide +kernel
theorem dX6_get_10 : decode cX6_get 10 = .ok (.iadd, 1) := by decide +kernel
theorem dX6_get_11 : decode cX6_get 11 = .ok (.iload_n 2, 1) := by decide +kernel
theorem dX6_get_12 : decode cX6_get 12 = .ok (.iadd, 1) := by decide +kernel
theorem dX6_get_13 : decode cX6_get 13 = .ok (.iaload, 1) := by decide +kernel
theorem dX6_get_14 : decode cX6_get 14 = .ok (.ireturn, 1) := by decide +kernel
theorem dX6_lay_0 : decode cX6_lay 0 = .ok (.aload_n 0, 1) := by decide +kernel
theorem dX6_lay_1 : decode cX6_lay 1 = .ok (.getfield 7, 3) := by decide +kernel
theorem dX6_lay_4 : decode cX6_lay 4 = .ok (.bipush 10, 2) := by decide +kernel
theorem dX6_lay_6 : decode cX6_lay 6 = .ok (.bipush 20, 2) := by decide +kernel
theorem dX6_lay_8 : decode cX6_lay 8 = .ok (.iload_n 1, 1) := by decide +kernel
theorem dX6_lay_9 : decode cX6_lay 9 = .ok (.imul, 1) := by decide +kernel
theorem dX6_lay_10 : decode cX6_lay 10 = .ok (.iadd, 1) := by decide +kernel
theorem dX6_lay_11 : decode cX6_lay 11 = .ok (.iload_n 2, 1) := by decide +kernel
theorem dX6_lay_12 : decode cX6_lay 12 = .ok (.iadd, 1) := by decide +kernel
theorem dX6_lay_13 : decode cX6_lay 13 = .ok (.iload_n 3, 1) := by decide +kernel
theorem dX6_lay_14 : decode cX6_lay 14 = .ok (.iastore, 1) := by decide +kernel
theorem dX6_lay_15 : decode cX6_lay 15 = .ok (.return_, 1) := by decide +kernel
theorem dX6_newest_0 : decode cX6_newest 0 = .ok (.aload_n 0, 1) := by decide +kernel
theorem dX6_newest_1 : decode cX6_newest 1 = .ok (.getfield 7, 3) := by decide +kernel
theorem dX6_newest_4 : decode cX6_newest 4 = .ok (.iconst 0, 1) := by decide +kernel
theorem dX6_newest_5 : decode cX6_newest 5 = .ok (.iaload, 1) := by decide +kernel
theorem dX6_newest_6 : decode cX6_newest 6 = .ok (.iconst 1, 1) := by decide +kernel
theorem dX6_newest_7 : decode cX6_newest 7 = .ok (.isub, 1) := by decide +kernel
theorem dX6_newest_8 : decode cX6_newest 8 = .ok (.ireturn, 1) := by decide +kernel
theorem dX6_isLetter_0 : decode cX6_isLetter 0 = .ok (.iload_n 0, 1) := by decide +kernel
theorem dX6_isLetter_1 : decode cX6_isLetter 1 = .ok (.iconst 0, 1) := by decide +kernel
theorem dX6_isLetter_2 : decode cX6_isLetter 2 = .ok (.bipush 7, 2) := by decide +kernel
theorem dX6_isLetter_4 : decode cX6_isLetter 4 = .ok (.invokestatic 32, 3) := by decide +kernel
theorem dX6_isLetter_7 : decode cX6_isLetter 7 = .ok (.ireturn, 1) := by decide +kernel
theorem dX6_isShape_0 : decode cX6_isShape 0 = .ok (.iload_n 1, 1) := by decide +kernel
theorem dX6_isShape_1 : decode cX6_isShape 1 = .ok (.iconst 0, 1) := by decide +kernel
theorem dX6_isShape_2 : decode cX6_isShape 2 = .ok (.aload_n 0, 1) := by decide +kernel
theorem dX6_isShape_3 : decode cX6_isShape 3 = .ok (.getfield 7, 3) := by decide +kernel
theorem dX6_isShape_6 : decode cX6_isShape 6 = .ok (.iconst 0, 1) := by decide +kernel
theorem dX6_isShape_7 : decode cX6_isShape 7 = .ok (.iaload, 1) := by decide +kernel
theorem dX6_isShape_8 : decode cX6_isShape 8 = .ok (.iconst 1, 1) := by decide +kernel
theorem dX6_isShape_9 : decode cX6_isShape 9 = .ok (.isub, 1) := by decide +kernel
theorem dX6_isShape_10 : decode cX6_isShape 10 = .ok (.invokestatic 32, 3) := by decide +kernel
theorem dX6_isShape_13 : decode cX6_isShape 13 = .ok (.ireturn, 1) := by decide +kernel
theorem dX6_isInUse_0 : decode cX6_isInUse 0 = .ok (.iload_n 1, 1) := by decide +kernel
theorem dX6_isInUse_1 : decode cX6_isInUse 1 = .ok (.aload_n 0, 1) := by decide +kernel
theorem dX6_isInUse_2 : decode cX6_isInUse 2 = .ok (.getfield 7, 3) := by decide +kernel
theorem dX6_isInUse_5 : decode cX6_isInUse 5 = .ok (.iconst 1, 1) := by decide +kernel
theorem dX6_isInUse_6 : decode cX6_isInUse 6 = .ok (.iaload, 1) := by decide +kernel
theorem dX6_isInUse_7 : decode cX6_isInUse 7 = .ok (.aload_n 0, 1) := by decide +kernel
theorem dX6_isInUse_8 : decode cX6_isInUse 8 = .ok (.getfield 7, 3) := by decide +kernel
theorem dX6_isInUse_11 : decode cX6_isInUse 11 = .ok (.iconst 0, 1) := by decide +kernel
theorem dX6_isInUse_12 : decode cX6_isInUse 12 = .ok (.iaload, 1) := by decide +kernel
theorem dX6_isInUse_13 : decode cX6_isInUse 13 = .ok (.iconst 1, 1) := by decide +kernel
theorem dX6_isInUse_14 : decode cX6_isInUse 14 = .ok (.isub, 1) := by decide +kernel
theorem dX6_isInUse_15 : decode cX6_isInUse 15 = .ok (.invokestatic 32, 3) := by decide +kernel
theorem dX6_isInUse_18 : decode cX6_isInUse 18 = .ok (.ireturn, 1) := by decide +kernel
theorem dX6_placeOf_0 : decode cX6_placeOf 0 = .ok (.iconst 0, 1) := by decide +kernel
theorem dX6_placeOf_1 : decode cX6_placeOf 1 = .ok (.istore_n 3, 1) := by decide +kernel
theorem dX6_placeOf_2 : decode cX6_placeOf 2 = .ok (.iload_n 3, 1) := by decide +kernel
theorem dX6_placeOf_3 : decode cX6_placeOf 3 = .ok (.aload_n 0, 1) := by decide +kernel
theorem dX6_placeOf_4 : decode cX6_placeOf 4 = .ok (.iload_n 1, 1) := by decide +kernel
theorem dX6_placeOf_5 : decode cX6_placeOf 5 = .ok (.iconst 0, 1) := by decide +kernel
theorem dX6_placeOf_6 : decode cX6_placeOf 6 = .ok (.invokevirtual 36, 3) := by decide +kernel
theorem dX6_placeOf_9 : decode cX6_placeOf 9 = .ok (.if_icmp .ge 24, 3) := by decide +kernel
theorem dX6_placeOf_12 : decode cX6_placeOf 12 = .ok (.aload_n 0, 1) := by decide +kernel
theorem dX6_placeOf_13 : decode cX6_placeOf 13 = .ok (.iload_n 1, 1) := by decide +kernel
theorem dX6_placeOf_14 : decode cX6_placeOf 14 = .ok (.bipush 9, 2) := by decide +kernel
theorem dX6_placeOf_16 : decode cX6_placeOf 16 = .ok (.iload_n 3, 1) := by decide +kernel
theorem dX6_placeOf_17 : decode cX6_placeOf 17 = .ok (.iadd, 1) := by decide +kernel
theorem dX6_placeOf_18 : decode cX6_placeOf 18 = .ok (.invokevirtual 36, 3) := by decide +kernel
theorem dX6_placeOf_21 : decode cX6_placeOf 21 = .ok (.iload_n 2, 1) := by decide +kernel
theorem dX6_placeOf_22 : decode cX6_placeOf 22 = .ok (.if_icmp .ne 5, 3) := by decide +kernel
theorem dX6_placeOf_25 : decode cX6_placeOf 25 = .ok (.iload_n 3, 1) := by decide +kernel
theorem dX6_placeOf_26 : decode cX6_placeOf 26 = .ok (.ireturn, 1) := by decide +kernel
theorem dX6_placeOf_27 : decode cX6_placeOf 27 = .ok (.iinc 3 1, 3) := by decide +kernel
theorem dX6_placeOf_30 : decode cX6_placeOf 30 = .ok (.goto (-28), 3) := by decide +kernel
theorem dX6_placeOf_33 : decode cX6_placeOf 33 = .ok (.iconst (-1), 1) := by decide +kernel
theorem dX6_placeOf_34 : decode cX6_placeOf 34 = .ok (.ireturn, 1) := by decide +kernel
theorem dX6_placeOfColumn_0 : decode cX6_placeOfColumn 0 = .ok (.iconst 0, 1) := by decide +kernel
theorem dX6_placeOfColumn_1 : decode cX6_placeOfColumn 1 = .ok (.istore_n 3, 1) := by decide +kernel
theorem dX6_placeOfColumn_2 : decode cX6_placeOfColumn 2 = .ok (.iload_n 3, 1) := by decide +kernel
theorem dX6_placeOfColumn_3 : decode cX6_placeOfColumn 3 = .ok (.aload_n 0, 1) := by decide +kernel
theorem dX6_placeOfColumn_4 : decode cX6_placeOfColumn 4 = .ok (.iload_n 1, 1) := by decide +kernel
theorem dX6_placeOfColumn_5 : decode cX6_placeOfColumn 5 = .ok (.iconst 0, 1) := by decide +kernel
theorem dX6_placeOfColumn_6 : decode cX6_placeOfColumn 6 = .ok (.invokevirtual 36, 3) := by decide +kernel
theorem dX6_placeOfColumn_9 : decode cX6_placeOfColumn 9 = .ok (.if_icmp .ge 23, 3) := by decide +kernel
theorem dX6_placeOfColumn_12 : decode cX6_placeOfColumn 12 = .ok (.aload_n 0, 1) := by decide +kernel
theorem dX6_placeOfColumn_13 : decode cX6_placeOfColumn 13 = .ok (.iload_n 1, 1) := by decide +kernel
theorem dX6_placeOfColumn_14 : decode cX6_placeOfColumn 14 = .ok (.iconst 1, 1) := by decide +kernel
theorem dX6_placeOfColumn_15 : decode cX6_placeOfColumn 15 = .ok (.iload_n 3, 1) := by decide +kernel
theorem dX6_placeOfColumn_16 : decode cX6_placeOfColumn 16 = .ok (.iadd, 1) := by decide +kernel
theorem dX6_placeOfColumn_17 : decode cX6_placeOfColumn 17 = .ok (.invokevirtual 36, 3) := by decide +kernel
theorem dX6_placeOfColumn_20 : decode cX6_placeOfColumn 20 = .ok (.iload_n 2, 1) := by decide +kernel
theorem dX6_placeOfColumn_21 : decode cX6_placeOfColumn 21 = .ok (.if_icmp .ne 5, 3) := by decide +kernel
theorem dX6_placeOfColumn_24 : decode cX6_placeOfColumn 24 = .ok (.iload_n 3, 1) := by decide +kernel
theorem dX6_placeOfColumn_25 : decode cX6_placeOfColumn 25 = .ok (.ireturn, 1) := by decide +kernel
theorem dX6_placeOfColumn_26 : decode cX6_placeOfColumn 26 = .ok (.iinc 3 1, 3) := by decide +kernel
theorem dX6_placeOfColumn_29 : decode cX6_placeOfColumn 29 = .ok (.goto (-27), 3) := by decide +kernel
theorem dX6_placeOfColumn_32 : decode cX6_placeOfColumn 32 = .ok (.iconst (-1), 1) := by decide +kernel
theorem dX6_placeOfColumn_33 : decode cX6_placeOfColumn 33 = .ok (.ireturn, 1) := by decide +kernel
theorem dX6_comes_0 : decode cX6_comes 0 = .ok (.aload_n 0, 1) := by decide +kernel
theorem dX6_comes_1 : decode cX6_comes 1 = .ok (.getfield 7, 3) := by decide +kernel
theorem dX6_comes_4 : decode cX6_comes 4 = .ok (.iconst 0, 1) := by decide +kernel
theorem dX6_comes_5 : decode cX6_comes 5 = .ok (.iaload, 1) := by decide +kernel
theorem dX6_comes_6 : decode cX6_comes 6 = .ok (.istore 4, 2) := by decide +kernel
theorem dX6_comes_8 : decode cX6_comes 8 = .ok (.iconst 0, 1) := by decide +kernel
theorem dX6_comes_9 : decode cX6_comes 9 = .ok (.istore 5, 2) := by decide +kernel
theorem dX6_comes_11 : decode cX6_comes 11 = .ok (.iload 5, 2) := by decide +kernel
theorem dX6_comes_13 : decode cX6_comes 13 = .ok (.bipush 20, 2) := by decide +kernel
theorem dX6_comes_15 : decode cX6_comes 15 = .ok (.if_icmp .ge 27, 3) := by decide +kernel
theorem dX6_comes_18 : decode cX6_comes 18 = .ok (.aload_n 0, 1) := by decide +kernel
theorem dX6_comes_19 : decode cX6_comes 19 = .ok (.iload 4, 2) := by decide +kernel
theorem dX6_comes_21 : decode cX6_comes 21 = .ok (.iload 5, 2) := by decide +kernel
theorem dX6_comes_23 : decode cX6_comes 23 = .ok (.aload_n 0, 1) := by decide +kernel
theorem dX6_comes_24 : decode cX6_comes 24 = .ok (.iload 4, 2) := by decide +kernel
theorem dX6_comes_26 : decode cX6_comes 26 = .ok (.iconst 1, 1) := by decide +kernel
theorem dX6_comes_27 : decode cX6_comes 27 = .ok (.isub, 1) := by decide +kernel
theorem dX6_comes_28 : decode cX6_comes 28 = .ok (.iload 5, 2) := by decide +kernel
theorem dX6_comes_30 : decode cX6_comes 30 = .ok (.invokevirtual 36, 3) := by decide +kernel
theorem dX6_comes_33 : decode cX6_comes 33 = .ok (.invokevirtual 40, 3) := by decide +kernel
theorem dX6_comes_36 : decode cX6_comes 36 = .ok (.iinc 5 1, 3) := by decide +kernel
theorem dX6_comes_39 : decode cX6_comes 39 = .ok (.goto (-28), 3) := by decide +kernel
theorem dX6_comes_42 : decode cX6_comes 42 = .ok (.aload_n 0, 1) := by decide +kernel
theorem dX6_comes_43 : decode cX6_comes 43 = .ok (.iload 4, 2) := by decide +kernel
theorem dX6_comes_45 : decode cX6_comes 45 = .ok (.bipush 17, 2) := by decide +kernel
theorem dX6_comes_47 : decode cX6_comes 47 = .ok (.iload_n 1, 1) := by decide +kernel
theorem dX6_comes_48 : decode cX6_comes 48 = .ok (.invokevirtual 40, 3) := by decide +kernel
theorem dX6_comes_51 : decode cX6_comes 51 = .ok (.aload_n 0, 1) := by decide +kernel
theorem dX6_comes_52 : decode cX6_comes 52 = .ok (.iload 4, 2) := by decide +kernel
theorem dX6_comes_54 : decode cX6_comes 54 = .ok (.bipush 18, 2) := by decide +kernel
theorem dX6_comes_56 : decode cX6_comes 56 = .ok (.iload_n 2, 1) := by decide +kernel
theorem dX6_comes_57 : decode cX6_comes 57 = .ok (.invokevirtual 40, 3) := by decide +kernel
theorem dX6_comes_60 : decode cX6_comes 60 = .ok (.aload_n 0, 1) := by decide +kernel
theorem dX6_comes_61 : decode cX6_comes 61 = .ok (.iload 4, 2) := by decide +kernel
theorem dX6_comes_63 : decode cX6_comes 63 = .ok (.bipush 19, 2) := by decide +kernel
theorem dX6_comes_65 : decode cX6_comes 65 = .ok (.iload_n 3, 1) := by decide +kernel
theorem dX6_comes_66 : decode cX6_comes 66 = .ok (.invokevirtual 40, 3) := by decide +kernel
theorem dX6_comes_69 : decode cX6_comes 69 = .ok (.aload_n 0, 1) := by decide +kernel
theorem dX6_comes_70 : decode cX6_comes 70 = .ok (.getfield 7, 3) := by decide +kernel
theorem dX6_comes_73 : decode cX6_comes 73 = .ok (.iconst 0, 1) := by decide +kernel
theorem dX6_comes_74 : decode cX6_comes 74 = .ok (.dup2, 1) := by decide +kernel
theorem dX6_comes_75 : decode cX6_comes 75 = .ok (.iaload, 1) := by decide +kernel
theorem dX6_comes_76 : decode cX6_comes 76 = .ok (.iconst 1, 1) := by decide +kernel
theorem dX6_comes_77 : decode cX6_comes 77 = .ok (.iadd, 1) := by decide +kernel
theorem dX6_comes_78 : decode cX6_comes 78 = .ok (.iastore, 1) := by decide +kernel
theorem dX6_comes_79 : decode cX6_comes 79 = .ok (.return_, 1) := by decide +kernel
theorem dX6_getsColumn_0 : decode cX6_getsColumn 0 = .ok (.aload_n 0, 1) := by decide +kernel
theorem dX6_getsColumn_1 : decode cX6_getsColumn 1 = .ok (.aload_n 0, 1) := by decide +kernel
theorem dX6_getsColumn_2 : decode cX6_getsColumn 2 = .ok (.invokevirtual 44, 3) := by decide +kernel
theorem dX6_getsColumn_5 : decode cX6_getsColumn 5 = .ok (.iconst 0, 1) := by decide +kernel
theorem dX6_getsColumn_6 : decode cX6_getsColumn 6 = .ok (.invokevirtual 36, 3) := by decide +kernel
theorem dX6_getsColumn_9 : decode cX6_getsColumn 9 = .ok (.istore_n 2, 1) := by decide +kernel
theorem dX6_getsColumn_10 : decode cX6_getsColumn 10 = .ok (.aload_n 0, 1) := by decide +kernel
theorem dX6_getsColumn_11 : decode cX6_getsColumn 11 = .ok (.aload_n 0, 1) := by decide +kernel
theorem dX6_getsColumn_12 : decode cX6_getsColumn 12 = .ok (.invokevirtual 44, 3) := by decide +kernel
theorem dX6_getsColumn_15 : decode cX6_getsColumn 15 = .ok (.iconst 1, 1) := by decide +kernel
theorem dX6_getsColumn_16 : decode cX6_getsColumn 16 = .ok (.iload_n 2, 1) := by decide +kernel
theorem dX6_getsColumn_17 : decode cX6_getsColumn 17 = .ok (.iadd, 1) := by decide +kernel
theorem dX6_getsColumn_18 : decode cX6_getsColumn 18 = .ok (.aload_n 0, 1) := by decide +kernel
theorem dX6_getsColumn_19 : decode cX6_getsColumn 19 = .ok (.invokevirtual 44, 3) := by decide +kernel
theorem dX6_getsColumn_22 : decode cX6_getsColumn 22 = .ok (.invokevirtual 40, 3) := by decide +kernel
theorem dX6_getsColumn_25 : decode cX6_getsColumn 25 = .ok (.aload_n 0, 1) := by decide +kernel
theorem dX6_getsColumn_26 : decode cX6_getsColumn 26 = .ok (.aload_n 0, 1) := by decide +kernel
theorem dX6_getsColumn_27 : decode cX6_getsColumn 27 = .ok (.invokevirtual 44, 3) := by decide +kernel
theorem dX6_getsColumn_30 : decode cX6_getsColumn 30 = .ok (.bipush 9, 2) := by decide +kernel
theorem dX6_getsColumn_32 : decode cX6_getsColumn 32 = .ok (.iload_n 2, 1) := by decide +kernel
theorem dX6_getsColumn_33 : decode cX6_getsColumn 33 = .ok (.iadd, 1) := by decide +kernel
theorem dX6_getsColumn_34 : decode cX6_getsColumn 34 = .ok (.iload_n 1, 1) := by decide +kernel
theorem dX6_getsColumn_35 : decode cX6_getsColumn 35 = .ok (.invokevirtual 40, 3) := by decide +kernel
theorem dX6_getsColumn_38 : decode cX6_getsColumn 38 = .ok (.aload_n 0, 1) := by decide +kernel
theorem dX6_getsColumn_39 : decode cX6_getsColumn 39 = .ok (.aload_n 0, 1) := by decide +kernel
theorem dX6_getsColumn_40 : decode cX6_getsColumn 40 = .ok (.invokevirtual 44, 3) := by decide +kernel
theorem dX6_getsColumn_43 : decode cX6_getsColumn 43 = .ok (.iconst 0, 1) := by decide +kernel
theorem dX6_getsColumn_44 : decode cX6_getsColumn 44 = .ok (.iload_n 2, 1) := by decide +kernel
theorem dX6_getsColumn_45 : decode cX6_getsColumn 45 = .ok (.iconst 1, 1) := by decide +kernel
theorem dX6_getsColumn_46 : decode cX6_getsColumn 46 = .ok (.iadd, 1) := by decide +kernel
theorem dX6_getsColumn_47 : decode cX6_getsColumn 47 = .ok (.invokevirtual 40, 3) := by decide +kernel
theorem dX6_getsColumn_50 : decode cX6_getsColumn 50 = .ok (.return_, 1) := by decide +kernel
theorem dX6_has_0 : decode cX6_has 0 = .ok (.aload_n 0, 1) := by decide +kernel
theorem dX6_has_1 : decode cX6_has 1 = .ok (.aload_n 0, 1) := by decide +kernel
theorem dX6_has_2 : decode cX6_has 2 = .ok (.invokevirtual 44, 3) := by decide +kernel
theorem dX6_has_5 : decode cX6_has 5 = .ok (.iload_n 1, 1) := by decide +kernel
theorem dX6_has_6 : decode cX6_has 6 = .ok (.invokevirtual 48, 3) := by decide +kernel
theorem dX6_has_9 : decode cX6_has 9 = .ok (.iconst (-1), 1) := by decide +kernel
theorem dX6_has_10 : decode cX6_has 10 = .ok (.if_icmp .eq 7, 3) := by decide +kernel
theorem dX6_has_13 : decode cX6_has 13 = .ok (.iconst 1, 1) := by decide +kernel
theorem dX6_has_14 : decode cX6_has 14 = .ok (.goto 4, 3) := by decide +kernel
theorem dX6_has_17 : decode cX6_has 17 = .ok (.iconst 0, 1) := by decide +kernel
theorem dX6_has_18 : decode cX6_has 18 = .ok (.ireturn, 1) := by decide +kernel
theorem dX6_isFull_0 : decode cX6_isFull 0 = .ok (.aload_n 0, 1) := by decide +kernel
theorem dX6_isFull_1 : decode cX6_isFull 1 = .ok (.getfield 7, 3) := by decide +kernel
theorem dX6_isFull_4 : decode cX6_isFull 4 = .ok (.iconst 0, 1) := by decide +kernel
theorem dX6_isFull_5 : decode cX6_isFull 5 = .ok (.iaload, 1) := by decide +kernel
theorem dX6_isFull_6 : decode cX6_isFull 6 = .ok (.bipush 12, 2) := by decide +kernel
theorem dX6_isFull_8 : decode cX6_isFull 8 = .ok (.if_icmp .ne 7, 3) := by decide +kernel
theorem dX6_isFull_11 : decode cX6_isFull 11 = .ok (.iconst 1, 1) := by decide +kernel
theorem dX6_isFull_12 : decode cX6_isFull 12 = .ok (.goto 4, 3) := by decide +kernel
theorem dX6_isFull_15 : decode cX6_isFull 15 = .ok (.iconst 0, 1) := by decide +kernel
theorem dX6_isFull_16 : decode cX6_isFull 16 = .ok (.ireturn, 1) := by decide +kernel
theorem dX6_refusesNumber_0 : decode cX6_refusesNumber 0 = .ok (.iload_n 1, 1) := by decide +kernel
theorem dX6_refusesNumber_1 : decode cX6_refusesNumber 1 = .ok (.invokestatic 51, 3) := by decide +kernel
theorem dX6_refusesNumber_4 : decode cX6_refusesNumber 4 = .ok (.ifCond .eq 13, 3) := by decide +kernel
theorem dX6_refusesNumber_7 : decode cX6_refusesNumber 7 = .ok (.iload_n 2, 1) := by decide +kernel
theorem dX6_refusesNumber_8 : decode cX6_refusesNumber 8 = .ok (.iconst 0, 1) := by decide +kernel
theorem dX6_refusesNumber_9 : decode cX6_refusesNumber 9 = .ok (.bipush 99, 2) := by decide +kernel
theorem dX6_refusesNumber_11 : decode cX6_refusesNumber 11 = .ok (.invokestatic 32, 3) := by decide +kernel
theorem dX6_refusesNumber_14 : decode cX6_refusesNumber 14 = .ok (.ifCond .ne 5, 3) := by decide +kernel
theorem dX6_refusesNumber_17 : decode cX6_refusesNumber 17 = .ok (.iconst 1, 1) := by decide +kernel
theorem dX6_refusesNumber_18 : decode cX6_refusesNumber 18 = .ok (.ireturn, 1) := by decide +kernel
theorem dX6_refusesNumber_19 : decode cX6_refusesNumber 19 = .ok (.aload_n 0, 1) := by decide +kernel
theorem dX6_refusesNumber_20 : decode cX6_refusesNumber 20 = .ok (.iload_n 1, 1) := by decide +kernel
theorem dX6_refusesNumber_21 : decode cX6_refusesNumber 21 = .ok (.invokevirtual 55, 3) := by decide +kernel
theorem dX6_refusesNumber_24 : decode cX6_refusesNumber 24 = .ok (.ifCond .ne 10, 3) := by decide +kernel
theorem dX6_refusesNumber_27 : decode cX6_refusesNumber 27 = .ok (.aload_n 0, 1) := by decide +kernel
theorem dX6_refusesNumber_28 : decode cX6_refusesNumber 28 = .ok (.invokevirtual 58, 3) := by decide +kernel
theorem dX6_refusesNumber_31 : decode cX6_refusesNumber 31 = .ok (.ifCond .eq 7, 3) := by decide +kernel
theorem dX6_refusesNumber_34 : decode cX6_refusesNumber 34 = .ok (.iconst 2, 1) := by decide +kernel
theorem dX6_refusesNumber_35 : decode cX6_refusesNumber 35 = .ok (.goto 4, 3) := by decide +kernel
theorem dX6_refusesNumber_38 : decode cX6_refusesNumber 38 = .ok (.iconst 0, 1) := by decide +kernel
theorem dX6_refusesNumber_39 : decode cX6_refusesNumber 39 = .ok (.ireturn, 1) := by decide +kernel
theorem dX6_refusesCopy_0 : decode cX6_refusesCopy 0 = .ok (.iload_n 1, 1) := by decide +kernel
theorem dX6_refusesCopy_1 : decode cX6_refusesCopy 1 = .ok (.invokestatic 51, 3) := by decide +kernel
theorem dX6_refusesCopy_4 : decode cX6_refusesCopy 4 = .ok (.ifCond .eq 20, 3) := by decide +kernel
theorem dX6_refusesCopy_7 : decode cX6_refusesCopy 7 = .ok (.iload_n 2, 1) := by decide +kernel
theorem dX6_refusesCopy_8 : decode cX6_refusesCopy 8 = .ok (.invokestatic 51, 3) := by decide +kernel
theorem dX6_refusesCopy_11 : decode cX6_refusesCopy 11 = .ok (.ifCond .eq 13, 3) := by decide +kernel
theorem dX6_refusesCopy_14 : decode cX6_refusesCopy 14 = .ok (.iload_n 3, 1) := by decide +kernel
theorem dX6_refusesCopy_15 : decode cX6_refusesCopy 15 = .ok (.iconst (-1), 1) := by decide +kernel
theorem dX6_refusesCopy_16 : decode cX6_refusesCopy 16 = .ok (.bipush 7, 2) := by decide +kernel
theorem dX6_refusesCopy_18 : decode cX6_refusesCopy 18 = .ok (.invokestatic 32, 3) := by decide +kernel
theorem dX6_refusesCopy_21 : decode cX6_refusesCopy 21 = .ok (.ifCond .ne 5, 3) := by decide +kernel
theorem dX6_refusesCopy_24 : decode cX6_refusesCopy 24 = .ok (.iconst 1, 1) := by decide +kernel
theorem dX6_refusesCopy_25 : decode cX6_refusesCopy 25 = .ok (.ireturn, 1) := by decide +kernel
theorem dX6_refusesCopy_26 : decode cX6_refusesCopy 26 = .ok (.aload_n 0, 1) := by decide +kernel
theorem dX6_refusesCopy_27 : decode cX6_refusesCopy 27 = .ok (.iload_n 1, 1) := by decide +kernel
theorem dX6_refusesCopy_28 : decode cX6_refusesCopy 28 = .ok (.invokevirtual 55, 3) := by decide +kernel
theorem dX6_refusesCopy_31 : decode cX6_refusesCopy 31 = .ok (.ifCond .ne 31, 3) := by decide +kernel
theorem dX6_refusesCopy_34 : decode cX6_refusesCopy 34 = .ok (.aload_n 0, 1) := by decide +kernel
theorem dX6_refusesCopy_35 : decode cX6_refusesCopy 35 = .ok (.iload_n 2, 1) := by decide +kernel
theorem dX6_refusesCopy_36 : decode cX6_refusesCopy 36 = .ok (.invokevirtual 55, 3) := by decide +kernel
theorem dX6_refusesCopy_39 : decode cX6_refusesCopy 39 = .ok (.ifCond .eq 23, 3) := by decide +kernel
theorem dX6_refusesCopy_42 : decode cX6_refusesCopy 42 = .ok (.iload_n 3, 1) := by decide +kernel
theorem dX6_refusesCopy_43 : decode cX6_refusesCopy 43 = .ok (.iconst (-1), 1) := by decide +kernel
theorem dX6_refusesCopy_44 : decode cX6_refusesCopy 44 = .ok (.if_icmp .eq 11, 3) := by decide +kernel
theorem dX6_refusesCopy_47 : decode cX6_refusesCopy 47 = .ok (.aload_n 0, 1) := by decide +kernel
theorem dX6_refusesCopy_48 : decode cX6_refusesCopy 48 = .ok (.iload_n 3, 1) := by decide +kernel
theorem dX6_refusesCopy_49 : decode cX6_refusesCopy 49 = .ok (.invokevirtual 55, 3) := by decide +kernel
theorem dX6_refusesCopy_52 : decode cX6_refusesCopy 52 = .ok (.ifCond .eq 10, 3) := by decide +kernel
theorem dX6_refusesCopy_55 : decode cX6_refusesCopy 55 = .ok (.aload_n 0, 1) := by decide +kernel
theorem dX6_refusesCopy_56 : decode cX6_refusesCopy 56 = .ok (.invokevirtual 58, 3) := by decide +kernel
theorem dX6_refusesCopy_59 : decode cX6_refusesCopy 59 = .ok (.ifCond .eq 7, 3) := by decide +kernel
theorem dX6_refusesCopy_62 : decode cX6_refusesCopy 62 = .ok (.iconst 2, 1) := by decide +kernel
theorem dX6_refusesCopy_63 : decode cX6_refusesCopy 63 = .ok (.goto 4, 3) := by decide +kernel
theorem dX6_refusesCopy_66 : decode cX6_refusesCopy 66 = .ok (.iconst 0, 1) := by decide +kernel
theorem dX6_refusesCopy_67 : decode cX6_refusesCopy 67 = .ok (.ireturn, 1) := by decide +kernel
theorem dX6_refusesDrop_0 : decode cX6_refusesDrop 0 = .ok (.iload_n 1, 1) := by decide +kernel
theorem dX6_refusesDrop_1 : decode cX6_refusesDrop 1 = .ok (.invokestatic 51, 3) := by decide +kernel
theorem dX6_refusesDrop_4 : decode cX6_refusesDrop 4 = .ok (.ifCond .eq 13, 3) := by decide +kernel
theorem dX6_refusesDrop_7 : decode cX6_refusesDrop 7 = .ok (.iload_n 2, 1) := by decide +kernel
theorem dX6_refusesDrop_8 : decode cX6_refusesDrop 8 = .ok (.iconst 0, 1) := by decide +kernel
theorem dX6_refusesDrop_9 : decode cX6_refusesDrop 9 = .ok (.bipush 99, 2) := by decide +kernel
theorem dX6_refusesDrop_11 : decode cX6_refusesDrop 11 = .ok (.invokestatic 32, 3) := by decide +kernel
theorem dX6_refusesDrop_14 : decode cX6_refusesDrop 14 = .ok (.ifCond .ne 5, 3) := by decide +kernel
theorem dX6_refusesDrop_17 : decode cX6_refusesDrop 17 = .ok (.iconst 1, 1) := by decide +kernel
theorem dX6_refusesDrop_18 : decode cX6_refusesDrop 18 = .ok (.ireturn, 1) := by decide +kernel
theorem dX6_refusesDrop_19 : decode cX6_refusesDrop 19 = .ok (.aload_n 0, 1) := by decide +kernel
theorem dX6_refusesDrop_20 : decode cX6_refusesDrop 20 = .ok (.iload_n 1, 1) := by decide +kernel
theorem dX6_refusesDrop_21 : decode cX6_refusesDrop 21 = .ok (.invokevirtual 55, 3) := by decide +kernel
theorem dX6_refusesDrop_24 : decode cX6_refusesDrop 24 = .ok (.ifCond .eq 10, 3) := by decide +kernel
theorem dX6_refusesDrop_27 : decode cX6_refusesDrop 27 = .ok (.aload_n 0, 1) := by decide +kernel
theorem dX6_refusesDrop_28 : decode cX6_refusesDrop 28 = .ok (.invokevirtual 58, 3) := by decide +kernel
theorem dX6_refusesDrop_31 : decode cX6_refusesDrop 31 = .ok (.ifCond .eq 7, 3) := by decide +kernel
theorem dX6_refusesDrop_34 : decode cX6_refusesDrop 34 = .ok (.iconst 2, 1) := by decide +kernel
theorem dX6_refusesDrop_35 : decode cX6_refusesDrop 35 = .ok (.goto 4, 3) := by decide +kernel
theorem dX6_refusesDrop_38 : decode cX6_refusesDrop 38 = .ok (.iconst 0, 1) := by decide +kernel
theorem dX6_refusesDrop_39 : decode cX6_refusesDrop 39 = .ok (.ireturn, 1) := by decide +kernel
theorem dX6_refusesRename_0 : decode cX6_refusesRename 0 = .ok (.iload_n 1, 1) := by decide +kernel
theorem dX6_refusesRename_1 : decode cX6_refusesRename 1 = .ok (.invokestatic 51, 3) := by decide +kernel
theorem dX6_refusesRename_4 : decode cX6_refusesRename 4 = .ok (.ifCond .eq 10, 3) := by decide +kernel
theorem dX6_refusesRename_7 : decode cX6_refusesRename 7 = .ok (.iload_n 2, 1) := by decide +kernel
theorem dX6_refusesRename_8 : decode cX6_refusesRename 8 = .ok (.invokestatic 51, 3) := by decide +kernel
theorem dX6_refusesRename_11 : decode cX6_refusesRename 11 = .ok (.ifCond .ne 5, 3) := by decide +kernel
theorem dX6_refusesRename_14 : decode cX6_refusesRename 14 = .ok (.iconst 1, 1) := by decide +kernel
theorem dX6_refusesRename_15 : decode cX6_refusesRename 15 = .ok (.ireturn, 1) := by decide +kernel
theorem dX6_refusesRename_16 : decode cX6_refusesRename 16 = .ok (.aload_n 0, 1) := by decide +kernel
theorem dX6_refusesRename_17 : decode cX6_refusesRename 17 = .ok (.iload_n 1, 1) := by decide +kernel
theorem dX6_refusesRename_18 : decode cX6_refusesRename 18 = .ok (.invokevirtual 55, 3) := by decide +kernel
theorem dX6_refusesRename_21 : decode cX6_refusesRename 21 = .ok (.ifCond .eq 18, 3) := by decide +kernel
theorem dX6_refusesRename_24 : decode cX6_refusesRename 24 = .ok (.aload_n 0, 1) := by decide +kernel
theorem dX6_refusesRename_25 : decode cX6_refusesRename 25 = .ok (.iload_n 2, 1) := by decide +kernel
theorem dX6_refusesRename_26 : decode cX6_refusesRename 26 = .ok (.invokevirtual 55, 3) := by decide +kernel
theorem dX6_refusesRename_29 : decode cX6_refusesRename 29 = .ok (.ifCond .ne 10, 3) := by decide +kernel
theorem dX6_refusesRename_32 : decode cX6_refusesRename 32 = .ok (.aload_n 0, 1) := by decide +kernel
theorem dX6_refusesRename_33 : decode cX6_refusesRename 33 = .ok (.invokevirtual 58, 3) := by decide +kernel
theorem dX6_refusesRename_36 : decode cX6_refusesRename 36 = .ok (.ifCond .eq 7, 3) := by decide +kernel
theorem dX6_refusesRename_39 : decode cX6_refusesRename 39 = .ok (.iconst 2, 1) := by decide +kernel
theorem dX6_refusesRename_40 : decode cX6_refusesRename 40 = .ok (.goto 4, 3) := by decide +kernel
theorem dX6_refusesRename_43 : decode cX6_refusesRename 43 = .ok (.iconst 0, 1) := by decide +kernel
theorem dX6_refusesRename_44 : decode cX6_refusesRename 44 = .ok (.ireturn, 1) := by decide +kernel
theorem dX6_addsNumber_0 : decode cX6_addsNumber 0 = .ok (.aload_n 0, 1) := by decide +kernel
theorem dX6_addsNumber_1 : decode cX6_addsNumber 1 = .ok (.iconst 1, 1) := by decide +kernel
theorem dX6_addsNumber_2 : decode cX6_addsNumber 2 = .ok (.iload_n 2, 1) := by decide +kernel
theorem dX6_addsNumber_3 : decode cX6_addsNumber 3 = .ok (.iconst 0, 1) := by decide +kernel
theorem dX6_addsNumber_4 : decode cX6_addsNumber 4 = .ok (.invokevirtual 62, 3) := by decide +kernel
theorem dX6_addsNumber_7 : decode cX6_addsNumber 7 = .ok (.aload_n 0, 1) := by decide +kernel
theorem dX6_addsNumber_8 : decode cX6_addsNumber 8 = .ok (.iload_n 1, 1) := by decide +kernel
theorem dX6_addsNumber_9 : decode cX6_addsNumber 9 = .ok (.invokevirtual 65, 3) := by decide +kernel
theorem dX6_addsNumber_12 : decode cX6_addsNumber 12 = .ok (.return_, 1) := by decide +kernel
theorem dX6_addsCopy_0 : decode cX6_addsCopy 0 = .ok (.aload_n 0, 1) := by decide +kernel
theorem dX6_addsCopy_1 : decode cX6_addsCopy 1 = .ok (.aload_n 0, 1) := by decide +kernel
theorem dX6_addsCopy_2 : decode cX6_addsCopy 2 = .ok (.invokevirtual 44, 3) := by decide +kernel
theorem dX6_addsCopy_5 : decode cX6_addsCopy 5 = .ok (.iload_n 2, 1) := by decide +kernel
theorem dX6_addsCopy_6 : decode cX6_addsCopy 6 = .ok (.invokevirtual 48, 3) := by decide +kernel
theorem dX6_addsCopy_9 : decode cX6_addsCopy 9 = .ok (.istore 4, 2) := by decide +kernel
theorem dX6_addsCopy_11 : decode cX6_addsCopy 11 = .ok (.iload_n 3, 1) := by decide +kernel
theorem dX6_addsCopy_12 : decode cX6_addsCopy 12 = .ok (.iconst (-1), 1) := by decide +kernel
theorem dX6_addsCopy_13 : decode cX6_addsCopy 13 = .ok (.if_icmp .ne 7, 3) := by decide +kernel
theorem dX6_addsCopy_16 : decode cX6_addsCopy 16 = .ok (.iconst 0, 1) := by decide +kernel
theorem dX6_addsCopy_17 : decode cX6_addsCopy 17 = .ok (.goto 12, 3) := by decide +kernel
theorem dX6_addsCopy_20 : decode cX6_addsCopy 20 = .ok (.aload_n 0, 1) := by decide +kernel
theorem dX6_addsCopy_21 : decode cX6_addsCopy 21 = .ok (.aload_n 0, 1) := by decide +kernel
theorem dX6_addsCopy_22 : decode cX6_addsCopy 22 = .ok (.invokevirtual 44, 3) := by decide +kernel
theorem dX6_addsCopy_25 : decode cX6_addsCopy 25 = .ok (.iload_n 3, 1) := by decide +kernel
theorem dX6_addsCopy_26 : decode cX6_addsCopy 26 = .ok (.invokevirtual 48, 3) := by decide +kernel
theorem dX6_addsCopy_29 : decode cX6_addsCopy 29 = .ok (.istore 5, 2) := by decide +kernel
theorem dX6_addsCopy_31 : decode cX6_addsCopy 31 = .ok (.aload_n 0, 1) := by decide +kernel
theorem dX6_addsCopy_32 : decode cX6_addsCopy 32 = .ok (.iload_n 3, 1) := by decide +kernel
theorem dX6_addsCopy_33 : decode cX6_addsCopy 33 = .ok (.iconst (-1), 1) := by decide +kernel
theorem dX6_addsCopy_34 : decode cX6_addsCopy 34 = .ok (.if_icmp .ne 7, 3) := by decide +kernel
theorem dX6_addsCopy_37 : decode cX6_addsCopy 37 = .ok (.iconst 2, 1) := by decide +kernel
theorem dX6_addsCopy_38 : decode cX6_addsCopy 38 = .ok (.goto 4, 3) := by decide +kernel
theorem dX6_addsCopy_41 : decode cX6_addsCopy 41 = .ok (.iconst 3, 1) := by decide +kernel
theorem dX6_addsCopy_42 : decode cX6_addsCopy 42 = .ok (.iload 4, 2) := by decide +kernel
theorem dX6_addsCopy_44 : decode cX6_addsCopy 44 = .ok (.iload 5, 2) := by decide +kernel
theorem dX6_addsCopy_46 : decode cX6_addsCopy 46 = .ok (.invokevirtual 62, 3) := by decide +kernel
theorem dX6_addsCopy_49 : decode cX6_addsCopy 49 = .ok (.aload_n 0, 1) := by decide +kernel
theorem dX6_addsCopy_50 : decode cX6_addsCopy 50 = .ok (.iload_n 1, 1) := by decide +kernel
theorem dX6_addsCopy_51 : decode cX6_addsCopy 51 = .ok (.invokevirtual 65, 3) := by decide +kernel
theorem dX6_addsCopy_54 : decode cX6_addsCopy 54 = .ok (.return_, 1) := by decide +kernel
theorem dX6_drops_0 : decode cX6_drops 0 = .ok (.aload_n 0, 1) := by decide +kernel
theorem dX6_drops_1 : decode cX6_drops 1 = .ok (.aload_n 0, 1) := by decide +kernel
theorem dX6_drops_2 : decode cX6_drops 2 = .ok (.invokevirtual 44, 3) := by decide +kernel
theorem dX6_drops_5 : decode cX6_drops 5 = .ok (.iload_n 1, 1) := by decide +kernel
theorem dX6_drops_6 : decode cX6_drops 6 = .ok (.invokevirtual 48, 3) := by decide +kernel
theorem dX6_drops_9 : decode cX6_drops 9 = .ok (.istore_n 3, 1) := by decide +kernel
theorem dX6_drops_10 : decode cX6_drops 10 = .ok (.aload_n 0, 1) := by decide +kernel
theorem dX6_drops_11 : decode cX6_drops 11 = .ok (.iconst 4, 1) := by decide +kernel
theorem dX6_drops_12 : decode cX6_drops 12 = .ok (.iload_n 3, 1) := by decide +kernel
theorem dX6_drops_13 : decode cX6_drops 13 = .ok (.iload_n 2, 1) := by decide +kernel
theorem dX6_drops_14 : decode cX6_drops 14 = .ok (.invokevirtual 62, 3) := by decide +kernel
theorem dX6_drops_17 : decode cX6_drops 17 = .ok (.aload_n 0, 1) := by decide +kernel
theorem dX6_drops_18 : decode cX6_drops 18 = .ok (.invokevirtual 44, 3) := by decide +kernel
theorem dX6_drops_21 : decode cX6_drops 21 = .ok (.istore 4, 2) := by decide +kernel
theorem dX6_drops_23 : decode cX6_drops 23 = .ok (.aload_n 0, 1) := by decide +kernel
theorem dX6_drops_24 : decode cX6_drops 24 = .ok (.iload 4, 2) := by decide +kernel
theorem dX6_drops_26 : decode cX6_drops 26 = .ok (.iconst 0, 1) := by decide +kernel
theorem dX6_drops_27 : decode cX6_drops 27 = .ok (.invokevirtual 36, 3) := by decide +kernel
theorem dX6_drops_30 : decode cX6_drops 30 = .ok (.iconst 1, 1) := by decide +kernel
theorem dX6_drops_31 : decode cX6_drops 31 = .ok (.isub, 1) := by decide +kernel
theorem dX6_drops_32 : decode cX6_drops 32 = .ok (.istore 5, 2) := by decide +kernel
theorem dX6_drops_34 : decode cX6_drops 34 = .ok (.iload_n 3, 1) := by decide +kernel
theorem dX6_drops_35 : decode cX6_drops 35 = .ok (.istore 6, 2) := by decide +kernel
theorem dX6_drops_37 : decode cX6_drops 37 = .ok (.iload 6, 2) := by decide +kernel
theorem dX6_drops_39 : decode cX6_drops 39 = .ok (.iload 5, 2) := by decide +kernel
theorem dX6_drops_41 : decode cX6_drops 41 = .ok (.if_icmp .ge 55, 3) := by decide +kernel
theorem dX6_drops_44 : decode cX6_drops 44 = .ok (.aload_n 0, 1) := by decide +kernel
theorem dX6_drops_45 : decode cX6_drops 45 = .ok (.iload 4, 2) := by decide +kernel
theorem dX6_drops_47 : decode cX6_drops 47 = .ok (.iconst 1, 1) := by decide +kernel
theorem dX6_drops_48 : decode cX6_drops 48 = .ok (.iload 6, 2) := by decide +kernel
theorem dX6_drops_50 : decode cX6_drops 50 = .ok (.iadd, 1) := by decide +kernel
theorem dX6_drops_51 : decode cX6_drops 51 = .ok (.aload_n 0, 1) := by decide +kernel
theorem dX6_drops_52 : decode cX6_drops 52 = .ok (.iload 4, 2) := by decide +kernel
theorem dX6_drops_54 : decode cX6_drops 54 = .ok (.iconst 1, 1) := by decide +kernel
theorem dX6_drops_55 : decode cX6_drops 55 = .ok (.iload 6, 2) := by decide +kernel
theorem dX6_drops_57 : decode cX6_drops 57 = .ok (.iadd, 1) := by decide +kernel
theorem dX6_drops_58 : decode cX6_drops 58 = .ok (.iconst 1, 1) := by decide +kernel
theorem dX6_drops_59 : decode cX6_drops 59 = .ok (.iadd, 1) := by decide +kernel
theorem dX6_drops_60 : decode cX6_drops 60 = .ok (.invokevirtual 36, 3) := by decide +kernel
theorem dX6_drops_63 : decode cX6_drops 63 = .ok (.invokevirtual 40, 3) := by decide +kernel
theorem dX6_drops_66 : decode cX6_drops 66 = .ok (.aload_n 0, 1) := by decide +kernel
theorem dX6_drops_67 : decode cX6_drops 67 = .ok (.iload 4, 2) := by decide +kernel
theorem dX6_drops_69 : decode cX6_drops 69 = .ok (.bipush 9, 2) := by decide +kernel
theorem dX6_drops_71 : decode cX6_drops 71 = .ok (.iload 6, 2) := by decide +kernel
theorem dX6_drops_73 : decode cX6_drops 73 = .ok (.iadd, 1) := by decide +kernel
theorem dX6_drops_74 : decode cX6_drops 74 = .ok (.aload_n 0, 1) := by decide +kernel
theorem dX6_drops_75 : decode cX6_drops 75 = .ok (.iload 4, 2) := by decide +kernel
theorem dX6_drops_77 : decode cX6_drops 77 = .ok (.bipush 9, 2) := by decide +kernel
theorem dX6_drops_79 : decode cX6_drops 79 = .ok (.iload 6, 2) := by decide +kernel
theorem dX6_drops_81 : decode cX6_drops 81 = .ok (.iadd, 1) := by decide +kernel
theorem dX6_drops_82 : decode cX6_drops 82 = .ok (.iconst 1, 1) := by decide +kernel
theorem dX6_drops_83 : decode cX6_drops 83 = .ok (.iadd, 1) := by decide +kernel
theorem dX6_drops_84 : decode cX6_drops 84 = .ok (.invokevirtual 36, 3) := by decide +kernel
theorem dX6_drops_87 : decode cX6_drops 87 = .ok (.invokevirtual 40, 3) := by decide +kernel
theorem dX6_drops_90 : decode cX6_drops 90 = .ok (.iinc 6 1, 3) := by decide +kernel
theorem dX6_drops_93 : decode cX6_drops 93 = .ok (.goto (-56), 3) := by decide +kernel
theorem dX6_drops_96 : decode cX6_drops 96 = .ok (.aload_n 0, 1) := by decide +kernel
theorem dX6_drops_97 : decode cX6_drops 97 = .ok (.iload 4, 2) := by decide +kernel
theorem dX6_drops_99 : decode cX6_drops 99 = .ok (.iconst 1, 1) := by decide +kernel
theorem dX6_drops_100 : decode cX6_drops 100 = .ok (.iload 5, 2) := by decide +kernel
theorem dX6_drops_102 : decode cX6_drops 102 = .ok (.iadd, 1) := by decide +kernel
theorem dX6_drops_103 : decode cX6_drops 103 = .ok (.iconst 0, 1) := by decide +kernel
theorem dX6_drops_104 : decode cX6_drops 104 = .ok (.invokevirtual 40, 3) := by decide +kernel
theorem dX6_drops_107 : decode cX6_drops 107 = .ok (.aload_n 0, 1) := by decide +kernel
theorem dX6_drops_108 : decode cX6_drops 108 = .ok (.iload 4, 2) := by decide +kernel
theorem dX6_drops_110 : decode cX6_drops 110 = .ok (.bipush 9, 2) := by decide +kernel
theorem dX6_drops_112 : decode cX6_drops 112 = .ok (.iload 5, 2) := by decide +kernel
theorem dX6_drops_114 : decode cX6_drops 114 = .ok (.iadd, 1) := by decide +kernel
theorem dX6_drops_115 : decode cX6_drops 115 = .ok (.iconst 0, 1) := by decide +kernel
theorem dX6_drops_116 : decode cX6_drops 116 = .ok (.invokevirtual 40, 3) := by decide +kernel
theorem dX6_drops_119 : decode cX6_drops 119 = .ok (.aload_n 0, 1) := by decide +kernel
theorem dX6_drops_120 : decode cX6_drops 120 = .ok (.iload 4, 2) := by decide +kernel
theorem dX6_drops_122 : decode cX6_drops 122 = .ok (.iconst 0, 1) := by decide +kernel
theorem dX6_drops_123 : decode cX6_drops 123 = .ok (.iload 5, 2) := by decide +kernel
theorem dX6_drops_125 : decode cX6_drops 125 = .ok (.invokevirtual 40, 3) := by decide +kernel
theorem dX6_drops_128 : decode cX6_drops 128 = .ok (.return_, 1) := by decide +kernel
end
section
theorem dX6_renames_0 : decode cX6_renames 0 = .ok (.aload_n 0, 1) := by decide +kernel
theorem dX6_renames_1 : decode cX6_renames 1 = .ok (.aload_n 0, 1) := by decide +kernel
theorem dX6_renames_2 : decode cX6_renames 2 = .ok (.invokevirtual 44, 3) := by decide +kernel
theorem dX6_renames_5 : decode cX6_renames 5 = .ok (.iload_n 1, 1) := by decide +kernel
theorem dX6_renames_6 : decode cX6_renames 6 = .ok (.invokevirtual 48, 3) := by decide +kernel
theorem dX6_renames_9 : decode cX6_renames 9 = .ok (.istore_n 3, 1) := by decide +kernel
theorem dX6_renames_10 : decode cX6_renames 10 = .ok (.aload_n 0, 1) := by decide +kernel
theorem dX6_renames_11 : decode cX6_renames 11 = .ok (.iconst 5, 1) := by decide +kernel
theorem dX6_renames_12 : decode cX6_renames 12 = .ok (.iload_n 3, 1) := by decide +kernel
theorem dX6_renames_13 : decode cX6_renames 13 = .ok (.iconst 0, 1) := by decide +kernel
theorem dX6_renames_14 : decode cX6_renames 14 = .ok (.invokevirtual 62, 3) := by decide +kernel
theorem dX6_renames_17 : decode cX6_renames 17 = .ok (.aload_n 0, 1) := by decide +kernel
theorem dX6_renames_18 : decode cX6_renames 18 = .ok (.aload_n 0, 1) := by decide +kernel
theorem dX6_renames_19 : decode cX6_renames 19 = .ok (.invokevirtual 44, 3) := by decide +kernel
theorem dX6_renames_22 : decode cX6_renames 22 = .ok (.bipush 9, 2) := by decide +kernel
theorem dX6_renames_24 : decode cX6_renames 24 = .ok (.iload_n 3, 1) := by decide +kernel
theorem dX6_renames_25 : decode cX6_renames 25 = .ok (.iadd, 1) := by decide +kernel
theorem dX6_renames_26 : decode cX6_renames 26 = .ok (.iload_n 2, 1) := by decide +kernel
theorem dX6_renames_27 : decode cX6_renames 27 = .ok (.invokevirtual 40, 3) := by decide +kernel
theorem dX6_renames_30 : decode cX6_renames 30 = .ok (.return_, 1) := by decide +kernel
theorem dX6_addNumber_0 : decode cX6_addNumber 0 = .ok (.aload_n 0, 1) := by decide +kernel
theorem dX6_addNumber_1 : decode cX6_addNumber 1 = .ok (.aload_n 0, 1) := by decide +kernel
theorem dX6_addNumber_2 : decode cX6_addNumber 2 = .ok (.iload_n 1, 1) := by decide +kernel
theorem dX6_addNumber_3 : decode cX6_addNumber 3 = .ok (.iload_n 2, 1) := by decide +kernel
theorem dX6_addNumber_4 : decode cX6_addNumber 4 = .ok (.invokevirtual 69, 3) := by decide +kernel
theorem dX6_addNumber_7 : decode cX6_addNumber 7 = .ok (.putfield 25, 3) := by decide +kernel
theorem dX6_addNumber_10 : decode cX6_addNumber 10 = .ok (.aload_n 0, 1) := by decide +kernel
theorem dX6_addNumber_11 : decode cX6_addNumber 11 = .ok (.getfield 25, 3) := by decide +kernel
theorem dX6_addNumber_14 : decode cX6_addNumber 14 = .ok (.ifCond .eq 5, 3) := by decide +kernel
theorem dX6_addNumber_17 : decode cX6_addNumber 17 = .ok (.iconst 0, 1) := by decide +kernel
theorem dX6_addNumber_18 : decode cX6_addNumber 18 = .ok (.ireturn, 1) := by decide +kernel
theorem dX6_addNumber_19 : decode cX6_addNumber 19 = .ok (.aload_n 0, 1) := by decide +kernel
theorem dX6_addNumber_20 : decode cX6_addNumber 20 = .ok (.invokevirtual 72, 3) := by decide +kernel
theorem dX6_addNumber_23 : decode cX6_addNumber 23 = .ok (.aload_n 0, 1) := by decide +kernel
theorem dX6_addNumber_24 : decode cX6_addNumber 24 = .ok (.iload_n 1, 1) := by decide +kernel
theorem dX6_addNumber_25 : decode cX6_addNumber 25 = .ok (.iload_n 2, 1) := by decide +kernel
theorem dX6_addNumber_26 : decode cX6_addNumber 26 = .ok (.invokevirtual 75, 3) := by decide +kernel
theorem dX6_addNumber_29 : decode cX6_addNumber 29 = .ok (.aload_n 0, 1) := by decide +kernel
theorem dX6_addNumber_30 : decode cX6_addNumber 30 = .ok (.invokevirtual 44, 3) := by decide +kernel
theorem dX6_addNumber_33 : decode cX6_addNumber 33 = .ok (.ireturn, 1) := by decide +kernel
theorem dX6_addCopy_0 : decode cX6_addCopy 0 = .ok (.aload_n 0, 1) := by decide +kernel
theorem dX6_addCopy_1 : decode cX6_addCopy 1 = .ok (.aload_n 0, 1) := by decide +kernel
theorem dX6_addCopy_2 : decode cX6_addCopy 2 = .ok (.iload_n 1, 1) := by decide +kernel
theorem dX6_addCopy_3 : decode cX6_addCopy 3 = .ok (.iload_n 2, 1) := by decide +kernel
theorem dX6_addCopy_4 : decode cX6_addCopy 4 = .ok (.iload_n 3, 1) := by decide +kernel
theorem dX6_addCopy_5 : decode cX6_addCopy 5 = .ok (.invokevirtual 79, 3) := by decide +kernel
theorem dX6_addCopy_8 : decode cX6_addCopy 8 = .ok (.putfield 25, 3) := by decide +kernel
theorem dX6_addCopy_11 : decode cX6_addCopy 11 = .ok (.aload_n 0, 1) := by decide +kernel
theorem dX6_addCopy_12 : decode cX6_addCopy 12 = .ok (.getfield 25, 3) := by decide +kernel
theorem dX6_addCopy_15 : decode cX6_addCopy 15 = .ok (.ifCond .eq 5, 3) := by decide +kernel
theorem dX6_addCopy_18 : decode cX6_addCopy 18 = .ok (.iconst 0, 1) := by decide +kernel
theorem dX6_addCopy_19 : decode cX6_addCopy 19 = .ok (.ireturn, 1) := by decide +kernel
theorem dX6_addCopy_20 : decode cX6_addCopy 20 = .ok (.aload_n 0, 1) := by decide +kernel
theorem dX6_addCopy_21 : decode cX6_addCopy 21 = .ok (.invokevirtual 72, 3) := by decide +kernel
theorem dX6_addCopy_24 : decode cX6_addCopy 24 = .ok (.aload_n 0, 1) := by decide +kernel
theorem dX6_addCopy_25 : decode cX6_addCopy 25 = .ok (.iload_n 1, 1) := by decide +kernel
theorem dX6_addCopy_26 : decode cX6_addCopy 26 = .ok (.iload_n 2, 1) := by decide +kernel
theorem dX6_addCopy_27 : decode cX6_addCopy 27 = .ok (.iload_n 3, 1) := by decide +kernel
theorem dX6_addCopy_28 : decode cX6_addCopy 28 = .ok (.invokevirtual 83, 3) := by decide +kernel
theorem dX6_addCopy_31 : decode cX6_addCopy 31 = .ok (.aload_n 0, 1) := by decide +kernel
theorem dX6_addCopy_32 : decode cX6_addCopy 32 = .ok (.invokevirtual 44, 3) := by decide +kernel
theorem dX6_addCopy_35 : decode cX6_addCopy 35 = .ok (.ireturn, 1) := by decide +kernel
theorem dX6_drop_0 : decode cX6_drop 0 = .ok (.aload_n 0, 1) := by decide +kernel
theorem dX6_drop_1 : decode cX6_drop 1 = .ok (.aload_n 0, 1) := by decide +kernel
theorem dX6_drop_2 : decode cX6_drop 2 = .ok (.iload_n 1, 1) := by decide +kernel
theorem dX6_drop_3 : decode cX6_drop 3 = .ok (.iload_n 2, 1) := by decide +kernel
theorem dX6_drop_4 : decode cX6_drop 4 = .ok (.invokevirtual 86, 3) := by decide +kernel
theorem dX6_drop_7 : decode cX6_drop 7 = .ok (.putfield 25, 3) := by decide +kernel
theorem dX6_drop_10 : decode cX6_drop 10 = .ok (.aload_n 0, 1) := by decide +kernel
theorem dX6_drop_11 : decode cX6_drop 11 = .ok (.getfield 25, 3) := by decide +kernel
theorem dX6_drop_14 : decode cX6_drop 14 = .ok (.ifCond .eq 5, 3) := by decide +kernel
theorem dX6_drop_17 : decode cX6_drop 17 = .ok (.iconst 0, 1) := by decide +kernel
theorem dX6_drop_18 : decode cX6_drop 18 = .ok (.ireturn, 1) := by decide +kernel
theorem dX6_drop_19 : decode cX6_drop 19 = .ok (.aload_n 0, 1) := by decide +kernel
theorem dX6_drop_20 : decode cX6_drop 20 = .ok (.invokevirtual 72, 3) := by decide +kernel
theorem dX6_drop_23 : decode cX6_drop 23 = .ok (.aload_n 0, 1) := by decide +kernel
theorem dX6_drop_24 : decode cX6_drop 24 = .ok (.iload_n 1, 1) := by decide +kernel
theorem dX6_drop_25 : decode cX6_drop 25 = .ok (.iload_n 2, 1) := by decide +kernel
theorem dX6_drop_26 : decode cX6_drop 26 = .ok (.invokevirtual 89, 3) := by decide +kernel
theorem dX6_drop_29 : decode cX6_drop 29 = .ok (.aload_n 0, 1) := by decide +kernel
theorem dX6_drop_30 : decode cX6_drop 30 = .ok (.invokevirtual 44, 3) := by decide +kernel
theorem dX6_drop_33 : decode cX6_drop 33 = .ok (.ireturn, 1) := by decide +kernel
theorem dX6_rename_0 : decode cX6_rename 0 = .ok (.aload_n 0, 1) := by decide +kernel
theorem dX6_rename_1 : decode cX6_rename 1 = .ok (.aload_n 0, 1) := by decide +kernel
theorem dX6_rename_2 : decode cX6_rename 2 = .ok (.iload_n 1, 1) := by decide +kernel
theorem dX6_rename_3 : decode cX6_rename 3 = .ok (.iload_n 2, 1) := by decide +kernel
theorem dX6_rename_4 : decode cX6_rename 4 = .ok (.invokevirtual 92, 3) := by decide +kernel
theorem dX6_rename_7 : decode cX6_rename 7 = .ok (.putfield 25, 3) := by decide +kernel
theorem dX6_rename_10 : decode cX6_rename 10 = .ok (.aload_n 0, 1) := by decide +kernel
theorem dX6_rename_11 : decode cX6_rename 11 = .ok (.getfield 25, 3) := by decide +kernel
theorem dX6_rename_14 : decode cX6_rename 14 = .ok (.ifCond .eq 5, 3) := by decide +kernel
theorem dX6_rename_17 : decode cX6_rename 17 = .ok (.iconst 0, 1) := by decide +kernel
theorem dX6_rename_18 : decode cX6_rename 18 = .ok (.ireturn, 1) := by decide +kernel
theorem dX6_rename_19 : decode cX6_rename 19 = .ok (.aload_n 0, 1) := by decide +kernel
theorem dX6_rename_20 : decode cX6_rename 20 = .ok (.invokevirtual 72, 3) := by decide +kernel
theorem dX6_rename_23 : decode cX6_rename 23 = .ok (.aload_n 0, 1) := by decide +kernel
theorem dX6_rename_24 : decode cX6_rename 24 = .ok (.iload_n 1, 1) := by decide +kernel
theorem dX6_rename_25 : decode cX6_rename 25 = .ok (.iload_n 2, 1) := by decide +kernel
theorem dX6_rename_26 : decode cX6_rename 26 = .ok (.invokevirtual 95, 3) := by decide +kernel
theorem dX6_rename_29 : decode cX6_rename 29 = .ok (.aload_n 0, 1) := by decide +kernel
theorem dX6_rename_30 : decode cX6_rename 30 = .ok (.invokevirtual 44, 3) := by decide +kernel
theorem dX6_rename_33 : decode cX6_rename 33 = .ok (.ireturn, 1) := by decide +kernel
theorem dX6_rowOf_0 : decode cX6_rowOf 0 = .ok (.aload_n 0, 1) := by decide +kernel
theorem dX6_rowOf_1 : decode cX6_rowOf 1 = .ok (.getfield 7, 3) := by decide +kernel
theorem dX6_rowOf_4 : decode cX6_rowOf 4 = .ok (.sipush 250, 3) := by decide +kernel
theorem dX6_rowOf_7 : decode cX6_rowOf 7 = .ok (.bipush 10, 2) := by decide +kernel
theorem dX6_rowOf_9 : decode cX6_rowOf 9 = .ok (.iload_n 1, 1) := by decide +kernel
theorem dX6_rowOf_10 : decode cX6_rowOf 10 = .ok (.imul, 1) := by decide +kernel
theorem dX6_rowOf_11 : decode cX6_rowOf 11 = .ok (.iadd, 1) := by decide +kernel
theorem dX6_rowOf_12 : decode cX6_rowOf 12 = .ok (.iload_n 2, 1) := by decide +kernel
theorem dX6_rowOf_13 : decode cX6_rowOf 13 = .ok (.iadd, 1) := by decide +kernel
theorem dX6_rowOf_14 : decode cX6_rowOf 14 = .ok (.iaload, 1) := by decide +kernel
theorem dX6_rowOf_15 : decode cX6_rowOf 15 = .ok (.ireturn, 1) := by decide +kernel
theorem dX6_layRow_0 : decode cX6_layRow 0 = .ok (.aload_n 0, 1) := by decide +kernel
theorem dX6_layRow_1 : decode cX6_layRow 1 = .ok (.getfield 7, 3) := by decide +kernel
theorem dX6_layRow_4 : decode cX6_layRow 4 = .ok (.sipush 250, 3) := by decide +kernel
theorem dX6_layRow_7 : decode cX6_layRow 7 = .ok (.bipush 10, 2) := by decide +kernel
theorem dX6_layRow_9 : decode cX6_layRow 9 = .ok (.iload_n 1, 1) := by decide +kernel
theorem dX6_layRow_10 : decode cX6_layRow 10 = .ok (.imul, 1) := by decide +kernel
theorem dX6_layRow_11 : decode cX6_layRow 11 = .ok (.iadd, 1) := by decide +kernel
theorem dX6_layRow_12 : decode cX6_layRow 12 = .ok (.iload_n 2, 1) := by decide +kernel
theorem dX6_layRow_13 : decode cX6_layRow 13 = .ok (.iadd, 1) := by decide +kernel
theorem dX6_layRow_14 : decode cX6_layRow 14 = .ok (.iload_n 3, 1) := by decide +kernel
theorem dX6_layRow_15 : decode cX6_layRow 15 = .ok (.iastore, 1) := by decide +kernel
theorem dX6_layRow_16 : decode cX6_layRow 16 = .ok (.return_, 1) := by decide +kernel
theorem dX6_isRow_0 : decode cX6_isRow 0 = .ok (.iload_n 1, 1) := by decide +kernel
theorem dX6_isRow_1 : decode cX6_isRow 1 = .ok (.iconst 0, 1) := by decide +kernel
theorem dX6_isRow_2 : decode cX6_isRow 2 = .ok (.aload_n 0, 1) := by decide +kernel
theorem dX6_isRow_3 : decode cX6_isRow 3 = .ok (.getfield 7, 3) := by decide +kernel
theorem dX6_isRow_6 : decode cX6_isRow 6 = .ok (.iconst 2, 1) := by decide +kernel
theorem dX6_isRow_7 : decode cX6_isRow 7 = .ok (.iaload, 1) := by decide +kernel
theorem dX6_isRow_8 : decode cX6_isRow 8 = .ok (.iconst 1, 1) := by decide +kernel
theorem dX6_isRow_9 : decode cX6_isRow 9 = .ok (.isub, 1) := by decide +kernel
theorem dX6_isRow_10 : decode cX6_isRow 10 = .ok (.invokestatic 32, 3) := by decide +kernel
theorem dX6_isRow_13 : decode cX6_isRow 13 = .ok (.ireturn, 1) := by decide +kernel
theorem dX6_goesOver_0 : decode cX6_goesOver 0 = .ok (.aload_n 0, 1) := by decide +kernel
theorem dX6_goesOver_1 : decode cX6_goesOver 1 = .ok (.iload_n 1, 1) := by decide +kernel
theorem dX6_goesOver_2 : decode cX6_goesOver 2 = .ok (.bipush 18, 2) := by decide +kernel
theorem dX6_goesOver_4 : decode cX6_goesOver 4 = .ok (.invokevirtual 36, 3) := by decide +kernel
theorem dX6_goesOver_7 : decode cX6_goesOver 7 = .ok (.istore_n 2, 1) := by decide +kernel
theorem dX6_goesOver_8 : decode cX6_goesOver 8 = .ok (.aload_n 0, 1) := by decide +kernel
theorem dX6_goesOver_9 : decode cX6_goesOver 9 = .ok (.iload_n 1, 1) := by decide +kernel
theorem dX6_goesOver_10 : decode cX6_goesOver 10 = .ok (.bipush 19, 2) := by decide +kernel
theorem dX6_goesOver_12 : decode cX6_goesOver 12 = .ok (.invokevirtual 36, 3) := by decide +kernel
theorem dX6_goesOver_15 : decode cX6_goesOver 15 = .ok (.istore_n 3, 1) := by decide +kernel
theorem dX6_goesOver_16 : decode cX6_goesOver 16 = .ok (.aload_n 0, 1) := by decide +kernel
theorem dX6_goesOver_17 : decode cX6_goesOver 17 = .ok (.iload_n 1, 1) := by decide +kernel
theorem dX6_goesOver_18 : decode cX6_goesOver 18 = .ok (.bipush 17, 2) := by decide +kernel
theorem dX6_goesOver_20 : decode cX6_goesOver 20 = .ok (.invokevirtual 36, 3) := by decide +kernel
theorem dX6_goesOver_23 : decode cX6_goesOver 23 = .ok (.tableswitch 187 1 4 #[29, 52, 80, 138], 29) := by decide +kernel
theorem dX6_goesOver_52 : decode cX6_goesOver 52 = .ok (.aload_n 0, 1) := by decide +kernel
theorem dX6_goesOver_53 : decode cX6_goesOver 53 = .ok (.getfield 19, 3) := by decide +kernel
theorem dX6_goesOver_56 : decode cX6_goesOver 56 = .ok (.aload_n 0, 1) := by decide +kernel
theorem dX6_goesOver_57 : decode cX6_goesOver 57 = .ok (.getfield 98, 3) := by decide +kernel
theorem dX6_goesOver_60 : decode cX6_goesOver 60 = .ok (.iload_n 2, 1) := by decide +kernel
theorem dX6_goesOver_61 : decode cX6_goesOver 61 = .ok (.iastore, 1) := by decide +kernel
theorem dX6_goesOver_62 : decode cX6_goesOver 62 = .ok (.aload_n 0, 1) := by decide +kernel
theorem dX6_goesOver_63 : decode cX6_goesOver 63 = .ok (.dup, 1) := by decide +kernel
theorem dX6_goesOver_64 : decode cX6_goesOver 64 = .ok (.getfield 98, 3) := by decide +kernel
theorem dX6_goesOver_67 : decode cX6_goesOver 67 = .ok (.iconst 1, 1) := by decide +kernel
theorem dX6_goesOver_68 : decode cX6_goesOver 68 = .ok (.iadd, 1) := by decide +kernel
theorem dX6_goesOver_69 : decode cX6_goesOver 69 = .ok (.putfield 98, 3) := by decide +kernel
theorem dX6_goesOver_72 : decode cX6_goesOver 72 = .ok (.goto 138, 3) := by decide +kernel
theorem dX6_goesOver_75 : decode cX6_goesOver 75 = .ok (.aload_n 0, 1) := by decide +kernel
theorem dX6_goesOver_76 : decode cX6_goesOver 76 = .ok (.getfield 19, 3) := by decide +kernel
theorem dX6_goesOver_79 : decode cX6_goesOver 79 = .ok (.aload_n 0, 1) := by decide +kernel
theorem dX6_goesOver_80 : decode cX6_goesOver 80 = .ok (.getfield 98, 3) := by decide +kernel
theorem dX6_goesOver_83 : decode cX6_goesOver 83 = .ok (.aload_n 0, 1) := by decide +kernel
theorem dX6_goesOver_84 : decode cX6_goesOver 84 = .ok (.getfield 19, 3) := by decide +kernel
theorem dX6_goesOver_87 : decode cX6_goesOver 87 = .ok (.iload_n 2, 1) := by decide +kernel
theorem dX6_goesOver_88 : decode cX6_goesOver 88 = .ok (.iaload, 1) := by decide +kernel
theorem dX6_goesOver_89 : decode cX6_goesOver 89 = .ok (.iastore, 1) := by decide +kernel
theorem dX6_goesOver_90 : decode cX6_goesOver 90 = .ok (.aload_n 0, 1) := by decide +kernel
theorem dX6_goesOver_91 : decode cX6_goesOver 91 = .ok (.dup, 1) := by decide +kernel
theorem dX6_goesOver_92 : decode cX6_goesOver 92 = .ok (.getfield 98, 3) := by decide +kernel
theorem dX6_goesOver_95 : decode cX6_goesOver 95 = .ok (.iconst 1, 1) := by decide +kernel
theorem dX6_goesOver_96 : decode cX6_goesOver 96 = .ok (.iadd, 1) := by decide +kernel
theorem dX6_goesOver_97 : decode cX6_goesOver 97 = .ok (.putfield 98, 3) := by decide +kernel
theorem dX6_goesOver_100 : decode cX6_goesOver 100 = .ok (.goto 110, 3) := by decide +kernel
theorem dX6_goesOver_103 : decode cX6_goesOver 103 = .ok (.aload_n 0, 1) := by decide +kernel
theorem dX6_goesOver_104 : decode cX6_goesOver 104 = .ok (.getfield 19, 3) := by decide +kernel
theorem dX6_goesOver_107 : decode cX6_goesOver 107 = .ok (.aload_n 0, 1) := by decide +kernel
theorem dX6_goesOver_108 : decode cX6_goesOver 108 = .ok (.getfield 98, 3) := by decide +kernel
theorem dX6_goesOver_111 : decode cX6_goesOver 111 = .ok (.aload_n 0, 1) := by decide +kernel
theorem dX6_goesOver_112 : decode cX6_goesOver 112 = .ok (.getfield 19, 3) := by decide +kernel
theorem dX6_goesOver_115 : decode cX6_goesOver 115 = .ok (.iload_n 2, 1) := by decide +kernel
theorem dX6_goesOver_116 : decode cX6_goesOver 116 = .ok (.iaload, 1) := by decide +kernel
theorem dX6_goesOver_117 : decode cX6_goesOver 117 = .ok (.aload_n 0, 1) := by decide +kernel
theorem dX6_goesOver_118 : decode cX6_goesOver 118 = .ok (.getfield 19, 3) := by decide +kernel
theorem dX6_goesOver_121 : decode cX6_goesOver 121 = .ok (.iload_n 3, 1) := by decide +kernel
theorem dX6_goesOver_122 : decode cX6_goesOver 122 = .ok (.iaload, 1) := by decide +kernel
theorem dX6_goesOver_123 : decode cX6_goesOver 123 = .ok (.iadd, 1) := by decide +kernel
theorem dX6_goesOver_124 : decode cX6_goesOver 124 = .ok (.ldc 101, 2) := by decide +kernel
theorem dX6_goesOver_126 : decode cX6_goesOver 126 = .ok (.if_icmp .le 8, 3) := by decide +kernel
theorem dX6_goesOver_129 : decode cX6_goesOver 129 = .ok (.ldc 101, 2) := by decide +kernel
theorem dX6_goesOver_131 : decode cX6_goesOver 131 = .ok (.goto 16, 3) := by decide +kernel
theorem dX6_goesOver_134 : decode cX6_goesOver 134 = .ok (.aload_n 0, 1) := by decide +kernel
theorem dX6_goesOver_135 : decode cX6_goesOver 135 = .ok (.getfield 19, 3) := by decide +kernel
theorem dX6_goesOver_138 : decode cX6_goesOver 138 = .ok (.iload_n 2, 1) := by decide +kernel
theorem dX6_goesOver_139 : decode cX6_goesOver 139 = .ok (.iaload, 1) := by decide +kernel
theorem dX6_goesOver_140 : decode cX6_goesOver 140 = .ok (.aload_n 0, 1) := by decide +kernel
theorem dX6_goesOver_141 : decode cX6_goesOver 141 = .ok (.getfield 19, 3) := by decide +kernel
theorem dX6_goesOver_144 : decode cX6_goesOver 144 = .ok (.iload_n 3, 1) := by decide +kernel
theorem dX6_goesOver_145 : decode cX6_goesOver 145 = .ok (.iaload, 1) := by decide +kernel
theorem dX6_goesOver_146 : decode cX6_goesOver 146 = .ok (.iadd, 1) := by decide +kernel
theorem dX6_goesOver_147 : decode cX6_goesOver 147 = .ok (.iastore, 1) := by decide +kernel
theorem dX6_goesOver_148 : decode cX6_goesOver 148 = .ok (.aload_n 0, 1) := by decide +kernel
theorem dX6_goesOver_149 : decode cX6_goesOver 149 = .ok (.dup, 1) := by decide +kernel
theorem dX6_goesOver_150 : decode cX6_goesOver 150 = .ok (.getfield 98, 3) := by decide +kernel
theorem dX6_goesOver_153 : decode cX6_goesOver 153 = .ok (.iconst 1, 1) := by decide +kernel
theorem dX6_goesOver_154 : decode cX6_goesOver 154 = .ok (.iadd, 1) := by decide +kernel
theorem dX6_goesOver_155 : decode cX6_goesOver 155 = .ok (.putfield 98, 3) := by decide +kernel
theorem dX6_goesOver_158 : decode cX6_goesOver 158 = .ok (.goto 52, 3) := by decide +kernel
theorem dX6_goesOver_161 : decode cX6_goesOver 161 = .ok (.iload_n 2, 1) := by decide +kernel
theorem dX6_goesOver_162 : decode cX6_goesOver 162 = .ok (.istore 4, 2) := by decide +kernel
theorem dX6_goesOver_164 : decode cX6_goesOver 164 = .ok (.iload 4, 2) := by decide +kernel
theorem dX6_goesOver_166 : decode cX6_goesOver 166 = .ok (.aload_n 0, 1) := by decide +kernel
theorem dX6_goesOver_167 : decode cX6_goesOver 167 = .ok (.getfield 98, 3) := by decide +kernel
theorem dX6_goesOver_170 : decode cX6_goesOver 170 = .ok (.iconst 1, 1) := by decide +kernel
theorem dX6_goesOver_171 : decode cX6_goesOver 171 = .ok (.isub, 1) := by decide +kernel
theorem dX6_goesOver_172 : decode cX6_goesOver 172 = .ok (.if_icmp .ge 25, 3) := by decide +kernel
theorem dX6_goesOver_175 : decode cX6_goesOver 175 = .ok (.aload_n 0, 1) := by decide +kernel
theorem dX6_goesOver_176 : decode cX6_goesOver 176 = .ok (.getfield 19, 3) := by decide +kernel
theorem dX6_goesOver_179 : decode cX6_goesOver 179 = .ok (.iload 4, 2) := by decide +kernel
theorem dX6_goesOver_181 : decode cX6_goesOver 181 = .ok (.aload_n 0, 1) := by decide +kernel
theorem dX6_goesOver_182 : decode cX6_goesOver 182 = .ok (.getfield 19, 3) := by decide +kernel
theorem dX6_goesOver_185 : decode cX6_goesOver 185 = .ok (.iload 4, 2) := by decide +kernel
theorem dX6_goesOver_187 : decode cX6_goesOver 187 = .ok (.iconst 1, 1) := by decide +kernel
theorem dX6_goesOver_188 : decode cX6_goesOver 188 = .ok (.iadd, 1) := by decide +kernel
theorem dX6_goesOver_189 : decode cX6_goesOver 189 = .ok (.iaload, 1) := by decide +kernel
theorem dX6_goesOver_190 : decode cX6_goesOver 190 = .ok (.iastore, 1) := by decide +kernel
theorem dX6_goesOver_191 : decode cX6_goesOver 191 = .ok (.iinc 4 1, 3) := by decide +kernel
theorem dX6_goesOver_194 : decode cX6_goesOver 194 = .ok (.goto (-30), 3) := by decide +kernel
theorem dX6_goesOver_197 : decode cX6_goesOver 197 = .ok (.aload_n 0, 1) := by decide +kernel
theorem dX6_goesOver_198 : decode cX6_goesOver 198 = .ok (.dup, 1) := by decide +kernel
theorem dX6_goesOver_199 : decode cX6_goesOver 199 = .ok (.getfield 98, 3) := by decide +kernel
theorem dX6_goesOver_202 : decode cX6_goesOver 202 = .ok (.iconst 1, 1) := by decide +kernel
theorem dX6_goesOver_203 : decode cX6_goesOver 203 = .ok (.isub, 1) := by decide +kernel
theorem dX6_goesOver_204 : decode cX6_goesOver 204 = .ok (.putfield 98, 3) := by decide +kernel
theorem dX6_goesOver_207 : decode cX6_goesOver 207 = .ok (.goto 3, 3) := by decide +kernel
theorem dX6_goesOver_210 : decode cX6_goesOver 210 = .ok (.return_, 1) := by decide +kernel
theorem dX6_goesBack_0 : decode cX6_goesBack 0 = .ok (.aload_n 0, 1) := by decide +kernel
theorem dX6_goesBack_1 : decode cX6_goesBack 1 = .ok (.iload_n 1, 1) := by decide +kernel
theorem dX6_goesBack_2 : decode cX6_goesBack 2 = .ok (.bipush 17, 2) := by decide +kernel
theorem dX6_goesBack_4 : decode cX6_goesBack 4 = .ok (.invokevirtual 36, 3) := by decide +kernel
theorem dX6_goesBack_7 : decode cX6_goesBack 7 = .ok (.istore_n 2, 1) := by decide +kernel
theorem dX6_goesBack_8 : decode cX6_goesBack 8 = .ok (.iload_n 2, 1) := by decide +kernel
theorem dX6_goesBack_9 : decode cX6_goesBack 9 = .ok (.iconst 4, 1) := by decide +kernel
theorem dX6_goesBack_10 : decode cX6_goesBack 10 = .ok (.if_icmp .ge 16, 3) := by decide +kernel
theorem dX6_goesBack_13 : decode cX6_goesBack 13 = .ok (.aload_n 0, 1) := by decide +kernel
theorem dX6_goesBack_14 : decode cX6_goesBack 14 = .ok (.dup, 1) := by decide +kernel
theorem dX6_goesBack_15 : decode cX6_goesBack 15 = .ok (.getfield 98, 3) := by decide +kernel
theorem dX6_goesBack_18 : decode cX6_goesBack 18 = .ok (.iconst 1, 1) := by decide +kernel
theorem dX6_goesBack_19 : decode cX6_goesBack 19 = .ok (.isub, 1) := by decide +kernel
theorem dX6_goesBack_20 : decode cX6_goesBack 20 = .ok (.putfield 98, 3) := by decide +kernel
theorem dX6_goesBack_23 : decode cX6_goesBack 23 = .ok (.goto 73, 3) := by decide +kernel
theorem dX6_goesBack_26 : decode cX6_goesBack 26 = .ok (.iload_n 2, 1) := by decide +kernel
theorem dX6_goesBack_27 : decode cX6_goesBack 27 = .ok (.iconst 4, 1) := by decide +kernel
theorem dX6_goesBack_28 : decode cX6_goesBack 28 = .ok (.if_icmp .ne 68, 3) := by decide +kernel
theorem dX6_goesBack_31 : decode cX6_goesBack 31 = .ok (.aload_n 0, 1) := by decide +kernel
theorem dX6_goesBack_32 : decode cX6_goesBack 32 = .ok (.getfield 98, 3) := by decide +kernel
theorem dX6_goesBack_35 : decode cX6_goesBack 35 = .ok (.istore_n 3, 1) := by decide +kernel
theorem dX6_goesBack_36 : decode cX6_goesBack 36 = .ok (.iload_n 3, 1) := by decide +kernel
theorem dX6_goesBack_37 : decode cX6_goesBack 37 = .ok (.aload_n 0, 1) := by decide +kernel
theorem dX6_goesBack_38 : decode cX6_goesBack 38 = .ok (.iload_n 1, 1) := by decide +kernel
theorem dX6_goesBack_39 : decode cX6_goesBack 39 = .ok (.bipush 18, 2) := by decide +kernel
theorem dX6_goesBack_41 : decode cX6_goesBack 41 = .ok (.invokevirtual 36, 3) := by decide +kernel
theorem dX6_goesBack_44 : decode cX6_goesBack 44 = .ok (.if_icmp .le 23, 3) := by decide +kernel
theorem dX6_goesBack_47 : decode cX6_goesBack 47 = .ok (.aload_n 0, 1) := by decide +kernel
theorem dX6_goesBack_48 : decode cX6_goesBack 48 = .ok (.getfield 19, 3) := by decide +kernel
theorem dX6_goesBack_51 : decode cX6_goesBack 51 = .ok (.iload_n 3, 1) := by decide +kernel
theorem dX6_goesBack_52 : decode cX6_goesBack 52 = .ok (.aload_n 0, 1) := by decide +kernel
theorem dX6_goesBack_53 : decode cX6_goesBack 53 = .ok (.getfield 19, 3) := by decide +kernel
theorem dX6_goesBack_56 : decode cX6_goesBack 56 = .ok (.iload_n 3, 1) := by decide +kernel
theorem dX6_goesBack_57 : decode cX6_goesBack 57 = .ok (.iconst 1, 1) := by decide +kernel
theorem dX6_goesBack_58 : decode cX6_goesBack 58 = .ok (.isub, 1) := by decide +kernel
theorem dX6_goesBack_59 : decode cX6_goesBack 59 = .ok (.iaload, 1) := by decide +kernel
theorem dX6_goesBack_60 : decode cX6_goesBack 60 = .ok (.iastore, 1) := by decide +kernel
theorem dX6_goesBack_61 : decode cX6_goesBack 61 = .ok (.iinc 3 (-1), 3) := by decide +kernel
theorem dX6_goesBack_64 : decode cX6_goesBack 64 = .ok (.goto (-28), 3) := by decide +kernel
theorem dX6_goesBack_67 : decode cX6_goesBack 67 = .ok (.aload_n 0, 1) := by decide +kernel
theorem dX6_goesBack_68 : decode cX6_goesBack 68 = .ok (.getfield 19, 3) := by decide +kernel
theorem dX6_goesBack_71 : decode cX6_goesBack 71 = .ok (.aload_n 0, 1) := by decide +kernel
theorem dX6_goesBack_72 : decode cX6_goesBack 72 = .ok (.iload_n 1, 1) := by decide +kernel
theorem dX6_goesBack_73 : decode cX6_goesBack 73 = .ok (.bipush 18, 2) := by decide +kernel
theorem dX6_goesBack_75 : decode cX6_goesBack 75 = .ok (.invokevirtual 36, 3) := by decide +kernel
theorem dX6_goesBack_78 : decode cX6_goesBack 78 = .ok (.aload_n 0, 1) := by decide +kernel
theorem dX6_goesBack_79 : decode cX6_goesBack 79 = .ok (.iload_n 1, 1) := by decide +kernel
theorem dX6_goesBack_80 : decode cX6_goesBack 80 = .ok (.bipush 19, 2) := by decide +kernel
theorem dX6_goesBack_82 : decode cX6_goesBack 82 = .ok (.invokevirtual 36, 3) := by decide +kernel
theorem dX6_goesBack_85 : decode cX6_goesBack 85 = .ok (.iastore, 1) := by decide +kernel
theorem dX6_goesBack_86 : decode cX6_goesBack 86 = .ok (.aload_n 0, 1) := by decide +kernel
theorem dX6_goesBack_87 : decode cX6_goesBack 87 = .ok (.dup, 1) := by decide +kernel
theorem dX6_goesBack_88 : decode cX6_goesBack 88 = .ok (.getfield 98, 3) := by decide +kernel
theorem dX6_goesBack_91 : decode cX6_goesBack 91 = .ok (.iconst 1, 1) := by decide +kernel
theorem dX6_goesBack_92 : decode cX6_goesBack 92 = .ok (.iadd, 1) := by decide +kernel
theorem dX6_goesBack_93 : decode cX6_goesBack 93 = .ok (.putfield 98, 3) := by decide +kernel
theorem dX6_goesBack_96 : decode cX6_goesBack 96 = .ok (.return_, 1) := by decide +kernel
theorem dX6_goes_0 : decode cX6_goes 0 = .ok (.iload_n 1, 1) := by decide +kernel
theorem dX6_goes_1 : decode cX6_goes 1 = .ok (.iconst 1, 1) := by decide +kernel
theorem dX6_goes_2 : decode cX6_goes 2 = .ok (.iadd, 1) := by decide +kernel
theorem dX6_goes_3 : decode cX6_goes 3 = .ok (.istore_n 3, 1) := by decide +kernel
theorem dX6_goes_4 : decode cX6_goes 4 = .ok (.iload_n 3, 1) := by decide +kernel
theorem dX6_goes_5 : decode cX6_goes 5 = .ok (.iload_n 2, 1) := by decide +kernel
theorem dX6_goes_6 : decode cX6_goes 6 = .ok (.if_icmp .gt 14, 3) := by decide +kernel
theorem dX6_goes_9 : decode cX6_goes 9 = .ok (.aload_n 0, 1) := by decide +kernel
theorem dX6_goes_10 : decode cX6_goes 10 = .ok (.iload_n 3, 1) := by decide +kernel
theorem dX6_goes_11 : decode cX6_goes 11 = .ok (.invokevirtual 102, 3) := by decide +kernel
theorem dX6_goes_14 : decode cX6_goes 14 = .ok (.iinc 3 1, 3) := by decide +kernel
theorem dX6_goes_17 : decode cX6_goes 17 = .ok (.goto (-13), 3) := by decide +kernel
theorem dX6_goes_20 : decode cX6_goes 20 = .ok (.iload_n 1, 1) := by decide +kernel
theorem dX6_goes_21 : decode cX6_goes 21 = .ok (.istore_n 3, 1) := by decide +kernel
theorem dX6_goes_22 : decode cX6_goes 22 = .ok (.iload_n 3, 1) := by decide +kernel
theorem dX6_goes_23 : decode cX6_goes 23 = .ok (.iload_n 2, 1) := by decide +kernel
theorem dX6_goes_24 : decode cX6_goes 24 = .ok (.if_icmp .le 14, 3) := by decide +kernel
theorem dX6_goes_27 : decode cX6_goes 27 = .ok (.aload_n 0, 1) := by decide +kernel
theorem dX6_goes_28 : decode cX6_goes 28 = .ok (.iload_n 3, 1) := by decide +kernel
theorem dX6_goes_29 : decode cX6_goes 29 = .ok (.invokevirtual 105, 3) := by decide +kernel
theorem dX6_goes_32 : decode cX6_goes 32 = .ok (.iinc 3 (-1), 3) := by decide +kernel
theorem dX6_goes_35 : decode cX6_goes 35 = .ok (.goto (-13), 3) := by decide +kernel
theorem dX6_goes_38 : decode cX6_goes 38 = .ok (.return_, 1) := by decide +kernel
theorem dX6_reads_0 : decode cX6_reads 0 = .ok (.aload_n 0, 1) := by decide +kernel
theorem dX6_reads_1 : decode cX6_reads 1 = .ok (.aload_n 0, 1) := by decide +kernel
theorem dX6_reads_2 : decode cX6_reads 2 = .ok (.aload_n 0, 1) := by decide +kernel
theorem dX6_reads_3 : decode cX6_reads 3 = .ok (.iload_n 1, 1) := by decide +kernel
theorem dX6_reads_4 : decode cX6_reads 4 = .ok (.iconst 0, 1) := by decide +kernel
theorem dX6_reads_5 : decode cX6_reads 5 = .ok (.invokevirtual 108, 3) := by decide +kernel
theorem dX6_reads_8 : decode cX6_reads 8 = .ok (.iconst 0, 1) := by decide +kernel
theorem dX6_reads_9 : decode cX6_reads 9 = .ok (.invokevirtual 36, 3) := by decide +kernel
theorem dX6_reads_12 : decode cX6_reads 12 = .ok (.putfield 98, 3) := by decide +kernel
theorem dX6_reads_15 : decode cX6_reads 15 = .ok (.iconst 0, 1) := by decide +kernel
theorem dX6_reads_16 : decode cX6_reads 16 = .ok (.istore_n 3, 1) := by decide +kernel
theorem dX6_reads_17 : decode cX6_reads 17 = .ok (.iload_n 3, 1) := by decide +kernel
theorem dX6_reads_18 : decode cX6_reads 18 = .ok (.aload_n 0, 1) := by decide +kernel
theorem dX6_reads_19 : decode cX6_reads 19 = .ok (.getfield 98, 3) := by decide +kernel
theorem dX6_reads_22 : decode cX6_reads 22 = .ok (.if_icmp .ge 23, 3) := by decide +kernel
theorem dX6_reads_25 : decode cX6_reads 25 = .ok (.aload_n 0, 1) := by decide +kernel
theorem dX6_reads_26 : decode cX6_reads 26 = .ok (.getfield 19, 3) := by decide +kernel
theorem dX6_reads_29 : decode cX6_reads 29 = .ok (.iload_n 3, 1) := by decide +kernel
theorem dX6_reads_30 : decode cX6_reads 30 = .ok (.aload_n 0, 1) := by decide +kernel
theorem dX6_reads_31 : decode cX6_reads 31 = .ok (.iload_n 1, 1) := by decide +kernel
theorem dX6_reads_32 : decode cX6_reads 32 = .ok (.iconst 2, 1) := by decide +kernel
theorem dX6_reads_33 : decode cX6_reads 33 = .ok (.iload_n 3, 1) := by decide +kernel
theorem dX6_reads_34 : decode cX6_reads 34 = .ok (.iadd, 1) := by decide +kernel
theorem dX6_reads_35 : decode cX6_reads 35 = .ok (.invokevirtual 108, 3) := by decide +kernel
theorem dX6_reads_38 : decode cX6_reads 38 = .ok (.iastore, 1) := by decide +kernel
theorem dX6_reads_39 : decode cX6_reads 39 = .ok (.iinc 3 1, 3) := by decide +kernel
theorem dX6_reads_42 : decode cX6_reads 42 = .ok (.goto (-25), 3) := by decide +kernel
theorem dX6_reads_45 : decode cX6_reads 45 = .ok (.aload_n 0, 1) := by decide +kernel
theorem dX6_reads_46 : decode cX6_reads 46 = .ok (.aload_n 0, 1) := by decide +kernel
theorem dX6_reads_47 : decode cX6_reads 47 = .ok (.iload_n 1, 1) := by decide +kernel
theorem dX6_reads_48 : decode cX6_reads 48 = .ok (.iconst 0, 1) := by decide +kernel
theorem dX6_reads_49 : decode cX6_reads 49 = .ok (.invokevirtual 108, 3) := by decide +kernel
theorem dX6_reads_52 : decode cX6_reads 52 = .ok (.iload_n 2, 1) := by decide +kernel
theorem dX6_reads_53 : decode cX6_reads 53 = .ok (.invokevirtual 111, 3) := by decide +kernel
theorem dX6_reads_56 : decode cX6_reads 56 = .ok (.return_, 1) := by decide +kernel
theorem dX6_rewrites_0 : decode cX6_rewrites 0 = .ok (.aload_n 0, 1) := by decide +kernel
theorem dX6_rewrites_1 : decode cX6_rewrites 1 = .ok (.iload_n 1, 1) := by decide +kernel
theorem dX6_rewrites_2 : decode cX6_rewrites 2 = .ok (.iload_n 2, 1) := by decide +kernel
theorem dX6_rewrites_3 : decode cX6_rewrites 3 = .ok (.invokevirtual 114, 3) := by decide +kernel
theorem dX6_rewrites_6 : decode cX6_rewrites 6 = .ok (.iconst 0, 1) := by decide +kernel
theorem dX6_rewrites_7 : decode cX6_rewrites 7 = .ok (.istore_n 3, 1) := by decide +kernel
theorem dX6_rewrites_8 : decode cX6_rewrites 8 = .ok (.iload_n 3, 1) := by decide +kernel
theorem dX6_rewrites_9 : decode cX6_rewrites 9 = .ok (.bipush 8, 2) := by decide +kernel
theorem dX6_rewrites_11 : decode cX6_rewrites 11 = .ok (.if_icmp .ge 35, 3) := by decide +kernel
theorem dX6_rewrites_14 : decode cX6_rewrites 14 = .ok (.aload_n 0, 1) := by decide +kernel
theorem dX6_rewrites_15 : decode cX6_rewrites 15 = .ok (.iload_n 1, 1) := by decide +kernel
theorem dX6_rewrites_16 : decode cX6_rewrites 16 = .ok (.iconst 2, 1) := by decide +kernel
theorem dX6_rewrites_17 : decode cX6_rewrites 17 = .ok (.iload_n 3, 1) := by decide +kernel
theorem dX6_rewrites_18 : decode cX6_rewrites 18 = .ok (.iadd, 1) := by decide +kernel
theorem dX6_rewrites_19 : decode cX6_rewrites 19 = .ok (.iload_n 3, 1) := by decide +kernel
theorem dX6_rewrites_20 : decode cX6_rewrites 20 = .ok (.aload_n 0, 1) := by decide +kernel
theorem dX6_rewrites_21 : decode cX6_rewrites 21 = .ok (.getfield 98, 3) := by decide +kernel
theorem dX6_rewrites_24 : decode cX6_rewrites 24 = .ok (.if_icmp .ge 12, 3) := by decide +kernel
theorem dX6_rewrites_27 : decode cX6_rewrites 27 = .ok (.aload_n 0, 1) := by decide +kernel
theorem dX6_rewrites_28 : decode cX6_rewrites 28 = .ok (.getfield 19, 3) := by decide +kernel
theorem dX6_rewrites_31 : decode cX6_rewrites 31 = .ok (.iload_n 3, 1) := by decide +kernel
theorem dX6_rewrites_32 : decode cX6_rewrites 32 = .ok (.iaload, 1) := by decide +kernel
theorem dX6_rewrites_33 : decode cX6_rewrites 33 = .ok (.goto 4, 3) := by decide +kernel
theorem dX6_rewrites_36 : decode cX6_rewrites 36 = .ok (.iconst 0, 1) := by decide +kernel
theorem dX6_rewrites_37 : decode cX6_rewrites 37 = .ok (.invokevirtual 117, 3) := by decide +kernel
theorem dX6_rewrites_40 : decode cX6_rewrites 40 = .ok (.iinc 3 1, 3) := by decide +kernel
theorem dX6_rewrites_43 : decode cX6_rewrites 43 = .ok (.goto (-35), 3) := by decide +kernel
theorem dX6_rewrites_46 : decode cX6_rewrites 46 = .ok (.aload_n 0, 1) := by decide +kernel
theorem dX6_rewrites_47 : decode cX6_rewrites 47 = .ok (.iload_n 1, 1) := by decide +kernel
theorem dX6_rewrites_48 : decode cX6_rewrites 48 = .ok (.iconst 0, 1) := by decide +kernel
theorem dX6_rewrites_49 : decode cX6_rewrites 49 = .ok (.iload_n 2, 1) := by decide +kernel
theorem dX6_rewrites_50 : decode cX6_rewrites 50 = .ok (.invokevirtual 117, 3) := by decide +kernel
theorem dX6_rewrites_53 : decode cX6_rewrites 53 = .ok (.aload_n 0, 1) := by decide +kernel
theorem dX6_rewrites_54 : decode cX6_rewrites 54 = .ok (.iload_n 1, 1) := by decide +kernel
theorem dX6_rewrites_55 : decode cX6_rewrites 55 = .ok (.iconst 1, 1) := by decide +kernel
theorem dX6_rewrites_56 : decode cX6_rewrites 56 = .ok (.aload_n 0, 1) := by decide +kernel
theorem dX6_rewrites_57 : decode cX6_rewrites 57 = .ok (.iload_n 1, 1) := by decide +kernel
theorem dX6_rewrites_58 : decode cX6_rewrites 58 = .ok (.iconst 1, 1) := by decide +kernel
theorem dX6_rewrites_59 : decode cX6_rewrites 59 = .ok (.invokevirtual 108, 3) := by decide +kernel
theorem dX6_rewrites_62 : decode cX6_rewrites 62 = .ok (.iconst 1, 1) := by decide +kernel
theorem dX6_rewrites_63 : decode cX6_rewrites 63 = .ok (.iadd, 1) := by decide +kernel
theorem dX6_rewrites_64 : decode cX6_rewrites 64 = .ok (.invokevirtual 117, 3) := by decide +kernel
theorem dX6_rewrites_67 : decode cX6_rewrites 67 = .ok (.aload_n 0, 1) := by decide +kernel
theorem dX6_rewrites_68 : decode cX6_rewrites 68 = .ok (.getfield 7, 3) := by decide +kernel
theorem dX6_rewrites_71 : decode cX6_rewrites 71 = .ok (.iconst 4, 1) := by decide +kernel
theorem dX6_rewrites_72 : decode cX6_rewrites 72 = .ok (.dup2, 1) := by decide +kernel
theorem dX6_rewrites_73 : decode cX6_rewrites 73 = .ok (.iaload, 1) := by decide +kernel
theorem dX6_rewrites_74 : decode cX6_rewrites 74 = .ok (.iconst 1, 1) := by decide +kernel
theorem dX6_rewrites_75 : decode cX6_rewrites 75 = .ok (.iadd, 1) := by decide +kernel
theorem dX6_rewrites_76 : decode cX6_rewrites 76 = .ok (.iastore, 1) := by decide +kernel
theorem dX6_rewrites_77 : decode cX6_rewrites 77 = .ok (.return_, 1) := by decide +kernel
theorem dX6_inserts_0 : decode cX6_inserts 0 = .ok (.iconst 0, 1) := by decide +kernel
theorem dX6_inserts_1 : decode cX6_inserts 1 = .ok (.istore_n 2, 1) := by decide +kernel
theorem dX6_inserts_2 : decode cX6_inserts 2 = .ok (.iload_n 2, 1) := by decide +kernel
theorem dX6_inserts_3 : decode cX6_inserts 3 = .ok (.bipush 10, 2) := by decide +kernel
theorem dX6_inserts_5 : decode cX6_inserts 5 = .ok (.if_icmp .ge 21, 3) := by decide +kernel
theorem dX6_inserts_8 : decode cX6_inserts 8 = .ok (.aload_n 0, 1) := by decide +kernel
theorem dX6_inserts_9 : decode cX6_inserts 9 = .ok (.aload_n 0, 1) := by decide +kernel
theorem dX6_inserts_10 : decode cX6_inserts 10 = .ok (.getfield 7, 3) := by decide +kernel
theorem dX6_inserts_13 : decode cX6_inserts 13 = .ok (.iconst 2, 1) := by decide +kernel
theorem dX6_inserts_14 : decode cX6_inserts 14 = .ok (.iaload, 1) := by decide +kernel
theorem dX6_inserts_15 : decode cX6_inserts 15 = .ok (.iload_n 2, 1) := by decide +kernel
theorem dX6_inserts_16 : decode cX6_inserts 16 = .ok (.iconst 0, 1) := by decide +kernel
theorem dX6_inserts_17 : decode cX6_inserts 17 = .ok (.invokevirtual 117, 3) := by decide +kernel
theorem dX6_inserts_20 : decode cX6_inserts 20 = .ok (.iinc 2 1, 3) := by decide +kernel
theorem dX6_inserts_23 : decode cX6_inserts 23 = .ok (.goto (-21), 3) := by decide +kernel
theorem dX6_inserts_26 : decode cX6_inserts 26 = .ok (.aload_n 0, 1) := by decide +kernel
theorem dX6_inserts_27 : decode cX6_inserts 27 = .ok (.aload_n 0, 1) := by decide +kernel
theorem dX6_inserts_28 : decode cX6_inserts 28 = .ok (.getfield 7, 3) := by decide +kernel
theorem dX6_inserts_31 : decode cX6_inserts 31 = .ok (.iconst 2, 1) := by decide +kernel
theorem dX6_inserts_32 : decode cX6_inserts 32 = .ok (.iaload, 1) := by decide +kernel
theorem dX6_inserts_33 : decode cX6_inserts 33 = .ok (.iconst 0, 1) := by decide +kernel
theorem dX6_inserts_34 : decode cX6_inserts 34 = .ok (.iload_n 1, 1) := by decide +kernel
theorem dX6_inserts_35 : decode cX6_inserts 35 = .ok (.invokevirtual 117, 3) := by decide +kernel
theorem dX6_inserts_38 : decode cX6_inserts 38 = .ok (.aload_n 0, 1) := by decide +kernel
theorem dX6_inserts_39 : decode cX6_inserts 39 = .ok (.getfield 7, 3) := by decide +kernel
theorem dX6_inserts_42 : decode cX6_inserts 42 = .ok (.iconst 2, 1) := by decide +kernel
theorem dX6_inserts_43 : decode cX6_inserts 43 = .ok (.dup2, 1) := by decide +kernel
theorem dX6_inserts_44 : decode cX6_inserts 44 = .ok (.iaload, 1) := by decide +kernel
theorem dX6_inserts_45 : decode cX6_inserts 45 = .ok (.iconst 1, 1) := by decide +kernel
theorem dX6_inserts_46 : decode cX6_inserts 46 = .ok (.iadd, 1) := by decide +kernel
theorem dX6_inserts_47 : decode cX6_inserts 47 = .ok (.iastore, 1) := by decide +kernel
theorem dX6_inserts_48 : decode cX6_inserts 48 = .ok (.return_, 1) := by decide +kernel
theorem dX6_insert_0 : decode cX6_insert 0 = .ok (.aload_n 0, 1) := by decide +kernel
theorem dX6_insert_1 : decode cX6_insert 1 = .ok (.iconst 0, 1) := by decide +kernel
theorem dX6_insert_2 : decode cX6_insert 2 = .ok (.putfield 25, 3) := by decide +kernel
theorem dX6_insert_5 : decode cX6_insert 5 = .ok (.aload_n 0, 1) := by decide +kernel
theorem dX6_insert_6 : decode cX6_insert 6 = .ok (.getfield 7, 3) := by decide +kernel
theorem dX6_insert_9 : decode cX6_insert 9 = .ok (.iconst 2, 1) := by decide +kernel
theorem dX6_insert_10 : decode cX6_insert 10 = .ok (.iaload, 1) := by decide +kernel
theorem dX6_insert_11 : decode cX6_insert 11 = .ok (.bipush 12, 2) := by decide +kernel
theorem dX6_insert_13 : decode cX6_insert 13 = .ok (.if_icmp .ne 9, 3) := by decide +kernel
theorem dX6_insert_16 : decode cX6_insert 16 = .ok (.aload_n 0, 1) := by decide +kernel
theorem dX6_insert_17 : decode cX6_insert 17 = .ok (.iconst 1, 1) := by decide +kernel
theorem dX6_insert_18 : decode cX6_insert 18 = .ok (.invokevirtual 120, 3) := by decide +kernel
theorem dX6_insert_21 : decode cX6_insert 21 = .ok (.ireturn, 1) := by decide +kernel
theorem dX6_insert_22 : decode cX6_insert 22 = .ok (.aload_n 0, 1) := by decide +kernel
theorem dX6_insert_23 : decode cX6_insert 23 = .ok (.invokevirtual 72, 3) := by decide +kernel
theorem dX6_insert_26 : decode cX6_insert 26 = .ok (.aload_n 0, 1) := by decide +kernel
theorem dX6_insert_27 : decode cX6_insert 27 = .ok (.aload_n 0, 1) := by decide +kernel
theorem dX6_insert_28 : decode cX6_insert 28 = .ok (.invokevirtual 44, 3) := by decide +kernel
theorem dX6_insert_31 : decode cX6_insert 31 = .ok (.invokevirtual 124, 3) := by decide +kernel
theorem dX6_insert_34 : decode cX6_insert 34 = .ok (.aload_n 0, 1) := by decide +kernel
theorem dX6_insert_35 : decode cX6_insert 35 = .ok (.getfield 7, 3) := by decide +kernel
theorem dX6_insert_38 : decode cX6_insert 38 = .ok (.iconst 2, 1) := by decide +kernel
theorem dX6_insert_39 : decode cX6_insert 39 = .ok (.iaload, 1) := by decide +kernel
theorem dX6_insert_40 : decode cX6_insert 40 = .ok (.iconst 1, 1) := by decide +kernel
theorem dX6_insert_41 : decode cX6_insert 41 = .ok (.isub, 1) := by decide +kernel
theorem dX6_insert_42 : decode cX6_insert 42 = .ok (.ireturn, 1) := by decide +kernel
theorem dX6_insertBy_0 : decode cX6_insertBy 0 = .ok (.aload_n 0, 1) := by decide +kernel
theorem dX6_insertBy_1 : decode cX6_insertBy 1 = .ok (.iconst 0, 1) := by decide +kernel
theorem dX6_insertBy_2 : decode cX6_insertBy 2 = .ok (.putfield 25, 3) := by decide +kernel
theorem dX6_insertBy_5 : decode cX6_insertBy 5 = .ok (.aload_n 0, 1) := by decide +kernel
theorem dX6_insertBy_6 : decode cX6_insertBy 6 = .ok (.iload_n 1, 1) := by decide +kernel
theorem dX6_insertBy_7 : decode cX6_insertBy 7 = .ok (.invokevirtual 127, 3) := by decide +kernel
theorem dX6_insertBy_10 : decode cX6_insertBy 10 = .ok (.ifCond .ne 9, 3) := by decide +kernel
theorem dX6_insertBy_13 : decode cX6_insertBy 13 = .ok (.aload_n 0, 1) := by decide +kernel
theorem dX6_insertBy_14 : decode cX6_insertBy 14 = .ok (.iconst 1, 1) := by decide +kernel
theorem dX6_insertBy_15 : decode cX6_insertBy 15 = .ok (.invokevirtual 120, 3) := by decide +kernel
theorem dX6_insertBy_18 : decode cX6_insertBy 18 = .ok (.ireturn, 1) := by decide +kernel
theorem dX6_insertBy_19 : decode cX6_insertBy 19 = .ok (.aload_n 0, 1) := by decide +kernel
theorem dX6_insertBy_20 : decode cX6_insertBy 20 = .ok (.getfield 7, 3) := by decide +kernel
theorem dX6_insertBy_23 : decode cX6_insertBy 23 = .ok (.iconst 2, 1) := by decide +kernel
theorem dX6_insertBy_24 : decode cX6_insertBy 24 = .ok (.iaload, 1) := by decide +kernel
theorem dX6_insertBy_25 : decode cX6_insertBy 25 = .ok (.bipush 12, 2) := by decide +kernel
theorem dX6_insertBy_27 : decode cX6_insertBy 27 = .ok (.if_icmp .ne 9, 3) := by decide +kernel
theorem dX6_insertBy_30 : decode cX6_insertBy 30 = .ok (.aload_n 0, 1) := by decide +kernel
theorem dX6_insertBy_31 : decode cX6_insertBy 31 = .ok (.iconst 2, 1) := by decide +kernel
theorem dX6_insertBy_32 : decode cX6_insertBy 32 = .ok (.invokevirtual 120, 3) := by decide +kernel
theorem dX6_insertBy_35 : decode cX6_insertBy 35 = .ok (.ireturn, 1) := by decide +kernel
theorem dX6_insertBy_36 : decode cX6_insertBy 36 = .ok (.aload_n 0, 1) := by decide +kernel
theorem dX6_insertBy_37 : decode cX6_insertBy 37 = .ok (.invokevirtual 72, 3) := by decide +kernel
theorem dX6_insertBy_40 : decode cX6_insertBy 40 = .ok (.aload_n 0, 1) := by decide +kernel
theorem dX6_insertBy_41 : decode cX6_insertBy 41 = .ok (.iload_n 1, 1) := by decide +kernel
theorem dX6_insertBy_42 : decode cX6_insertBy 42 = .ok (.invokevirtual 124, 3) := by decide +kernel
theorem dX6_insertBy_45 : decode cX6_insertBy 45 = .ok (.aload_n 0, 1) := by decide +kernel
theorem dX6_insertBy_46 : decode cX6_insertBy 46 = .ok (.getfield 7, 3) := by decide +kernel
theorem dX6_insertBy_49 : decode cX6_insertBy 49 = .ok (.iconst 2, 1) := by decide +kernel
theorem dX6_insertBy_50 : decode cX6_insertBy 50 = .ok (.iaload, 1) := by decide +kernel
theorem dX6_insertBy_51 : decode cX6_insertBy 51 = .ok (.iconst 1, 1) := by decide +kernel
theorem dX6_insertBy_52 : decode cX6_insertBy 52 = .ok (.isub, 1) := by decide +kernel
theorem dX6_insertBy_53 : decode cX6_insertBy 53 = .ok (.ireturn, 1) := by decide +kernel
theorem dX6_isAgainst_0 : decode cX6_isAgainst 0 = .ok (.aload_n 0, 1) := by decide +kernel
theorem dX6_isAgainst_1 : decode cX6_isAgainst 1 = .ok (.iload_n 2, 1) := by decide +kernel
theorem dX6_isAgainst_2 : decode cX6_isAgainst 2 = .ok (.iload_n 3, 1) := by decide +kernel
theorem dX6_isAgainst_3 : decode cX6_isAgainst 3 = .ok (.invokevirtual 48, 3) := by decide +kernel
theorem dX6_isAgainst_6 : decode cX6_isAgainst 6 = .ok (.istore 4, 2) := by decide +kernel
theorem dX6_isAgainst_8 : decode cX6_isAgainst 8 = .ok (.iload 4, 2) := by decide +kernel
theorem dX6_isAgainst_10 : decode cX6_isAgainst 10 = .ok (.iconst (-1), 1) := by decide +kernel
theorem dX6_isAgainst_11 : decode cX6_isAgainst 11 = .ok (.if_icmp .ne 5, 3) := by decide +kernel
theorem dX6_isAgainst_14 : decode cX6_isAgainst 14 = .ok (.iconst 1, 1) := by decide +kernel
theorem dX6_isAgainst_15 : decode cX6_isAgainst 15 = .ok (.ireturn, 1) := by decide +kernel
theorem dX6_isAgainst_16 : decode cX6_isAgainst 16 = .ok (.aload_n 0, 1) := by decide +kernel
theorem dX6_isAgainst_17 : decode cX6_isAgainst 17 = .ok (.iload_n 1, 1) := by decide +kernel
theorem dX6_isAgainst_18 : decode cX6_isAgainst 18 = .ok (.iconst 0, 1) := by decide +kernel
theorem dX6_isAgainst_19 : decode cX6_isAgainst 19 = .ok (.invokevirtual 108, 3) := by decide +kernel
theorem dX6_isAgainst_22 : decode cX6_isAgainst 22 = .ok (.istore 5, 2) := by decide +kernel
theorem dX6_isAgainst_24 : decode cX6_isAgainst 24 = .ok (.aload_n 0, 1) := by decide +kernel
theorem dX6_isAgainst_25 : decode cX6_isAgainst 25 = .ok (.iload 5, 2) := by decide +kernel
theorem dX6_isAgainst_27 : decode cX6_isAgainst 27 = .ok (.aload_n 0, 1) := by decide +kernel
theorem dX6_isAgainst_28 : decode cX6_isAgainst 28 = .ok (.iload_n 2, 1) := by decide +kernel
theorem dX6_isAgainst_29 : decode cX6_isAgainst 29 = .ok (.iconst 1, 1) := by decide +kernel
theorem dX6_isAgainst_30 : decode cX6_isAgainst 30 = .ok (.iload 4, 2) := by decide +kernel
theorem dX6_isAgainst_32 : decode cX6_isAgainst 32 = .ok (.iadd, 1) := by decide +kernel
theorem dX6_isAgainst_33 : decode cX6_isAgainst 33 = .ok (.invokevirtual 36, 3) := by decide +kernel
theorem dX6_isAgainst_36 : decode cX6_isAgainst 36 = .ok (.invokevirtual 130, 3) := by decide +kernel
theorem dX6_isAgainst_39 : decode cX6_isAgainst 39 = .ok (.iconst (-1), 1) := by decide +kernel
theorem dX6_isAgainst_40 : decode cX6_isAgainst 40 = .ok (.if_icmp .eq 7, 3) := by decide +kernel
theorem dX6_isAgainst_43 : decode cX6_isAgainst 43 = .ok (.iconst 1, 1) := by decide +kernel
theorem dX6_isAgainst_44 : decode cX6_isAgainst 44 = .ok (.goto 4, 3) := by decide +kernel
theorem dX6_isAgainst_47 : decode cX6_isAgainst 47 = .ok (.iconst 0, 1) := by decide +kernel
theorem dX6_isAgainst_48 : decode cX6_isAgainst 48 = .ok (.istore 6, 2) := by decide +kernel
theorem dX6_isAgainst_50 : decode cX6_isAgainst 50 = .ok (.iload 6, 2) := by decide +kernel
theorem dX6_isAgainst_52 : decode cX6_isAgainst 52 = .ok (.ifCond .ne 9, 3) := by decide +kernel
theorem dX6_isAgainst_55 : decode cX6_isAgainst 55 = .ok (.iload 5, 2) := by decide +kernel
theorem dX6_isAgainst_57 : decode cX6_isAgainst 57 = .ok (.iload_n 2, 1) := by decide +kernel
theorem dX6_isAgainst_58 : decode cX6_isAgainst 58 = .ok (.if_icmp .ge 7, 3) := by decide +kernel
theorem dX6_isAgainst_61 : decode cX6_isAgainst 61 = .ok (.iconst 0, 1) := by decide +kernel
theorem dX6_isAgainst_62 : decode cX6_isAgainst 62 = .ok (.goto 4, 3) := by decide +kernel
theorem dX6_isAgainst_65 : decode cX6_isAgainst 65 = .ok (.iconst 2, 1) := by decide +kernel
theorem dX6_isAgainst_66 : decode cX6_isAgainst 66 = .ok (.ireturn, 1) := by decide +kernel
theorem dX6_write_0 : decode cX6_write 0 = .ok (.aload_n 0, 1) := by decide +kernel
theorem dX6_write_1 : decode cX6_write 1 = .ok (.iconst 0, 1) := by decide +kernel
theorem dX6_write_2 : decode cX6_write 2 = .ok (.putfield 25, 3) := by decide +kernel
theorem dX6_write_5 : decode cX6_write 5 = .ok (.aload_n 0, 1) := by decide +kernel
theorem dX6_write_6 : decode cX6_write 6 = .ok (.iload_n 1, 1) := by decide +kernel
theorem dX6_write_7 : decode cX6_write 7 = .ok (.invokevirtual 133, 3) := by decide +kernel
theorem dX6_write_10 : decode cX6_write 10 = .ok (.ifCond .eq 11, 3) := by decide +kernel
theorem dX6_write_13 : decode cX6_write 13 = .ok (.aload_n 0, 1) := by decide +kernel
theorem dX6_write_14 : decode cX6_write 14 = .ok (.iload_n 2, 1) := by decide +kernel
theorem dX6_write_15 : decode cX6_write 15 = .ok (.invokevirtual 127, 3) := by decide +kernel
theorem dX6_write_18 : decode cX6_write 18 = .ok (.ifCond .ne 9, 3) := by decide +kernel
theorem dX6_write_21 : decode cX6_write 21 = .ok (.aload_n 0, 1) := by decide +kernel
theorem dX6_write_22 : decode cX6_write 22 = .ok (.iconst 1, 1) := by decide +kernel
theorem dX6_write_23 : decode cX6_write 23 = .ok (.invokevirtual 120, 3) := by decide +kernel
theorem dX6_write_26 : decode cX6_write 26 = .ok (.ireturn, 1) := by decide +kernel
theorem dX6_write_27 : decode cX6_write 27 = .ok (.iload_n 3, 1) := by decide +kernel
theorem dX6_write_28 : decode cX6_write 28 = .ok (.invokestatic 51, 3) := by decide +kernel
theorem dX6_write_31 : decode cX6_write 31 = .ok (.ifCond .eq 14, 3) := by decide +kernel
theorem dX6_write_34 : decode cX6_write 34 = .ok (.iload 4, 2) := by decide +kernel
theorem dX6_write_36 : decode cX6_write 36 = .ok (.iconst 0, 1) := by decide +kernel
theorem dX6_write_37 : decode cX6_write 37 = .ok (.ldc 101, 2) := by decide +kernel
theorem dX6_write_39 : decode cX6_write 39 = .ok (.invokestatic 32, 3) := by decide +kernel
theorem dX6_write_42 : decode cX6_write 42 = .ok (.ifCond .ne 9, 3) := by decide +kernel
theorem dX6_write_45 : decode cX6_write 45 = .ok (.aload_n 0, 1) := by decide +kernel
theorem dX6_write_46 : decode cX6_write 46 = .ok (.iconst 2, 1) := by decide +kernel
theorem dX6_write_47 : decode cX6_write 47 = .ok (.invokevirtual 120, 3) := by decide +kernel
theorem dX6_write_50 : decode cX6_write 50 = .ok (.ireturn, 1) := by decide +kernel
theorem dX6_write_51 : decode cX6_write 51 = .ok (.aload_n 0, 1) := by decide +kernel
theorem dX6_write_52 : decode cX6_write 52 = .ok (.iload_n 1, 1) := by decide +kernel
theorem dX6_write_53 : decode cX6_write 53 = .ok (.iload_n 2, 1) := by decide +kernel
theorem dX6_write_54 : decode cX6_write 54 = .ok (.iload_n 3, 1) := by decide +kernel
theorem dX6_write_55 : decode cX6_write 55 = .ok (.invokevirtual 136, 3) := by decide +kernel
theorem dX6_write_58 : decode cX6_write 58 = .ok (.ifCond .eq 9, 3) := by decide +kernel
theorem dX6_write_61 : decode cX6_write 61 = .ok (.aload_n 0, 1) := by decide +kernel
theorem dX6_write_62 : decode cX6_write 62 = .ok (.iconst 3, 1) := by decide +kernel
theorem dX6_write_63 : decode cX6_write 63 = .ok (.invokevirtual 120, 3) := by decide +kernel
theorem dX6_write_66 : decode cX6_write 66 = .ok (.ireturn, 1) := by decide +kernel
theorem dX6_write_67 : decode cX6_write 67 = .ok (.aload_n 0, 1) := by decide +kernel
theorem dX6_write_68 : decode cX6_write 68 = .ok (.invokevirtual 72, 3) := by decide +kernel
theorem dX6_write_71 : decode cX6_write 71 = .ok (.aload_n 0, 1) := by decide +kernel
theorem dX6_write_72 : decode cX6_write 72 = .ok (.iload_n 2, 1) := by decide +kernel
theorem dX6_write_73 : decode cX6_write 73 = .ok (.iconst 1, 1) := by decide +kernel
theorem dX6_write_74 : decode cX6_write 74 = .ok (.aload_n 0, 1) := by decide +kernel
theorem dX6_write_75 : decode cX6_write 75 = .ok (.iload_n 2, 1) := by decide +kernel
theorem dX6_write_76 : decode cX6_write 76 = .ok (.iload_n 3, 1) := by decide +kernel
theorem dX6_write_77 : decode cX6_write 77 = .ok (.invokevirtual 48, 3) := by decide +kernel
theorem dX6_write_80 : decode cX6_write 80 = .ok (.iadd, 1) := by decide +kernel
theorem dX6_write_81 : decode cX6_write 81 = .ok (.invokevirtual 36, 3) := by decide +kernel
theorem dX6_write_84 : decode cX6_write 84 = .ok (.istore 5, 2) := by decide +kernel
theorem dX6_write_86 : decode cX6_write 86 = .ok (.aload_n 0, 1) := by decide +kernel
theorem dX6_write_87 : decode cX6_write 87 = .ok (.aload_n 0, 1) := by decide +kernel
theorem dX6_write_88 : decode cX6_write 88 = .ok (.iload_n 1, 1) := by decide +kernel
theorem dX6_write_89 : decode cX6_write 89 = .ok (.iconst 0, 1) := by decide +kernel
theorem dX6_write_90 : decode cX6_write 90 = .ok (.invokevirtual 108, 3) := by decide +kernel
theorem dX6_write_93 : decode cX6_write 93 = .ok (.iload 5, 2) := by decide +kernel
theorem dX6_write_95 : decode cX6_write 95 = .ok (.invokevirtual 130, 3) := by decide +kernel
theorem dX6_write_98 : decode cX6_write 98 = .ok (.iconst (-1), 1) := by decide +kernel
theorem dX6_write_99 : decode cX6_write 99 = .ok (.if_icmp .ne 9, 3) := by decide +kernel
theorem dX6_write_102 : decode cX6_write 102 = .ok (.aload_n 0, 1) := by decide +kernel
theorem dX6_write_103 : decode cX6_write 103 = .ok (.iload_n 1, 1) := by decide +kernel
theorem dX6_write_104 : decode cX6_write 104 = .ok (.iload_n 2, 1) := by decide +kernel
theorem dX6_write_105 : decode cX6_write 105 = .ok (.invokevirtual 139, 3) := by decide +kernel
theorem dX6_write_108 : decode cX6_write 108 = .ok (.aload_n 0, 1) := by decide +kernel
theorem dX6_write_109 : decode cX6_write 109 = .ok (.iload_n 1, 1) := by decide +kernel
theorem dX6_write_110 : decode cX6_write 110 = .ok (.iconst 2, 1) := by decide +kernel
theorem dX6_write_111 : decode cX6_write 111 = .ok (.aload_n 0, 1) := by decide +kernel
theorem dX6_write_112 : decode cX6_write 112 = .ok (.aload_n 0, 1) := by decide +kernel
theorem dX6_write_113 : decode cX6_write 113 = .ok (.iload_n 1, 1) := by decide +kernel
theorem dX6_write_114 : decode cX6_write 114 = .ok (.iconst 0, 1) := by decide +kernel
theorem dX6_write_115 : decode cX6_write 115 = .ok (.invokevirtual 108, 3) := by decide +kernel
theorem dX6_write_118 : decode cX6_write 118 = .ok (.iload 5, 2) := by decide +kernel
theorem dX6_write_120 : decode cX6_write 120 = .ok (.invokevirtual 130, 3) := by decide +kernel
theorem dX6_write_123 : decode cX6_write 123 = .ok (.iadd, 1) := by decide +kernel
theorem dX6_write_124 : decode cX6_write 124 = .ok (.iload 4, 2) := by decide +kernel
theorem dX6_write_126 : decode cX6_write 126 = .ok (.invokevirtual 117, 3) := by decide +kernel
theorem dX6_write_129 : decode cX6_write 129 = .ok (.aload_n 0, 1) := by decide +kernel
theorem dX6_write_130 : decode cX6_write 130 = .ok (.getfield 7, 3) := by decide +kernel
theorem dX6_write_133 : decode cX6_write 133 = .ok (.iconst 5, 1) := by decide +kernel
theorem dX6_write_134 : decode cX6_write 134 = .ok (.dup2, 1) := by decide +kernel
theorem dX6_write_135 : decode cX6_write 135 = .ok (.iaload, 1) := by decide +kernel
theorem dX6_write_136 : decode cX6_write 136 = .ok (.iconst 1, 1) := by decide +kernel
theorem dX6_write_137 : decode cX6_write 137 = .ok (.iadd, 1) := by decide +kernel
theorem dX6_write_138 : decode cX6_write 138 = .ok (.iastore, 1) := by decide +kernel
theorem dX6_write_139 : decode cX6_write 139 = .ok (.aload_n 0, 1) := by decide +kernel
theorem dX6_write_140 : decode cX6_write 140 = .ok (.iload_n 1, 1) := by decide +kernel
theorem dX6_write_141 : decode cX6_write 141 = .ok (.iconst 0, 1) := by decide +kernel
theorem dX6_write_142 : decode cX6_write 142 = .ok (.invokevirtual 108, 3) := by decide +kernel
theorem dX6_write_145 : decode cX6_write 145 = .ok (.ireturn, 1) := by decide +kernel
theorem dX6_remove_0 : decode cX6_remove 0 = .ok (.aload_n 0, 1) := by decide +kernel
theorem dX6_remove_1 : decode cX6_remove 1 = .ok (.iconst 0, 1) := by decide +kernel
theorem dX6_remove_2 : decode cX6_remove 2 = .ok (.putfield 25, 3) := by decide +kernel
theorem dX6_remove_5 : decode cX6_remove 5 = .ok (.aload_n 0, 1) := by decide +kernel
theorem dX6_remove_6 : decode cX6_remove 6 = .ok (.iload_n 1, 1) := by decide +kernel
theorem dX6_remove_7 : decode cX6_remove 7 = .ok (.invokevirtual 133, 3) := by decide +kernel
theorem dX6_remove_10 : decode cX6_remove 10 = .ok (.ifCond .ne 9, 3) := by decide +kernel
theorem dX6_remove_13 : decode cX6_remove 13 = .ok (.aload_n 0, 1) := by decide +kernel
theorem dX6_remove_14 : decode cX6_remove 14 = .ok (.iconst 1, 1) := by decide +kernel
theorem dX6_remove_15 : decode cX6_remove 15 = .ok (.invokevirtual 120, 3) := by decide +kernel
theorem dX6_remove_18 : decode cX6_remove 18 = .ok (.ireturn, 1) := by decide +kernel
theorem dX6_remove_19 : decode cX6_remove 19 = .ok (.aload_n 0, 1) := by decide +kernel
theorem dX6_remove_20 : decode cX6_remove 20 = .ok (.invokevirtual 72, 3) := by decide +kernel
theorem dX6_remove_23 : decode cX6_remove 23 = .ok (.sipush 250, 3) := by decide +kernel
theorem dX6_remove_26 : decode cX6_remove 26 = .ok (.bipush 10, 2) := by decide +kernel
theorem dX6_remove_28 : decode cX6_remove 28 = .ok (.aload_n 0, 1) := by decide +kernel
theorem dX6_remove_29 : decode cX6_remove 29 = .ok (.getfield 7, 3) := by decide +kernel
theorem dX6_remove_32 : decode cX6_remove 32 = .ok (.iconst 2, 1) := by decide +kernel
theorem dX6_remove_33 : decode cX6_remove 33 = .ok (.iaload, 1) := by decide +kernel
theorem dX6_remove_34 : decode cX6_remove 34 = .ok (.iconst 1, 1) := by decide +kernel
theorem dX6_remove_35 : decode cX6_remove 35 = .ok (.isub, 1) := by decide +kernel
theorem dX6_remove_36 : decode cX6_remove 36 = .ok (.imul, 1) := by decide +kernel
theorem dX6_remove_37 : decode cX6_remove 37 = .ok (.iadd, 1) := by decide +kernel
theorem dX6_remove_38 : decode cX6_remove 38 = .ok (.istore_n 2, 1) := by decide +kernel
theorem dX6_remove_39 : decode cX6_remove 39 = .ok (.sipush 250, 3) := by decide +kernel
theorem dX6_remove_42 : decode cX6_remove 42 = .ok (.bipush 10, 2) := by decide +kernel
theorem dX6_remove_44 : decode cX6_remove 44 = .ok (.iload_n 1, 1) := by decide +kernel
theorem dX6_remove_45 : decode cX6_remove 45 = .ok (.imul, 1) := by decide +kernel
theorem dX6_remove_46 : decode cX6_remove 46 = .ok (.iadd, 1) := by decide +kernel
theorem dX6_remove_47 : decode cX6_remove 47 = .ok (.istore_n 3, 1) := by decide +kernel
theorem dX6_remove_48 : decode cX6_remove 48 = .ok (.iload_n 3, 1) := by decide +kernel
theorem dX6_remove_49 : decode cX6_remove 49 = .ok (.iload_n 2, 1) := by decide +kernel
theorem dX6_remove_50 : decode cX6_remove 50 = .ok (.if_icmp .ge 24, 3) := by decide +kernel
theorem dX6_remove_53 : decode cX6_remove 53 = .ok (.aload_n 0, 1) := by decide +kernel
theorem dX6_remove_54 : decode cX6_remove 54 = .ok (.getfield 7, 3) := by decide +kernel
theorem dX6_remove_57 : decode cX6_remove 57 = .ok (.iload_n 3, 1) := by decide +kernel
theorem dX6_remove_58 : decode cX6_remove 58 = .ok (.aload_n 0, 1) := by decide +kernel
theorem dX6_remove_59 : decode cX6_remove 59 = .ok (.getfield 7, 3) := by decide +kernel
theorem dX6_remove_62 : decode cX6_remove 62 = .ok (.iload_n 3, 1) := by decide +kernel
theorem dX6_remove_63 : decode cX6_remove 63 = .ok (.bipush 10, 2) := by decide +kernel
theorem dX6_remove_65 : decode cX6_remove 65 = .ok (.iadd, 1) := by decide +kernel
theorem dX6_remove_66 : decode cX6_remove 66 = .ok (.iaload, 1) := by decide +kernel
theorem dX6_remove_67 : decode cX6_remove 67 = .ok (.iastore, 1) := by decide +kernel
theorem dX6_remove_68 : decode cX6_remove 68 = .ok (.iinc 3 1, 3) := by decide +kernel
theorem dX6_remove_71 : decode cX6_remove 71 = .ok (.goto (-23), 3) := by decide +kernel
theorem dX6_remove_74 : decode cX6_remove 74 = .ok (.iconst 0, 1) := by decide +kernel
theorem dX6_remove_75 : decode cX6_remove 75 = .ok (.istore_n 3, 1) := by decide +kernel
theorem dX6_remove_76 : decode cX6_remove 76 = .ok (.iload_n 3, 1) := by decide +kernel
theorem dX6_remove_77 : decode cX6_remove 77 = .ok (.bipush 10, 2) := by decide +kernel
theorem dX6_remove_79 : decode cX6_remove 79 = .ok (.if_icmp .ge 18, 3) := by decide +kernel
theorem dX6_remove_82 : decode cX6_remove 82 = .ok (.aload_n 0, 1) := by decide +kernel
theorem dX6_remove_83 : decode cX6_remove 83 = .ok (.getfield 7, 3) := by decide +kernel
theorem dX6_remove_86 : decode cX6_remove 86 = .ok (.iload_n 2, 1) := by decide +kernel
theorem dX6_remove_87 : decode cX6_remove 87 = .ok (.iload_n 3, 1) := by decide +kernel
theorem dX6_remove_88 : decode cX6_remove 88 = .ok (.iadd, 1) := by decide +kernel
theorem dX6_remove_89 : decode cX6_remove 89 = .ok (.iconst 0, 1) := by decide +kernel
theorem dX6_remove_90 : decode cX6_remove 90 = .ok (.iastore, 1) := by decide +kernel
theorem dX6_remove_91 : decode cX6_remove 91 = .ok (.iinc 3 1, 3) := by decide +kernel
theorem dX6_remove_94 : decode cX6_remove 94 = .ok (.goto (-18), 3) := by decide +kernel
theorem dX6_remove_97 : decode cX6_remove 97 = .ok (.aload_n 0, 1) := by decide +kernel
theorem dX6_remove_98 : decode cX6_remove 98 = .ok (.getfield 7, 3) := by decide +kernel
theorem dX6_remove_101 : decode cX6_remove 101 = .ok (.iconst 2, 1) := by decide +kernel
theorem dX6_remove_102 : decode cX6_remove 102 = .ok (.dup2, 1) := by decide +kernel
theorem dX6_remove_103 : decode cX6_remove 103 = .ok (.iaload, 1) := by decide +kernel
theorem dX6_remove_104 : decode cX6_remove 104 = .ok (.iconst 1, 1) := by decide +kernel
theorem dX6_remove_105 : decode cX6_remove 105 = .ok (.isub, 1) := by decide +kernel
theorem dX6_remove_106 : decode cX6_remove 106 = .ok (.iastore, 1) := by decide +kernel
theorem dX6_remove_107 : decode cX6_remove 107 = .ok (.aload_n 0, 1) := by decide +kernel
theorem dX6_remove_108 : decode cX6_remove 108 = .ok (.getfield 7, 3) := by decide +kernel
theorem dX6_remove_111 : decode cX6_remove 111 = .ok (.iconst 3, 1) := by decide +kernel
theorem dX6_remove_112 : decode cX6_remove 112 = .ok (.dup2, 1) := by decide +kernel
theorem dX6_remove_113 : decode cX6_remove 113 = .ok (.iaload, 1) := by decide +kernel
theorem dX6_remove_114 : decode cX6_remove 114 = .ok (.aload_n 0, 1) := by decide +kernel
theorem dX6_remove_115 : decode cX6_remove 115 = .ok (.getfield 7, 3) := by decide +kernel
theorem dX6_remove_118 : decode cX6_remove 118 = .ok (.iconst 3, 1) := by decide +kernel
theorem dX6_remove_119 : decode cX6_remove 119 = .ok (.iaload, 1) := by decide +kernel
theorem dX6_remove_120 : decode cX6_remove 120 = .ok (.iload_n 1, 1) := by decide +kernel
theorem dX6_remove_121 : decode cX6_remove 121 = .ok (.if_icmp .le 7, 3) := by decide +kernel
theorem dX6_remove_124 : decode cX6_remove 124 = .ok (.iconst 1, 1) := by decide +kernel
theorem dX6_remove_125 : decode cX6_remove 125 = .ok (.goto 4, 3) := by decide +kernel
theorem dX6_remove_128 : decode cX6_remove 128 = .ok (.iconst 0, 1) := by decide +kernel
theorem dX6_remove_129 : decode cX6_remove 129 = .ok (.isub, 1) := by decide +kernel
theorem dX6_remove_130 : decode cX6_remove 130 = .ok (.iastore, 1) := by decide +kernel
theorem dX6_remove_131 : decode cX6_remove 131 = .ok (.aload_n 0, 1) := by decide +kernel
theorem dX6_remove_132 : decode cX6_remove 132 = .ok (.getfield 7, 3) := by decide +kernel
theorem dX6_remove_135 : decode cX6_remove 135 = .ok (.iconst 2, 1) := by decide +kernel
theorem dX6_remove_136 : decode cX6_remove 136 = .ok (.iaload, 1) := by decide +kernel
theorem dX6_remove_137 : decode cX6_remove 137 = .ok (.ireturn, 1) := by decide +kernel
theorem dX6_goesOn_0 : decode cX6_goesOn 0 = .ok (.iconst 0, 1) := by decide +kernel
theorem dX6_goesOn_1 : decode cX6_goesOn 1 = .ok (.istore_n 2, 1) := by decide +kernel
theorem dX6_goesOn_2 : decode cX6_goesOn 2 = .ok (.iconst 0, 1) := by decide +kernel
theorem dX6_goesOn_3 : decode cX6_goesOn 3 = .ok (.istore_n 3, 1) := by decide +kernel
theorem dX6_goesOn_4 : decode cX6_goesOn 4 = .ok (.iload_n 3, 1) := by decide +kernel
theorem dX6_goesOn_5 : decode cX6_goesOn 5 = .ok (.iload_n 1, 1) := by decide +kernel
theorem dX6_goesOn_6 : decode cX6_goesOn 6 = .ok (.if_icmp .ge 94, 3) := by decide +kernel
theorem dX6_goesOn_9 : decode cX6_goesOn 9 = .ok (.aload_n 0, 1) := by decide +kernel
theorem dX6_goesOn_10 : decode cX6_goesOn 10 = .ok (.getfield 7, 3) := by decide +kernel
theorem dX6_goesOn_13 : decode cX6_goesOn 13 = .ok (.iconst 2, 1) := by decide +kernel
theorem dX6_goesOn_14 : decode cX6_goesOn 14 = .ok (.iaload, 1) := by decide +kernel
theorem dX6_goesOn_15 : decode cX6_goesOn 15 = .ok (.ifCond .le 85, 3) := by decide +kernel
theorem dX6_goesOn_18 : decode cX6_goesOn 18 = .ok (.aload_n 0, 1) := by decide +kernel
theorem dX6_goesOn_19 : decode cX6_goesOn 19 = .ok (.getfield 7, 3) := by decide +kernel
theorem dX6_goesOn_22 : decode cX6_goesOn 22 = .ok (.iconst 3, 1) := by decide +kernel
theorem dX6_goesOn_23 : decode cX6_goesOn 23 = .ok (.aload_n 0, 1) := by decide +kernel
theorem dX6_goesOn_24 : decode cX6_goesOn 24 = .ok (.getfield 7, 3) := by decide +kernel
theorem dX6_goesOn_27 : decode cX6_goesOn 27 = .ok (.iconst 3, 1) := by decide +kernel
theorem dX6_goesOn_28 : decode cX6_goesOn 28 = .ok (.iaload, 1) := by decide +kernel
theorem dX6_goesOn_29 : decode cX6_goesOn 29 = .ok (.aload_n 0, 1) := by decide +kernel
theorem dX6_goesOn_30 : decode cX6_goesOn 30 = .ok (.getfield 7, 3) := by decide +kernel
theorem dX6_goesOn_33 : decode cX6_goesOn 33 = .ok (.iconst 2, 1) := by decide +kernel
theorem dX6_goesOn_34 : decode cX6_goesOn 34 = .ok (.iaload, 1) := by decide +kernel
theorem dX6_goesOn_35 : decode cX6_goesOn 35 = .ok (.if_icmp .ge 12, 3) := by decide +kernel
theorem dX6_goesOn_38 : decode cX6_goesOn 38 = .ok (.aload_n 0, 1) := by decide +kernel
theorem dX6_goesOn_39 : decode cX6_goesOn 39 = .ok (.getfield 7, 3) := by decide +kernel
theorem dX6_goesOn_42 : decode cX6_goesOn 42 = .ok (.iconst 3, 1) := by decide +kernel
theorem dX6_goesOn_43 : decode cX6_goesOn 43 = .ok (.iaload, 1) := by decide +kernel
theorem dX6_goesOn_44 : decode cX6_goesOn 44 = .ok (.goto 4, 3) := by decide +kernel
theorem dX6_goesOn_47 : decode cX6_goesOn 47 = .ok (.iconst 0, 1) := by decide +kernel
theorem dX6_goesOn_48 : decode cX6_goesOn 48 = .ok (.iastore, 1) := by decide +kernel
theorem dX6_goesOn_49 : decode cX6_goesOn 49 = .ok (.aload_n 0, 1) := by decide +kernel
theorem dX6_goesOn_50 : decode cX6_goesOn 50 = .ok (.aload_n 0, 1) := by decide +kernel
theorem dX6_goesOn_51 : decode cX6_goesOn 51 = .ok (.getfield 7, 3) := by decide +kernel
theorem dX6_goesOn_54 : decode cX6_goesOn 54 = .ok (.iconst 3, 1) := by decide +kernel
theorem dX6_goesOn_55 : decode cX6_goesOn 55 = .ok (.iaload, 1) := by decide +kernel
theorem dX6_goesOn_56 : decode cX6_goesOn 56 = .ok (.iconst 0, 1) := by decide +kernel
theorem dX6_goesOn_57 : decode cX6_goesOn 57 = .ok (.invokevirtual 108, 3) := by decide +kernel
theorem dX6_goesOn_60 : decode cX6_goesOn 60 = .ok (.aload_n 0, 1) := by decide +kernel
theorem dX6_goesOn_61 : decode cX6_goesOn 61 = .ok (.invokevirtual 44, 3) := by decide +kernel
theorem dX6_goesOn_64 : decode cX6_goesOn 64 = .ok (.if_icmp .ge 20, 3) := by decide +kernel
theorem dX6_goesOn_67 : decode cX6_goesOn 67 = .ok (.aload_n 0, 1) := by decide +kernel
theorem dX6_goesOn_68 : decode cX6_goesOn 68 = .ok (.aload_n 0, 1) := by decide +kernel
theorem dX6_goesOn_69 : decode cX6_goesOn 69 = .ok (.getfield 7, 3) := by decide +kernel
theorem dX6_goesOn_72 : decode cX6_goesOn 72 = .ok (.iconst 3, 1) := by decide +kernel
theorem dX6_goesOn_73 : decode cX6_goesOn 73 = .ok (.iaload, 1) := by decide +kernel
theorem dX6_goesOn_74 : decode cX6_goesOn 74 = .ok (.aload_n 0, 1) := by decide +kernel
theorem dX6_goesOn_75 : decode cX6_goesOn 75 = .ok (.invokevirtual 44, 3) := by decide +kernel
theorem dX6_goesOn_78 : decode cX6_goesOn 78 = .ok (.invokevirtual 139, 3) := by decide +kernel
theorem dX6_goesOn_81 : decode cX6_goesOn 81 = .ok (.iinc 2 1, 3) := by decide +kernel
theorem dX6_goesOn_84 : decode cX6_goesOn 84 = .ok (.aload_n 0, 1) := by decide +kernel
theorem dX6_goesOn_85 : decode cX6_goesOn 85 = .ok (.getfield 7, 3) := by decide +kernel
theorem dX6_goesOn_88 : decode cX6_goesOn 88 = .ok (.iconst 3, 1) := by decide +kernel
theorem dX6_goesOn_89 : decode cX6_goesOn 89 = .ok (.dup2, 1) := by decide +kernel
theorem dX6_goesOn_90 : decode cX6_goesOn 90 = .ok (.iaload, 1) := by decide +kernel
theorem dX6_goesOn_91 : decode cX6_goesOn 91 = .ok (.iconst 1, 1) := by decide +kernel
theorem dX6_goesOn_92 : decode cX6_goesOn 92 = .ok (.iadd, 1) := by decide +kernel
theorem dX6_goesOn_93 : decode cX6_goesOn 93 = .ok (.iastore, 1) := by decide +kernel
theorem dX6_goesOn_94 : decode cX6_goesOn 94 = .ok (.iinc 3 1, 3) := by decide +kernel
theorem dX6_goesOn_97 : decode cX6_goesOn 97 = .ok (.goto (-93), 3) := by decide +kernel
theorem dX6_goesOn_100 : decode cX6_goesOn 100 = .ok (.iload_n 2, 1) := by decide +kernel
theorem dX6_goesOn_101 : decode cX6_goesOn 101 = .ok (.ireturn, 1) := by decide +kernel
theorem dX6_goOn_0 : decode cX6_goOn 0 = .ok (.aload_n 0, 1) := by decide +kernel
theorem dX6_goOn_1 : decode cX6_goOn 1 = .ok (.iconst 0, 1) := by decide +kernel
theorem dX6_goOn_2 : decode cX6_goOn 2 = .ok (.putfield 25, 3) := by decide +kernel
theorem dX6_goOn_5 : decode cX6_goOn 5 = .ok (.iload_n 1, 1) := by decide +kernel
theorem dX6_goOn_6 : decode cX6_goOn 6 = .ok (.iconst 1, 1) := by decide +kernel
theorem dX6_goOn_7 : decode cX6_goOn 7 = .ok (.bipush 12, 2) := by decide +kernel
theorem dX6_goOn_9 : decode cX6_goOn 9 = .ok (.invokestatic 32, 3) := by decide +kernel
theorem dX6_goOn_12 : decode cX6_goOn 12 = .ok (.ifCond .ne 9, 3) := by decide +kernel
theorem dX6_goOn_15 : decode cX6_goOn 15 = .ok (.aload_n 0, 1) := by decide +kernel
theorem dX6_goOn_16 : decode cX6_goOn 16 = .ok (.iconst 1, 1) := by decide +kernel
theorem dX6_goOn_17 : decode cX6_goOn 17 = .ok (.invokevirtual 120, 3) := by decide +kernel
theorem dX6_goOn_20 : decode cX6_goOn 20 = .ok (.ireturn, 1) := by decide +kernel
theorem dX6_goOn_21 : decode cX6_goOn 21 = .ok (.aload_n 0, 1) := by decide +kernel
theorem dX6_goOn_22 : decode cX6_goOn 22 = .ok (.invokevirtual 72, 3) := by decide +kernel
theorem dX6_goOn_25 : decode cX6_goOn 25 = .ok (.aload_n 0, 1) := by decide +kernel
theorem dX6_goOn_26 : decode cX6_goOn 26 = .ok (.iload_n 1, 1) := by decide +kernel
theorem dX6_goOn_27 : decode cX6_goOn 27 = .ok (.invokevirtual 142, 3) := by decide +kernel
theorem dX6_goOn_30 : decode cX6_goOn 30 = .ok (.ireturn, 1) := by decide +kernel
theorem dX6_isReader_0 : decode cX6_isReader 0 = .ok (.iload_n 0, 1) := by decide +kernel
theorem dX6_isReader_1 : decode cX6_isReader 1 = .ok (.iconst 0, 1) := by decide +kernel
theorem dX6_isReader_2 : decode cX6_isReader 2 = .ok (.iconst 3, 1) := by decide +kernel
theorem dX6_isReader_3 : decode cX6_isReader 3 = .ok (.invokestatic 32, 3) := by decide +kernel
theorem dX6_isReader_6 : decode cX6_isReader 6 = .ok (.ireturn, 1) := by decide +kernel
theorem dX6_hold_0 : decode cX6_hold 0 = .ok (.aload_n 0, 1) := by decide +kernel
theorem dX6_hold_1 : decode cX6_hold 1 = .ok (.iconst 0, 1) := by decide +kernel
theorem dX6_hold_2 : decode cX6_hold 2 = .ok (.putfield 25, 3) := by decide +kernel
theorem dX6_hold_5 : decode cX6_hold 5 = .ok (.iload_n 1, 1) := by decide +kernel
theorem dX6_hold_6 : decode cX6_hold 6 = .ok (.invokestatic 145, 3) := by decide +kernel
theorem dX6_hold_9 : decode cX6_hold 9 = .ok (.ifCond .eq 11, 3) := by decide +kernel
theorem dX6_hold_12 : decode cX6_hold 12 = .ok (.aload_n 0, 1) := by decide +kernel
theorem dX6_hold_13 : decode cX6_hold 13 = .ok (.iload_n 2, 1) := by decide +kernel
theorem dX6_hold_14 : decode cX6_hold 14 = .ok (.invokevirtual 127, 3) := by decide +kernel
theorem dX6_hold_17 : decode cX6_hold 17 = .ok (.ifCond .ne 9, 3) := by decide +kernel
theorem dX6_hold_20 : decode cX6_hold 20 = .ok (.aload_n 0, 1) := by decide +kernel
theorem dX6_hold_21 : decode cX6_hold 21 = .ok (.iconst 1, 1) := by decide +kernel
theorem dX6_hold_22 : decode cX6_hold 22 = .ok (.invokevirtual 120, 3) := by decide +kernel
theorem dX6_hold_25 : decode cX6_hold 25 = .ok (.ireturn, 1) := by decide +kernel
theorem dX6_hold_26 : decode cX6_hold 26 = .ok (.aload_n 0, 1) := by decide +kernel
theorem dX6_hold_27 : decode cX6_hold 27 = .ok (.invokevirtual 72, 3) := by decide +kernel
theorem dX6_hold_30 : decode cX6_hold 30 = .ok (.aload_n 0, 1) := by decide +kernel
theorem dX6_hold_31 : decode cX6_hold 31 = .ok (.getfield 7, 3) := by decide +kernel
theorem dX6_hold_34 : decode cX6_hold 34 = .ok (.bipush 6, 2) := by decide +kernel
theorem dX6_hold_36 : decode cX6_hold 36 = .ok (.iload_n 1, 1) := by decide +kernel
theorem dX6_hold_37 : decode cX6_hold 37 = .ok (.iadd, 1) := by decide +kernel
theorem dX6_hold_38 : decode cX6_hold 38 = .ok (.iaload, 1) := by decide +kernel
theorem dX6_hold_39 : decode cX6_hold 39 = .ok (.istore_n 3, 1) := by decide +kernel
theorem dX6_hold_40 : decode cX6_hold 40 = .ok (.aload_n 0, 1) := by decide +kernel
theorem dX6_hold_41 : decode cX6_hold 41 = .ok (.getfield 7, 3) := by decide +kernel
theorem dX6_hold_44 : decode cX6_hold 44 = .ok (.bipush 6, 2) := by decide +kernel
theorem dX6_hold_46 : decode cX6_hold 46 = .ok (.iload_n 1, 1) := by decide +kernel
theorem dX6_hold_47 : decode cX6_hold 47 = .ok (.iadd, 1) := by decide +kernel
theorem dX6_hold_48 : decode cX6_hold 48 = .ok (.iload_n 2, 1) := by decide +kernel
theorem dX6_hold_49 : decode cX6_hold 49 = .ok (.iastore, 1) := by decide +kernel
theorem dX6_hold_50 : decode cX6_hold 50 = .ok (.iload_n 3, 1) := by decide +kernel
theorem dX6_hold_51 : decode cX6_hold 51 = .ok (.ireturn, 1) := by decide +kernel
theorem dX6_oldest_0 : decode cX6_oldest 0 = .ok (.aload_n 0, 1) := by decide +kernel
theorem dX6_oldest_1 : decode cX6_oldest 1 = .ok (.getfield 7, 3) := by decide +kernel
theorem dX6_oldest_4 : decode cX6_oldest 4 = .ok (.bipush 6, 2) := by decide +kernel
theorem dX6_oldest_6 : decode cX6_oldest 6 = .ok (.iaload, 1) := by decide +kernel
theorem dX6_oldest_7 : decode cX6_oldest 7 = .ok (.istore_n 1, 1) := by decide +kernel
theorem dX6_oldest_8 : decode cX6_oldest 8 = .ok (.iconst 0, 1) := by decide +kernel
theorem dX6_oldest_9 : decode cX6_oldest 9 = .ok (.istore_n 2, 1) := by decide +kernel
theorem dX6_oldest_10 : decode cX6_oldest 10 = .ok (.iload_n 2, 1) := by decide +kernel
theorem dX6_oldest_11 : decode cX6_oldest 11 = .ok (.iconst 4, 1) := by decide +kernel
theorem dX6_oldest_12 : decode cX6_oldest 12 = .ok (.if_icmp .ge 36, 3) := by decide +kernel
theorem dX6_oldest_15 : decode cX6_oldest 15 = .ok (.aload_n 0, 1) := by decide +kernel
theorem dX6_oldest_16 : decode cX6_oldest 16 = .ok (.getfield 7, 3) := by decide +kernel
theorem dX6_oldest_19 : decode cX6_oldest 19 = .ok (.bipush 6, 2) := by decide +kernel
theorem dX6_oldest_21 : decode cX6_oldest 21 = .ok (.iload_n 2, 1) := by decide +kernel
theorem dX6_oldest_22 : decode cX6_oldest 22 = .ok (.iadd, 1) := by decide +kernel
theorem dX6_oldest_23 : decode cX6_oldest 23 = .ok (.iaload, 1) := by decide +kernel
theorem dX6_oldest_24 : decode cX6_oldest 24 = .ok (.iload_n 1, 1) := by decide +kernel
theorem dX6_oldest_25 : decode cX6_oldest 25 = .ok (.if_icmp .ge 15, 3) := by decide +kernel
theorem dX6_oldest_28 : decode cX6_oldest 28 = .ok (.aload_n 0, 1) := by decide +kernel
theorem dX6_oldest_29 : decode cX6_oldest 29 = .ok (.getfield 7, 3) := by decide +kernel
theorem dX6_oldest_32 : decode cX6_oldest 32 = .ok (.bipush 6, 2) := by decide +kernel
theorem dX6_oldest_34 : decode cX6_oldest 34 = .ok (.iload_n 2, 1) := by decide +kernel
theorem dX6_oldest_35 : decode cX6_oldest 35 = .ok (.iadd, 1) := by decide +kernel
theorem dX6_oldest_36 : decode cX6_oldest 36 = .ok (.iaload, 1) := by decide +kernel
theorem dX6_oldest_37 : decode cX6_oldest 37 = .ok (.goto 4, 3) := by decide +kernel
theorem dX6_oldest_40 : decode cX6_oldest 40 = .ok (.iload_n 1, 1) := by decide +kernel
theorem dX6_oldest_41 : decode cX6_oldest 41 = .ok (.istore_n 1, 1) := by decide +kernel
theorem dX6_oldest_42 : decode cX6_oldest 42 = .ok (.iinc 2 1, 3) := by decide +kernel
theorem dX6_oldest_45 : decode cX6_oldest 45 = .ok (.goto (-35), 3) := by decide +kernel
theorem dX6_oldest_48 : decode cX6_oldest 48 = .ok (.iconst 0, 1) := by decide +kernel
theorem dX6_oldest_49 : decode cX6_oldest 49 = .ok (.istore_n 2, 1) := by decide +kernel
theorem dX6_oldest_50 : decode cX6_oldest 50 = .ok (.iload_n 2, 1) := by decide +kernel
theorem dX6_oldest_51 : decode cX6_oldest 51 = .ok (.aload_n 0, 1) := by decide +kernel
theorem dX6_oldest_52 : decode cX6_oldest 52 = .ok (.getfield 7, 3) := by decide +kernel
theorem dX6_oldest_55 : decode cX6_oldest 55 = .ok (.iconst 2, 1) := by decide +kernel
theorem dX6_oldest_56 : decode cX6_oldest 56 = .ok (.iaload, 1) := by decide +kernel
theorem dX6_oldest_57 : decode cX6_oldest 57 = .ok (.if_icmp .ge 30, 3) := by decide +kernel
theorem dX6_oldest_60 : decode cX6_oldest 60 = .ok (.aload_n 0, 1) := by decide +kernel
theorem dX6_oldest_61 : decode cX6_oldest 61 = .ok (.iload_n 2, 1) := by decide +kernel
theorem dX6_oldest_62 : decode cX6_oldest 62 = .ok (.iconst 0, 1) := by decide +kernel
theorem dX6_oldest_63 : decode cX6_oldest 63 = .ok (.invokevirtual 108, 3) := by decide +kernel
theorem dX6_oldest_66 : decode cX6_oldest 66 = .ok (.iload_n 1, 1) := by decide +kernel
theorem dX6_oldest_67 : decode cX6_oldest 67 = .ok (.if_icmp .ge 12, 3) := by decide +kernel
theorem dX6_oldest_70 : decode cX6_oldest 70 = .ok (.aload_n 0, 1) := by decide +kernel
theorem dX6_oldest_71 : decode cX6_oldest 71 = .ok (.iload_n 2, 1) := by decide +kernel
theorem dX6_oldest_72 : decode cX6_oldest 72 = .ok (.iconst 0, 1) := by decide +kernel
theorem dX6_oldest_73 : decode cX6_oldest 73 = .ok (.invokevirtual 108, 3) := by decide +kernel
theorem dX6_oldest_76 : decode cX6_oldest 76 = .ok (.goto 4, 3) := by decide +kernel
theorem dX6_oldest_79 : decode cX6_oldest 79 = .ok (.iload_n 1, 1) := by decide +kernel
theorem dX6_oldest_80 : decode cX6_oldest 80 = .ok (.istore_n 1, 1) := by decide +kernel
theorem dX6_oldest_81 : decode cX6_oldest 81 = .ok (.iinc 2 1, 3) := by decide +kernel
theorem dX6_oldest_84 : decode cX6_oldest 84 = .ok (.goto (-34), 3) := by decide +kernel
theorem dX6_oldest_87 : decode cX6_oldest 87 = .ok (.iload_n 1, 1) := by decide +kernel
theorem dX6_oldest_88 : decode cX6_oldest 88 = .ok (.ireturn, 1) := by decide +kernel
theorem dX6_retire_0 : decode cX6_retire 0 = .ok (.aload_n 0, 1) := by decide +kernel
theorem dX6_retire_1 : decode cX6_retire 1 = .ok (.iconst 0, 1) := by decide +kernel
theorem dX6_retire_2 : decode cX6_retire 2 = .ok (.putfield 25, 3) := by decide +kernel
theorem dX6_retire_5 : decode cX6_retire 5 = .ok (.aload_n 0, 1) := by decide +kernel
theorem dX6_retire_6 : decode cX6_retire 6 = .ok (.iload_n 1, 1) := by decide +kernel
theorem dX6_retire_7 : decode cX6_retire 7 = .ok (.invokevirtual 127, 3) := by decide +kernel
theorem dX6_retire_10 : decode cX6_retire 10 = .ok (.ifCond .ne 9, 3) := by decide +kernel
theorem dX6_retire_13 : decode cX6_retire 13 = .ok (.aload_n 0, 1) := by decide +kernel
theorem dX6_retire_14 : decode cX6_retire 14 = .ok (.iconst 1, 1) := by decide +kernel
theorem dX6_retire_15 : decode cX6_retire 15 = .ok (.invokevirtual 120, 3) := by decide +kernel
theorem dX6_retire_18 : decode cX6_retire 18 = .ok (.ireturn, 1) := by decide +kernel
theorem dX6_retire_19 : decode cX6_retire 19 = .ok (.aload_n 0, 1) := by decide +kernel
theorem dX6_retire_20 : decode cX6_retire 20 = .ok (.invokevirtual 148, 3) := by decide +kernel
theorem dX6_retire_23 : decode cX6_retire 23 = .ok (.iload_n 1, 1) := by decide +kernel
theorem dX6_retire_24 : decode cX6_retire 24 = .ok (.if_icmp .ge 9, 3) := by decide +kernel
theorem dX6_retire_27 : decode cX6_retire 27 = .ok (.aload_n 0, 1) := by decide +kernel
theorem dX6_retire_28 : decode cX6_retire 28 = .ok (.iconst 2, 1) := by decide +kernel
theorem dX6_retire_29 : decode cX6_retire 29 = .ok (.invokevirtual 120, 3) := by decide +kernel
theorem dX6_retire_32 : decode cX6_retire 32 = .ok (.ireturn, 1) := by decide +kernel
theorem dX6_retire_33 : decode cX6_retire 33 = .ok (.aload_n 0, 1) := by decide +kernel
theorem dX6_retire_34 : decode cX6_retire 34 = .ok (.invokevirtual 72, 3) := by decide +kernel
theorem dX6_retire_37 : decode cX6_retire 37 = .ok (.aload_n 0, 1) := by decide +kernel
theorem dX6_retire_38 : decode cX6_retire 38 = .ok (.getfield 7, 3) := by decide +kernel
theorem dX6_retire_41 : decode cX6_retire 41 = .ok (.iconst 1, 1) := by decide +kernel
theorem dX6_retire_42 : decode cX6_retire 42 = .ok (.iload_n 1, 1) := by decide +kernel
theorem dX6_retire_43 : decode cX6_retire 43 = .ok (.iastore, 1) := by decide +kernel
theorem dX6_retire_44 : decode cX6_retire 44 = .ok (.aload_n 0, 1) := by decide +kernel
theorem dX6_retire_45 : decode cX6_retire 45 = .ok (.getfield 7, 3) := by decide +kernel
theorem dX6_retire_48 : decode cX6_retire 48 = .ok (.iconst 0, 1) := by decide +kernel
theorem dX6_retire_49 : decode cX6_retire 49 = .ok (.iaload, 1) := by decide +kernel
theorem dX6_retire_50 : decode cX6_retire 50 = .ok (.iload_n 1, 1) := by decide +kernel
theorem dX6_retire_51 : decode cX6_retire 51 = .ok (.isub, 1) := by decide +kernel
theorem dX6_retire_52 : decode cX6_retire 52 = .ok (.ireturn, 1) := by decide +kernel
theorem dX6_append_0 : decode cX6_append 0 = .ok (.aload_n 0, 1) := by decide +kernel
theorem dX6_append_1 : decode cX6_append 1 = .ok (.iconst 0, 1) := by decide +kernel
theorem dX6_append_2 : decode cX6_append 2 = .ok (.putfield 25, 3) := by decide +kernel
theorem dX6_append_5 : decode cX6_append 5 = .ok (.iload_n 1, 1) := by decide +kernel
theorem dX6_append_6 : decode cX6_append 6 = .ok (.bipush 33, 2) := by decide +kernel
theorem dX6_append_8 : decode cX6_append 8 = .ok (.bipush 126, 2) := by decide +kernel
theorem dX6_append_10 : decode cX6_append 10 = .ok (.invokestatic 32, 3) := by decide +kernel
theorem dX6_append_13 : decode cX6_append 13 = .ok (.ifCond .ne 9, 3) := by decide +kernel
theorem dX6_append_16 : decode cX6_append 16 = .ok (.aload_n 0, 1) := by decide +kernel
theorem dX6_append_17 : decode cX6_append 17 = .ok (.iconst 1, 1) := by decide +kernel
theorem dX6_append_18 : decode cX6_append 18 = .ok (.invokevirtual 120, 3) := by decide +kernel
theorem dX6_append_21 : decode cX6_append 21 = .ok (.ireturn, 1) := by decide +kernel
theorem dX6_append_22 : decode cX6_append 22 = .ok (.aload_n 0, 1) := by decide +kernel
theorem dX6_append_23 : decode cX6_append 23 = .ok (.getfield 151, 3) := by decide +kernel
theorem dX6_append_26 : decode cX6_append 26 = .ok (.bipush 60, 2) := by decide +kernel
theorem dX6_append_28 : decode cX6_append 28 = .ok (.if_icmp .ne 9, 3) := by decide +kernel
theorem dX6_append_31 : decode cX6_append 31 = .ok (.aload_n 0, 1) := by decide +kernel
theorem dX6_append_32 : decode cX6_append 32 = .ok (.iconst 2, 1) := by decide +kernel
theorem dX6_append_33 : decode cX6_append 33 = .ok (.invokevirtual 120, 3) := by decide +kernel
theorem dX6_append_36 : decode cX6_append 36 = .ok (.ireturn, 1) := by decide +kernel
theorem dX6_append_37 : decode cX6_append 37 = .ok (.aload_n 0, 1) := by decide +kernel
theorem dX6_append_38 : decode cX6_append 38 = .ok (.getfield 16, 3) := by decide +kernel
theorem dX6_append_41 : decode cX6_append 41 = .ok (.aload_n 0, 1) := by decide +kernel
theorem dX6_append_42 : decode cX6_append 42 = .ok (.getfield 151, 3) := by decide +kernel
theorem dX6_append_45 : decode cX6_append 45 = .ok (.iload_n 1, 1) := by decide +kernel
theorem dX6_append_46 : decode cX6_append 46 = .ok (.iastore, 1) := by decide +kernel
theorem dX6_append_47 : decode cX6_append 47 = .ok (.aload_n 0, 1) := by decide +kernel
theorem dX6_append_48 : decode cX6_append 48 = .ok (.dup, 1) := by decide +kernel
theorem dX6_append_49 : decode cX6_append 49 = .ok (.getfield 151, 3) := by decide +kernel
theorem dX6_append_52 : decode cX6_append 52 = .ok (.iconst 1, 1) := by decide +kernel
theorem dX6_append_53 : decode cX6_append 53 = .ok (.iadd, 1) := by decide +kernel
theorem dX6_append_54 : decode cX6_append 54 = .ok (.putfield 151, 3) := by decide +kernel
theorem dX6_append_57 : decode cX6_append 57 = .ok (.aload_n 0, 1) := by decide +kernel
theorem dX6_append_58 : decode cX6_append 58 = .ok (.getfield 151, 3) := by decide +kernel
theorem dX6_append_61 : decode cX6_append 61 = .ok (.ireturn, 1) := by decide +kernel
theorem dX6_clearBuffer_0 : decode cX6_clearBuffer 0 = .ok (.aload_n 0, 1) := by decide +kernel
theorem dX6_clearBuffer_1 : decode cX6_clearBuffer 1 = .ok (.iconst 0, 1) := by decide +kernel
theorem dX6_clearBuffer_2 : decode cX6_clearBuffer 2 = .ok (.putfield 25, 3) := by decide +kernel
theorem dX6_clearBuffer_5 : decode cX6_clearBuffer 5 = .ok (.aload_n 0, 1) := by decide +kernel
theorem dX6_clearBuffer_6 : decode cX6_clearBuffer 6 = .ok (.getfield 151, 3) := by decide +kernel
theorem dX6_clearBuffer_9 : decode cX6_clearBuffer 9 = .ok (.istore_n 1, 1) := by decide +kernel
theorem dX6_clearBuffer_10 : decode cX6_clearBuffer 10 = .ok (.aload_n 0, 1) := by decide +kernel
theorem dX6_clearBuffer_11 : decode cX6_clearBuffer 11 = .ok (.iconst 0, 1) := by decide +kernel
theorem dX6_clearBuffer_12 : decode cX6_clearBuffer 12 = .ok (.putfield 151, 3) := by decide +kernel
theorem dX6_clearBuffer_15 : decode cX6_clearBuffer 15 = .ok (.iload_n 1, 1) := by decide +kernel
theorem dX6_clearBuffer_16 : decode cX6_clearBuffer 16 = .ok (.ireturn, 1) := by decide +kernel
theorem dX6_sign_0 : decode cX6_sign 0 = .ok (.aload_n 0, 1) := by decide +kernel
theorem dX6_sign_1 : decode cX6_sign 1 = .ok (.getfield 154, 3) := by decide +kernel
theorem dX6_sign_4 : decode cX6_sign 4 = .ok (.aload_n 0, 1) := by decide +kernel
theorem dX6_sign_5 : decode cX6_sign 5 = .ok (.getfield 151, 3) := by decide +kernel
theorem dX6_sign_8 : decode cX6_sign 8 = .ok (.if_icmp .ge 15, 3) := by decide +kernel
theorem dX6_sign_11 : decode cX6_sign 11 = .ok (.aload_n 0, 1) := by decide +kernel
theorem dX6_sign_12 : decode cX6_sign 12 = .ok (.getfield 16, 3) := by decide +kernel
theorem dX6_sign_15 : decode cX6_sign 15 = .ok (.aload_n 0, 1) := by decide +kernel
theorem dX6_sign_16 : decode cX6_sign 16 = .ok (.getfield 154, 3) := by decide +kernel
theorem dX6_sign_19 : decode cX6_sign 19 = .ok (.iaload, 1) := by decide +kernel
theorem dX6_sign_20 : decode cX6_sign 20 = .ok (.goto 4, 3) := by decide +kernel
theorem dX6_sign_23 : decode cX6_sign 23 = .ok (.iconst 0, 1) := by decide +kernel
theorem dX6_sign_24 : decode cX6_sign 24 = .ok (.ireturn, 1) := by decide +kernel
theorem dX6_takes_0 : decode cX6_takes 0 = .ok (.aload_n 0, 1) := by decide +kernel
theorem dX6_takes_1 : decode cX6_takes 1 = .ok (.aload_n 0, 1) := by decide +kernel
theorem dX6_takes_2 : decode cX6_takes 2 = .ok (.getfield 157, 3) := by decide +kernel
theorem dX6_takes_5 : decode cX6_takes 5 = .ok (.ifCond .eq 19, 3) := by decide +kernel
theorem dX6_takes_8 : decode cX6_takes 8 = .ok (.aload_n 0, 1) := by decide +kernel
theorem dX6_takes_9 : decode cX6_takes 9 = .ok (.invokevirtual 161, 3) := by decide +kernel
theorem dX6_takes_12 : decode cX6_takes 12 = .ok (.iload_n 1, 1) := by decide +kernel
theorem dX6_takes_13 : decode cX6_takes 13 = .ok (.iload_n 2, 1) := by decide +kernel
theorem dX6_takes_14 : decode cX6_takes 14 = .ok (.invokestatic 32, 3) := by decide +kernel
theorem dX6_takes_17 : decode cX6_takes 17 = .ok (.ifCond .eq 7, 3) := by decide +kernel
theorem dX6_takes_20 : decode cX6_takes 20 = .ok (.iconst 1, 1) := by decide +kernel
theorem dX6_takes_21 : decode cX6_takes 21 = .ok (.goto 4, 3) := by decide +kernel
theorem dX6_takes_24 : decode cX6_takes 24 = .ok (.iconst 0, 1) := by decide +kernel
theorem dX6_takes_25 : decode cX6_takes 25 = .ok (.putfield 157, 3) := by decide +kernel
theorem dX6_takes_28 : decode cX6_takes 28 = .ok (.aload_n 0, 1) := by decide +kernel
theorem dX6_takes_29 : decode cX6_takes 29 = .ok (.invokevirtual 161, 3) := by decide +kernel
theorem dX6_takes_32 : decode cX6_takes 32 = .ok (.iload_n 1, 1) := by decide +kernel
theorem dX6_takes_33 : decode cX6_takes 33 = .ok (.isub, 1) := by decide +kernel
theorem dX6_takes_34 : decode cX6_takes 34 = .ok (.istore_n 3, 1) := by decide +kernel
theorem dX6_takes_35 : decode cX6_takes 35 = .ok (.aload_n 0, 1) := by decide +kernel
theorem dX6_takes_36 : decode cX6_takes 36 = .ok (.dup, 1) := by decide +kernel
theorem dX6_takes_37 : decode cX6_takes 37 = .ok (.getfield 154, 3) := by decide +kernel
theorem dX6_takes_40 : decode cX6_takes 40 = .ok (.aload_n 0, 1) := by decide +kernel
theorem dX6_takes_41 : decode cX6_takes 41 = .ok (.getfield 157, 3) := by decide +kernel
theorem dX6_takes_44 : decode cX6_takes 44 = .ok (.ifCond .eq 7, 3) := by decide +kernel
theorem dX6_takes_47 : decode cX6_takes 47 = .ok (.iconst 1, 1) := by decide +kernel
theorem dX6_takes_48 : decode cX6_takes 48 = .ok (.goto 4, 3) := by decide +kernel
theorem dX6_takes_51 : decode cX6_takes 51 = .ok (.iconst 0, 1) := by decide +kernel
theorem dX6_takes_52 : decode cX6_takes 52 = .ok (.iadd, 1) := by decide +kernel
theorem dX6_takes_53 : decode cX6_takes 53 = .ok (.putfield 154, 3) := by decide +kernel
theorem dX6_takes_56 : decode cX6_takes 56 = .ok (.iload_n 3, 1) := by decide +kernel
theorem dX6_takes_57 : decode cX6_takes 57 = .ok (.ireturn, 1) := by decide +kernel
theorem dX6_number_0 : decode cX6_number 0 = .ok (.aload_n 0, 1) := by decide +kernel
theorem dX6_number_1 : decode cX6_number 1 = .ok (.bipush 48, 2) := by decide +kernel
theorem dX6_number_3 : decode cX6_number 3 = .ok (.bipush 57, 2) := by decide +kernel
theorem dX6_number_5 : decode cX6_number 5 = .ok (.invokevirtual 164, 3) := by decide +kernel
theorem dX6_number_8 : decode cX6_number 8 = .ok (.istore_n 1, 1) := by decide +kernel
theorem dX6_number_9 : decode cX6_number 9 = .ok (.aload_n 0, 1) := by decide +kernel
theorem dX6_number_10 : decode cX6_number 10 = .ok (.getfield 157, 3) := by decide +kernel
theorem dX6_number_13 : decode cX6_number 13 = .ok (.ifCond .eq 37, 3) := by decide +kernel
theorem dX6_number_16 : decode cX6_number 16 = .ok (.iload_n 1, 1) := by decide +kernel
theorem dX6_number_17 : decode cX6_number 17 = .ok (.ifCond .le 33, 3) := by decide +kernel
theorem dX6_number_20 : decode cX6_number 20 = .ok (.aload_n 0, 1) := by decide +kernel
theorem dX6_number_21 : decode cX6_number 21 = .ok (.invokevirtual 161, 3) := by decide +kernel
theorem dX6_number_24 : decode cX6_number 24 = .ok (.bipush 48, 2) := by decide +kernel
theorem dX6_number_26 : decode cX6_number 26 = .ok (.bipush 57, 2) := by decide +kernel
theorem dX6_number_28 : decode cX6_number 28 = .ok (.invokestatic 32, 3) := by decide +kernel
theorem dX6_number_31 : decode cX6_number 31 = .ok (.ifCond .eq 19, 3) := by decide +kernel
theorem dX6_number_34 : decode cX6_number 34 = .ok (.bipush 10, 2) := by decide +kernel
theorem dX6_number_36 : decode cX6_number 36 = .ok (.iload_n 1, 1) := by decide +kernel
theorem dX6_number_37 : decode cX6_number 37 = .ok (.imul, 1) := by decide +kernel
theorem dX6_number_38 : decode cX6_number 38 = .ok (.aload_n 0, 1) := by decide +kernel
theorem dX6_number_39 : decode cX6_number 39 = .ok (.bipush 48, 2) := by decide +kernel
theorem dX6_number_41 : decode cX6_number 41 = .ok (.bipush 57, 2) := by decide +kernel
theorem dX6_number_43 : decode cX6_number 43 = .ok (.invokevirtual 164, 3) := by decide +kernel
theorem dX6_number_46 : decode cX6_number 46 = .ok (.iadd, 1) := by decide +kernel
theorem dX6_number_47 : decode cX6_number 47 = .ok (.goto 4, 3) := by decide +kernel
theorem dX6_number_50 : decode cX6_number 50 = .ok (.iload_n 1, 1) := by decide +kernel
theorem dX6_number_51 : decode cX6_number 51 = .ok (.ireturn, 1) := by decide +kernel
theorem dX6_rowsToGo_0 : decode cX6_rowsToGo 0 = .ok (.iconst 1, 1) := by decide +kernel
theorem dX6_rowsToGo_1 : decode cX6_rowsToGo 1 = .ok (.aload_n 0, 1) := by decide +kernel
theorem dX6_rowsToGo_2 : decode cX6_rowsToGo 2 = .ok (.bipush 49, 2) := by decide +kernel
theorem dX6_rowsToGo_4 : decode cX6_rowsToGo 4 = .ok (.bipush 57, 2) := by decide +kernel
theorem dX6_rowsToGo_6 : decode cX6_rowsToGo 6 = .ok (.invokevirtual 164, 3) := by decide +kernel
theorem dX6_rowsToGo_9 : decode cX6_rowsToGo 9 = .ok (.iadd, 1) := by decide +kernel
theorem dX6_rowsToGo_10 : decode cX6_rowsToGo 10 = .ok (.istore_n 1, 1) := by decide +kernel
theorem dX6_rowsToGo_11 : decode cX6_rowsToGo 11 = .ok (.aload_n 0, 1) := by decide +kernel
theorem dX6_rowsToGo_12 : decode cX6_rowsToGo 12 = .ok (.getfield 157, 3) := by decide +kernel
theorem dX6_rowsToGo_15 : decode cX6_rowsToGo 15 = .ok (.ifCond .eq 36, 3) := by decide +kernel
theorem dX6_rowsToGo_18 : decode cX6_rowsToGo 18 = .ok (.iload_n 1, 1) := by decide +kernel
theorem dX6_rowsToGo_19 : decode cX6_rowsToGo 19 = .ok (.iconst 1, 1) := by decide +kernel
theorem dX6_rowsToGo_20 : decode cX6_rowsToGo 20 = .ok (.if_icmp .ne 31, 3) := by decide +kernel
theorem dX6_rowsToGo_23 : decode cX6_rowsToGo 23 = .ok (.aload_n 0, 1) := by decide +kernel
theorem dX6_rowsToGo_24 : decode cX6_rowsToGo 24 = .ok (.invokevirtual 161, 3) := by decide +kernel
theorem dX6_rowsToGo_27 : decode cX6_rowsToGo 27 = .ok (.bipush 48, 2) := by decide +kernel
theorem dX6_rowsToGo_29 : decode cX6_rowsToGo 29 = .ok (.bipush 50, 2) := by decide +kernel
theorem dX6_rowsToGo_31 : decode cX6_rowsToGo 31 = .ok (.invokestatic 32, 3) := by decide +kernel
theorem dX6_rowsToGo_34 : decode cX6_rowsToGo 34 = .ok (.ifCond .eq 17, 3) := by decide +kernel
theorem dX6_rowsToGo_37 : decode cX6_rowsToGo 37 = .ok (.bipush 10, 2) := by decide +kernel
theorem dX6_rowsToGo_39 : decode cX6_rowsToGo 39 = .ok (.aload_n 0, 1) := by decide +kernel
theorem dX6_rowsToGo_40 : decode cX6_rowsToGo 40 = .ok (.bipush 48, 2) := by decide +kernel
theorem dX6_rowsToGo_42 : decode cX6_rowsToGo 42 = .ok (.bipush 50, 2) := by decide +kernel
theorem dX6_rowsToGo_44 : decode cX6_rowsToGo 44 = .ok (.invokevirtual 164, 3) := by decide +kernel
theorem dX6_rowsToGo_47 : decode cX6_rowsToGo 47 = .ok (.iadd, 1) := by decide +kernel
theorem dX6_rowsToGo_48 : decode cX6_rowsToGo 48 = .ok (.goto 4, 3) := by decide +kernel
theorem dX6_rowsToGo_51 : decode cX6_rowsToGo 51 = .ok (.iload_n 1, 1) := by decide +kernel
theorem dX6_rowsToGo_52 : decode cX6_rowsToGo 52 = .ok (.ireturn, 1) := by decide +kernel
theorem dX6_lays_0 : decode cX6_lays 0 = .ok (.aload_n 0, 1) := by decide +kernel
theorem dX6_lays_1 : decode cX6_lays 1 = .ok (.getfield 157, 3) := by decide +kernel
theorem dX6_lays_4 : decode cX6_lays 4 = .ok (.ifCond .eq 68, 3) := by decide +kernel
theorem dX6_lays_7 : decode cX6_lays 7 = .ok (.aload_n 0, 1) := by decide +kernel
theorem dX6_lays_8 : decode cX6_lays 8 = .ok (.getfield 22, 3) := by decide +kernel
theorem dX6_lays_11 : decode cX6_lays 11 = .ok (.iconst 4, 1) := by decide +kernel
theorem dX6_lays_12 : decode cX6_lays 12 = .ok (.aload_n 0, 1) := by decide +kernel
theorem dX6_lays_13 : decode cX6_lays 13 = .ok (.getfield 167, 3) := by decide +kernel
theorem dX6_lays_16 : decode cX6_lays 16 = .ok (.imul, 1) := by decide +kernel
theorem dX6_lays_17 : decode cX6_lays 17 = .ok (.iload_n 1, 1) := by decide +kernel
theorem dX6_lays_18 : decode cX6_lays 18 = .ok (.iastore, 1) := by decide +kernel
theorem dX6_lays_19 : decode cX6_lays 19 = .ok (.aload_n 0, 1) := by decide +kernel
theorem dX6_lays_20 : decode cX6_lays 20 = .ok (.getfield 22, 3) := by decide +kernel
theorem dX6_lays_23 : decode cX6_lays 23 = .ok (.iconst 4, 1) := by decide +kernel
theorem dX6_lays_24 : decode cX6_lays 24 = .ok (.aload_n 0, 1) := by decide +kernel
theorem dX6_lays_25 : decode cX6_lays 25 = .ok (.getfield 167, 3) := by decide +kernel
theorem dX6_lays_28 : decode cX6_lays 28 = .ok (.imul, 1) := by decide +kernel
theorem dX6_lays_29 : decode cX6_lays 29 = .ok (.iconst 1, 1) := by decide +kernel
theorem dX6_lays_30 : decode cX6_lays 30 = .ok (.iadd, 1) := by decide +kernel
theorem dX6_lays_31 : decode cX6_lays 31 = .ok (.iload_n 2, 1) := by decide +kernel
theorem dX6_lays_32 : decode cX6_lays 32 = .ok (.iastore, 1) := by decide +kernel
theorem dX6_lays_33 : decode cX6_lays 33 = .ok (.aload_n 0, 1) := by decide +kernel
theorem dX6_lays_34 : decode cX6_lays 34 = .ok (.getfield 22, 3) := by decide +kernel
theorem dX6_lays_37 : decode cX6_lays 37 = .ok (.iconst 4, 1) := by decide +kernel
theorem dX6_lays_38 : decode cX6_lays 38 = .ok (.aload_n 0, 1) := by decide +kernel
theorem dX6_lays_39 : decode cX6_lays 39 = .ok (.getfield 167, 3) := by decide +kernel
theorem dX6_lays_42 : decode cX6_lays 42 = .ok (.imul, 1) := by decide +kernel
theorem dX6_lays_43 : decode cX6_lays 43 = .ok (.iconst 2, 1) := by decide +kernel
theorem dX6_lays_44 : decode cX6_lays 44 = .ok (.iadd, 1) := by decide +kernel
theorem dX6_lays_45 : decode cX6_lays 45 = .ok (.iload_n 3, 1) := by decide +kernel
theorem dX6_lays_46 : decode cX6_lays 46 = .ok (.iastore, 1) := by decide +kernel
theorem dX6_lays_47 : decode cX6_lays 47 = .ok (.aload_n 0, 1) := by decide +kernel
theorem dX6_lays_48 : decode cX6_lays 48 = .ok (.getfield 22, 3) := by decide +kernel
theorem dX6_lays_51 : decode cX6_lays 51 = .ok (.iconst 4, 1) := by decide +kernel
theorem dX6_lays_52 : decode cX6_lays 52 = .ok (.aload_n 0, 1) := by decide +kernel
theorem dX6_lays_53 : decode cX6_lays 53 = .ok (.getfield 167, 3) := by decide +kernel
theorem dX6_lays_56 : decode cX6_lays 56 = .ok (.imul, 1) := by decide +kernel
theorem dX6_lays_57 : decode cX6_lays 57 = .ok (.iconst 3, 1) := by decide +kernel
theorem dX6_lays_58 : decode cX6_lays 58 = .ok (.iadd, 1) := by decide +kernel
theorem dX6_lays_59 : decode cX6_lays 59 = .ok (.iload 4, 2) := by decide +kernel
theorem dX6_lays_61 : decode cX6_lays 61 = .ok (.iastore, 1) := by decide +kernel
theorem dX6_lays_62 : decode cX6_lays 62 = .ok (.aload_n 0, 1) := by decide +kernel
theorem dX6_lays_63 : decode cX6_lays 63 = .ok (.dup, 1) := by decide +kernel
theorem dX6_lays_64 : decode cX6_lays 64 = .ok (.getfield 167, 3) := by decide +kernel
theorem dX6_lays_67 : decode cX6_lays 67 = .ok (.iconst 1, 1) := by decide +kernel
theorem dX6_lays_68 : decode cX6_lays 68 = .ok (.iadd, 1) := by decide +kernel
theorem dX6_lays_69 : decode cX6_lays 69 = .ok (.putfield 167, 3) := by decide +kernel
theorem dX6_lays_72 : decode cX6_lays 72 = .ok (.return_, 1) := by decide +kernel
theorem dX6_readsAdding_0 : decode cX6_readsAdding 0 = .ok (.aload_n 0, 1) := by decide +kernel
theorem dX6_readsAdding_1 : decode cX6_readsAdding 1 = .ok (.bipush 97, 2) := by decide +kernel
theorem dX6_readsAdding_3 : decode cX6_readsAdding 3 = .ok (.bipush 104, 2) := by decide +kernel
theorem dX6_readsAdding_5 : decode cX6_readsAdding 5 = .ok (.invokevirtual 164, 3) := by decide +kernel
theorem dX6_readsAdding_8 : decode cX6_readsAdding 8 = .ok (.istore_n 1, 1) := by decide +kernel
theorem dX6_readsAdding_9 : decode cX6_readsAdding 9 = .ok (.aload_n 0, 1) := by decide +kernel
theorem dX6_readsAdding_10 : decode cX6_readsAdding 10 = .ok (.getfield 157, 3) := by decide +kernel
theorem dX6_readsAdding_13 : decode cX6_readsAdding 13 = .ok (.ifCond .eq 38, 3) := by decide +kernel
theorem dX6_readsAdding_16 : decode cX6_readsAdding 16 = .ok (.aload_n 0, 1) := by decide +kernel
theorem dX6_readsAdding_17 : decode cX6_readsAdding 17 = .ok (.invokevirtual 161, 3) := by decide +kernel
theorem dX6_readsAdding_20 : decode cX6_readsAdding 20 = .ok (.bipush 61, 2) := by decide +kernel
theorem dX6_readsAdding_22 : decode cX6_readsAdding 22 = .ok (.if_icmp .ne 29, 3) := by decide +kernel
theorem dX6_readsAdding_25 : decode cX6_readsAdding 25 = .ok (.aload_n 0, 1) := by decide +kernel
theorem dX6_readsAdding_26 : decode cX6_readsAdding 26 = .ok (.dup, 1) := by decide +kernel
theorem dX6_readsAdding_27 : decode cX6_readsAdding 27 = .ok (.getfield 154, 3) := by decide +kernel
theorem dX6_readsAdding_30 : decode cX6_readsAdding 30 = .ok (.iconst 1, 1) := by decide +kernel
theorem dX6_readsAdding_31 : decode cX6_readsAdding 31 = .ok (.iadd, 1) := by decide +kernel
theorem dX6_readsAdding_32 : decode cX6_readsAdding 32 = .ok (.putfield 154, 3) := by decide +kernel
theorem dX6_readsAdding_35 : decode cX6_readsAdding 35 = .ok (.aload_n 0, 1) := by decide +kernel
theorem dX6_readsAdding_36 : decode cX6_readsAdding 36 = .ok (.invokevirtual 170, 3) := by decide +kernel
theorem dX6_readsAdding_39 : decode cX6_readsAdding 39 = .ok (.istore_n 2, 1) := by decide +kernel
theorem dX6_readsAdding_40 : decode cX6_readsAdding 40 = .ok (.aload_n 0, 1) := by decide +kernel
theorem dX6_readsAdding_41 : decode cX6_readsAdding 41 = .ok (.iconst 1, 1) := by decide +kernel
theorem dX6_readsAdding_42 : decode cX6_readsAdding 42 = .ok (.iload_n 1, 1) := by decide +kernel
theorem dX6_readsAdding_43 : decode cX6_readsAdding 43 = .ok (.iload_n 2, 1) := by decide +kernel
theorem dX6_readsAdding_44 : decode cX6_readsAdding 44 = .ok (.iconst 0, 1) := by decide +kernel
theorem dX6_readsAdding_45 : decode cX6_readsAdding 45 = .ok (.invokevirtual 173, 3) := by decide +kernel
theorem dX6_readsAdding_48 : decode cX6_readsAdding 48 = .ok (.goto 66, 3) := by decide +kernel
theorem dX6_readsAdding_51 : decode cX6_readsAdding 51 = .ok (.aload_n 0, 1) := by decide +kernel
theorem dX6_readsAdding_52 : decode cX6_readsAdding 52 = .ok (.bipush 58, 2) := by decide +kernel
theorem dX6_readsAdding_54 : decode cX6_readsAdding 54 = .ok (.bipush 58, 2) := by decide +kernel
theorem dX6_readsAdding_56 : decode cX6_readsAdding 56 = .ok (.invokevirtual 164, 3) := by decide +kernel
theorem dX6_readsAdding_59 : decode cX6_readsAdding 59 = .ok (.pop, 1) := by decide +kernel
theorem dX6_readsAdding_60 : decode cX6_readsAdding 60 = .ok (.aload_n 0, 1) := by decide +kernel
theorem dX6_readsAdding_61 : decode cX6_readsAdding 61 = .ok (.bipush 97, 2) := by decide +kernel
theorem dX6_readsAdding_63 : decode cX6_readsAdding 63 = .ok (.bipush 104, 2) := by decide +kernel
theorem dX6_readsAdding_65 : decode cX6_readsAdding 65 = .ok (.invokevirtual 164, 3) := by decide +kernel
theorem dX6_readsAdding_68 : decode cX6_readsAdding 68 = .ok (.istore_n 2, 1) := by decide +kernel
theorem dX6_readsAdding_69 : decode cX6_readsAdding 69 = .ok (.iconst (-1), 1) := by decide +kernel
theorem dX6_readsAdding_70 : decode cX6_readsAdding 70 = .ok (.istore_n 3, 1) := by decide +kernel
theorem dX6_readsAdding_71 : decode cX6_readsAdding 71 = .ok (.aload_n 0, 1) := by decide +kernel
theorem dX6_readsAdding_72 : decode cX6_readsAdding 72 = .ok (.getfield 157, 3) := by decide +kernel
theorem dX6_readsAdding_75 : decode cX6_readsAdding 75 = .ok (.ifCond .eq 31, 3) := by decide +kernel
theorem dX6_readsAdding_78 : decode cX6_readsAdding 78 = .ok (.aload_n 0, 1) := by decide +kernel
theorem dX6_readsAdding_79 : decode cX6_readsAdding 79 = .ok (.invokevirtual 161, 3) := by decide +kernel
theorem dX6_readsAdding_82 : decode cX6_readsAdding 82 = .ok (.bipush 43, 2) := by decide +kernel
theorem dX6_readsAdding_84 : decode cX6_readsAdding 84 = .ok (.if_icmp .ne 22, 3) := by decide +kernel
theorem dX6_readsAdding_87 : decode cX6_readsAdding 87 = .ok (.aload_n 0, 1) := by decide +kernel
theorem dX6_readsAdding_88 : decode cX6_readsAdding 88 = .ok (.dup, 1) := by decide +kernel
theorem dX6_readsAdding_89 : decode cX6_readsAdding 89 = .ok (.getfield 154, 3) := by decide +kernel
theorem dX6_readsAdding_92 : decode cX6_readsAdding 92 = .ok (.iconst 1, 1) := by decide +kernel
theorem dX6_readsAdding_93 : decode cX6_readsAdding 93 = .ok (.iadd, 1) := by decide +kernel
theorem dX6_readsAdding_94 : decode cX6_readsAdding 94 = .ok (.putfield 154, 3) := by decide +kernel
theorem dX6_readsAdding_97 : decode cX6_readsAdding 97 = .ok (.aload_n 0, 1) := by decide +kernel
theorem dX6_readsAdding_98 : decode cX6_readsAdding 98 = .ok (.bipush 97, 2) := by decide +kernel
theorem dX6_readsAdding_100 : decode cX6_readsAdding 100 = .ok (.bipush 104, 2) := by decide +kernel
theorem dX6_readsAdding_102 : decode cX6_readsAdding 102 = .ok (.invokevirtual 164, 3) := by decide +kernel
theorem dX6_readsAdding_105 : decode cX6_readsAdding 105 = .ok (.istore_n 3, 1) := by decide +kernel
theorem dX6_readsAdding_106 : decode cX6_readsAdding 106 = .ok (.aload_n 0, 1) := by decide +kernel
theorem dX6_readsAdding_107 : decode cX6_readsAdding 107 = .ok (.iconst 2, 1) := by decide +kernel
theorem dX6_readsAdding_108 : decode cX6_readsAdding 108 = .ok (.iload_n 1, 1) := by decide +kernel
theorem dX6_readsAdding_109 : decode cX6_readsAdding 109 = .ok (.iload_n 2, 1) := by decide +kernel
theorem dX6_readsAdding_110 : decode cX6_readsAdding 110 = .ok (.iload_n 3, 1) := by decide +kernel
theorem dX6_readsAdding_111 : decode cX6_readsAdding 111 = .ok (.invokevirtual 173, 3) := by decide +kernel
theorem dX6_readsAdding_114 : decode cX6_readsAdding 114 = .ok (.return_, 1) := by decide +kernel
theorem dX6_readsOrder_0 : decode cX6_readsOrder 0 = .ok (.aload_n 0, 1) := by decide +kernel
theorem dX6_readsOrder_1 : decode cX6_readsOrder 1 = .ok (.invokevirtual 161, 3) := by decide +kernel
theorem dX6_readsOrder_4 : decode cX6_readsOrder 4 = .ok (.istore_n 1, 1) := by decide +kernel
theorem dX6_readsOrder_5 : decode cX6_readsOrder 5 = .ok (.iload_n 1, 1) := by decide +kernel
theorem dX6_readsOrder_6 : decode cX6_readsOrder 6 = .ok (.bipush 43, 2) := by decide +kernel
theorem dX6_readsOrder_8 : decode cX6_readsOrder 8 = .ok (.if_icmp .eq 27, 3) := by decide +kernel
theorem dX6_readsOrder_11 : decode cX6_readsOrder 11 = .ok (.iload_n 1, 1) := by decide +kernel
theorem dX6_readsOrder_12 : decode cX6_readsOrder 12 = .ok (.bipush 45, 2) := by decide +kernel
theorem dX6_readsOrder_14 : decode cX6_readsOrder 14 = .ok (.if_icmp .eq 21, 3) := by decide +kernel
theorem dX6_readsOrder_17 : decode cX6_readsOrder 17 = .ok (.iload_n 1, 1) := by decide +kernel
theorem dX6_readsOrder_18 : decode cX6_readsOrder 18 = .ok (.bipush 62, 2) := by decide +kernel
theorem dX6_readsOrder_20 : decode cX6_readsOrder 20 = .ok (.if_icmp .eq 15, 3) := by decide +kernel
theorem dX6_readsOrder_23 : decode cX6_readsOrder 23 = .ok (.iload_n 1, 1) := by decide +kernel
theorem dX6_readsOrder_24 : decode cX6_readsOrder 24 = .ok (.bipush 110, 2) := by decide +kernel
theorem dX6_readsOrder_26 : decode cX6_readsOrder 26 = .ok (.if_icmp .eq 9, 3) := by decide +kernel
theorem dX6_readsOrder_29 : decode cX6_readsOrder 29 = .ok (.iload_n 1, 1) := by decide +kernel
theorem dX6_readsOrder_30 : decode cX6_readsOrder 30 = .ok (.bipush 42, 2) := by decide +kernel
theorem dX6_readsOrder_32 : decode cX6_readsOrder 32 = .ok (.if_icmp .ne 7, 3) := by decide +kernel
theorem dX6_readsOrder_35 : decode cX6_readsOrder 35 = .ok (.iconst 1, 1) := by decide +kernel
theorem dX6_readsOrder_36 : decode cX6_readsOrder 36 = .ok (.goto 4, 3) := by decide +kernel
theorem dX6_readsOrder_39 : decode cX6_readsOrder 39 = .ok (.iconst 0, 1) := by decide +kernel
theorem dX6_readsOrder_40 : decode cX6_readsOrder 40 = .ok (.istore_n 2, 1) := by decide +kernel
theorem dX6_readsOrder_41 : decode cX6_readsOrder 41 = .ok (.aload_n 0, 1) := by decide +kernel
theorem dX6_readsOrder_42 : decode cX6_readsOrder 42 = .ok (.aload_n 0, 1) := by decide +kernel
theorem dX6_readsOrder_43 : decode cX6_readsOrder 43 = .ok (.getfield 157, 3) := by decide +kernel
theorem dX6_readsOrder_46 : decode cX6_readsOrder 46 = .ok (.ifCond .eq 11, 3) := by decide +kernel
theorem dX6_readsOrder_49 : decode cX6_readsOrder 49 = .ok (.iload_n 2, 1) := by decide +kernel
theorem dX6_readsOrder_50 : decode cX6_readsOrder 50 = .ok (.ifCond .eq 7, 3) := by decide +kernel
theorem dX6_readsOrder_53 : decode cX6_readsOrder 53 = .ok (.iconst 1, 1) := by decide +kernel
theorem dX6_readsOrder_54 : decode cX6_readsOrder 54 = .ok (.goto 4, 3) := by decide +kernel
theorem dX6_readsOrder_57 : decode cX6_readsOrder 57 = .ok (.iconst 0, 1) := by decide +kernel
theorem dX6_readsOrder_58 : decode cX6_readsOrder 58 = .ok (.putfield 157, 3) := by decide +kernel
theorem dX6_readsOrder_61 : decode cX6_readsOrder 61 = .ok (.aload_n 0, 1) := by decide +kernel
theorem dX6_readsOrder_62 : decode cX6_readsOrder 62 = .ok (.dup, 1) := by decide +kernel
theorem dX6_readsOrder_63 : decode cX6_readsOrder 63 = .ok (.getfield 154, 3) := by decide +kernel
theorem dX6_readsOrder_66 : decode cX6_readsOrder 66 = .ok (.aload_n 0, 1) := by decide +kernel
theorem dX6_readsOrder_67 : decode cX6_readsOrder 67 = .ok (.getfield 157, 3) := by decide +kernel
theorem dX6_readsOrder_70 : decode cX6_readsOrder 70 = .ok (.ifCond .eq 7, 3) := by decide +kernel
theorem dX6_readsOrder_73 : decode cX6_readsOrder 73 = .ok (.iconst 1, 1) := by decide +kernel
theorem dX6_readsOrder_74 : decode cX6_readsOrder 74 = .ok (.goto 4, 3) := by decide +kernel
theorem dX6_readsOrder_77 : decode cX6_readsOrder 77 = .ok (.iconst 0, 1) := by decide +kernel
theorem dX6_readsOrder_78 : decode cX6_readsOrder 78 = .ok (.iadd, 1) := by decide +kernel
theorem dX6_readsOrder_79 : decode cX6_readsOrder 79 = .ok (.putfield 154, 3) := by decide +kernel
theorem dX6_readsOrder_82 : decode cX6_readsOrder 82 = .ok (.aload_n 0, 1) := by decide +kernel
theorem dX6_readsOrder_83 : decode cX6_readsOrder 83 = .ok (.getfield 157, 3) := by decide +kernel
theorem dX6_readsOrder_86 : decode cX6_readsOrder 86 = .ok (.ifCond .ne 4, 3) := by decide +kernel
theorem dX6_readsOrder_89 : decode cX6_readsOrder 89 = .ok (.return_, 1) := by decide +kernel
theorem dX6_readsOrder_90 : decode cX6_readsOrder 90 = .ok (.iload_n 1, 1) := by decide +kernel
theorem dX6_readsOrder_91 : decode cX6_readsOrder 91 = .ok (.bipush 43, 2) := by decide +kernel
theorem dX6_readsOrder_93 : decode cX6_readsOrder 93 = .ok (.if_icmp .ne 10, 3) := by decide +kernel
theorem dX6_readsOrder_96 : decode cX6_readsOrder 96 = .ok (.aload_n 0, 1) := by decide +kernel
theorem dX6_readsOrder_97 : decode cX6_readsOrder 97 = .ok (.invokevirtual 177, 3) := by decide +kernel
theorem dX6_readsOrder_100 : decode cX6_readsOrder 100 = .ok (.goto 114, 3) := by decide +kernel
theorem dX6_readsOrder_103 : decode cX6_readsOrder 103 = .ok (.iload_n 1, 1) := by decide +kernel
theorem dX6_readsOrder_104 : decode cX6_readsOrder 104 = .ok (.bipush 45, 2) := by decide +kernel
theorem dX6_readsOrder_106 : decode cX6_readsOrder 106 = .ok (.if_icmp .ne 39, 3) := by decide +kernel
theorem dX6_readsOrder_109 : decode cX6_readsOrder 109 = .ok (.aload_n 0, 1) := by decide +kernel
theorem dX6_readsOrder_110 : decode cX6_readsOrder 110 = .ok (.bipush 97, 2) := by decide +kernel
theorem dX6_readsOrder_112 : decode cX6_readsOrder 112 = .ok (.bipush 104, 2) := by decide +kernel
theorem dX6_readsOrder_114 : decode cX6_readsOrder 114 = .ok (.invokevirtual 164, 3) := by decide +kernel
theorem dX6_readsOrder_117 : decode cX6_readsOrder 117 = .ok (.istore_n 3, 1) := by decide +kernel
theorem dX6_readsOrder_118 : decode cX6_readsOrder 118 = .ok (.aload_n 0, 1) := by decide +kernel
theorem dX6_readsOrder_119 : decode cX6_readsOrder 119 = .ok (.bipush 61, 2) := by decide +kernel
theorem dX6_readsOrder_121 : decode cX6_readsOrder 121 = .ok (.bipush 61, 2) := by decide +kernel
theorem dX6_readsOrder_123 : decode cX6_readsOrder 123 = .ok (.invokevirtual 164, 3) := by decide +kernel
theorem dX6_readsOrder_126 : decode cX6_readsOrder 126 = .ok (.pop, 1) := by decide +kernel
theorem dX6_readsOrder_127 : decode cX6_readsOrder 127 = .ok (.aload_n 0, 1) := by decide +kernel
theorem dX6_readsOrder_128 : decode cX6_readsOrder 128 = .ok (.invokevirtual 170, 3) := by decide +kernel
theorem dX6_readsOrder_131 : decode cX6_readsOrder 131 = .ok (.istore 4, 2) := by decide +kernel
theorem dX6_readsOrder_133 : decode cX6_readsOrder 133 = .ok (.aload_n 0, 1) := by decide +kernel
theorem dX6_readsOrder_134 : decode cX6_readsOrder 134 = .ok (.iconst 4, 1) := by decide +kernel
theorem dX6_readsOrder_135 : decode cX6_readsOrder 135 = .ok (.iload_n 3, 1) := by decide +kernel
theorem dX6_readsOrder_136 : decode cX6_readsOrder 136 = .ok (.iload 4, 2) := by decide +kernel
theorem dX6_readsOrder_138 : decode cX6_readsOrder 138 = .ok (.iconst 0, 1) := by decide +kernel
theorem dX6_readsOrder_139 : decode cX6_readsOrder 139 = .ok (.invokevirtual 173, 3) := by decide +kernel
theorem dX6_readsOrder_142 : decode cX6_readsOrder 142 = .ok (.goto 72, 3) := by decide +kernel
theorem dX6_readsOrder_145 : decode cX6_readsOrder 145 = .ok (.iload_n 1, 1) := by decide +kernel
theorem dX6_readsOrder_146 : decode cX6_readsOrder 146 = .ok (.bipush 62, 2) := by decide +kernel
theorem dX6_readsOrder_148 : decode cX6_readsOrder 148 = .ok (.if_icmp .ne 34, 3) := by decide +kernel
theorem dX6_readsOrder_151 : decode cX6_readsOrder 151 = .ok (.aload_n 0, 1) := by decide +kernel
theorem dX6_readsOrder_152 : decode cX6_readsOrder 152 = .ok (.bipush 97, 2) := by decide +kernel
theorem dX6_readsOrder_154 : decode cX6_readsOrder 154 = .ok (.bipush 104, 2) := by decide +kernel
theorem dX6_readsOrder_156 : decode cX6_readsOrder 156 = .ok (.invokevirtual 164, 3) := by decide +kernel
theorem dX6_readsOrder_159 : decode cX6_readsOrder 159 = .ok (.istore_n 3, 1) := by decide +kernel
theorem dX6_readsOrder_160 : decode cX6_readsOrder 160 = .ok (.aload_n 0, 1) := by decide +kernel
theorem dX6_readsOrder_161 : decode cX6_readsOrder 161 = .ok (.bipush 97, 2) := by decide +kernel
theorem dX6_readsOrder_163 : decode cX6_readsOrder 163 = .ok (.bipush 104, 2) := by decide +kernel
theorem dX6_readsOrder_165 : decode cX6_readsOrder 165 = .ok (.invokevirtual 164, 3) := by decide +kernel
theorem dX6_readsOrder_168 : decode cX6_readsOrder 168 = .ok (.istore 4, 2) := by decide +kernel
theorem dX6_readsOrder_170 : decode cX6_readsOrder 170 = .ok (.aload_n 0, 1) := by decide +kernel
theorem dX6_readsOrder_171 : decode cX6_readsOrder 171 = .ok (.iconst 5, 1) := by decide +kernel
theorem dX6_readsOrder_172 : decode cX6_readsOrder 172 = .ok (.iload_n 3, 1) := by decide +kernel
theorem dX6_readsOrder_173 : decode cX6_readsOrder 173 = .ok (.iload 4, 2) := by decide +kernel
theorem dX6_readsOrder_175 : decode cX6_readsOrder 175 = .ok (.iconst 0, 1) := by decide +kernel
theorem dX6_readsOrder_176 : decode cX6_readsOrder 176 = .ok (.invokevirtual 173, 3) := by decide +kernel
theorem dX6_readsOrder_179 : decode cX6_readsOrder 179 = .ok (.goto 35, 3) := by decide +kernel
theorem dX6_readsOrder_182 : decode cX6_readsOrder 182 = .ok (.iload_n 1, 1) := by decide +kernel
theorem dX6_readsOrder_183 : decode cX6_readsOrder 183 = .ok (.bipush 110, 2) := by decide +kernel
theorem dX6_readsOrder_185 : decode cX6_readsOrder 185 = .ok (.if_icmp .ne 15, 3) := by decide +kernel
theorem dX6_readsOrder_188 : decode cX6_readsOrder 188 = .ok (.aload_n 0, 1) := by decide +kernel
theorem dX6_readsOrder_189 : decode cX6_readsOrder 189 = .ok (.bipush 6, 2) := by decide +kernel
theorem dX6_readsOrder_191 : decode cX6_readsOrder 191 = .ok (.iconst 0, 1) := by decide +kernel
theorem dX6_readsOrder_192 : decode cX6_readsOrder 192 = .ok (.iconst 0, 1) := by decide +kernel
theorem dX6_readsOrder_193 : decode cX6_readsOrder 193 = .ok (.iconst 0, 1) := by decide +kernel
theorem dX6_readsOrder_194 : decode cX6_readsOrder 194 = .ok (.invokevirtual 173, 3) := by decide +kernel
theorem dX6_readsOrder_197 : decode cX6_readsOrder 197 = .ok (.goto 17, 3) := by decide +kernel
theorem dX6_readsOrder_200 : decode cX6_readsOrder 200 = .ok (.aload_n 0, 1) := by decide +kernel
theorem dX6_readsOrder_201 : decode cX6_readsOrder 201 = .ok (.invokevirtual 180, 3) := by decide +kernel
theorem dX6_readsOrder_204 : decode cX6_readsOrder 204 = .ok (.istore_n 3, 1) := by decide +kernel
theorem dX6_readsOrder_205 : decode cX6_readsOrder 205 = .ok (.aload_n 0, 1) := by decide +kernel
theorem dX6_readsOrder_206 : decode cX6_readsOrder 206 = .ok (.bipush 7, 2) := by decide +kernel
theorem dX6_readsOrder_208 : decode cX6_readsOrder 208 = .ok (.iload_n 3, 1) := by decide +kernel
theorem dX6_readsOrder_209 : decode cX6_readsOrder 209 = .ok (.iconst 0, 1) := by decide +kernel
theorem dX6_readsOrder_210 : decode cX6_readsOrder 210 = .ok (.iconst 0, 1) := by decide +kernel
theorem dX6_readsOrder_211 : decode cX6_readsOrder 211 = .ok (.invokevirtual 173, 3) := by decide +kernel
theorem dX6_readsOrder_214 : decode cX6_readsOrder 214 = .ok (.return_, 1) := by decide +kernel
theorem dX6_readsAll_0 : decode cX6_readsAll 0 = .ok (.aload_n 0, 1) := by decide +kernel
theorem dX6_readsAll_1 : decode cX6_readsAll 1 = .ok (.iconst 0, 1) := by decide +kernel
theorem dX6_readsAll_2 : decode cX6_readsAll 2 = .ok (.putfield 154, 3) := by decide +kernel
theorem dX6_readsAll_5 : decode cX6_readsAll 5 = .ok (.aload_n 0, 1) := by decide +kernel
theorem dX6_readsAll_6 : decode cX6_readsAll 6 = .ok (.iconst 1, 1) := by decide +kernel
theorem dX6_readsAll_7 : decode cX6_readsAll 7 = .ok (.putfield 157, 3) := by decide +kernel
theorem dX6_readsAll_10 : decode cX6_readsAll 10 = .ok (.aload_n 0, 1) := by decide +kernel
theorem dX6_readsAll_11 : decode cX6_readsAll 11 = .ok (.iconst 0, 1) := by decide +kernel
theorem dX6_readsAll_12 : decode cX6_readsAll 12 = .ok (.putfield 167, 3) := by decide +kernel
theorem dX6_readsAll_15 : decode cX6_readsAll 15 = .ok (.aload_n 0, 1) := by decide +kernel
theorem dX6_readsAll_16 : decode cX6_readsAll 16 = .ok (.invokevirtual 183, 3) := by decide +kernel
theorem dX6_readsAll_19 : decode cX6_readsAll 19 = .ok (.aload_n 0, 1) := by decide +kernel
theorem dX6_readsAll_20 : decode cX6_readsAll 20 = .ok (.getfield 157, 3) := by decide +kernel
theorem dX6_readsAll_23 : decode cX6_readsAll 23 = .ok (.ifCond .eq 37, 3) := by decide +kernel
theorem dX6_readsAll_26 : decode cX6_readsAll 26 = .ok (.aload_n 0, 1) := by decide +kernel
theorem dX6_readsAll_27 : decode cX6_readsAll 27 = .ok (.getfield 154, 3) := by decide +kernel
theorem dX6_readsAll_30 : decode cX6_readsAll 30 = .ok (.aload_n 0, 1) := by decide +kernel
theorem dX6_readsAll_31 : decode cX6_readsAll 31 = .ok (.getfield 151, 3) := by decide +kernel
theorem dX6_readsAll_34 : decode cX6_readsAll 34 = .ok (.if_icmp .ge 26, 3) := by decide +kernel
theorem dX6_readsAll_37 : decode cX6_readsAll 37 = .ok (.aload_n 0, 1) := by decide +kernel
theorem dX6_readsAll_38 : decode cX6_readsAll 38 = .ok (.bipush 59, 2) := by decide +kernel
theorem dX6_readsAll_40 : decode cX6_readsAll 40 = .ok (.bipush 59, 2) := by decide +kernel
theorem dX6_readsAll_42 : decode cX6_readsAll 42 = .ok (.invokevirtual 164, 3) := by decide +kernel
theorem dX6_readsAll_45 : decode cX6_readsAll 45 = .ok (.pop, 1) := by decide +kernel
theorem dX6_readsAll_46 : decode cX6_readsAll 46 = .ok (.aload_n 0, 1) := by decide +kernel
theorem dX6_readsAll_47 : decode cX6_readsAll 47 = .ok (.getfield 157, 3) := by decide +kernel
theorem dX6_readsAll_50 : decode cX6_readsAll 50 = .ok (.ifCond .eq (-31), 3) := by decide +kernel
theorem dX6_readsAll_53 : decode cX6_readsAll 53 = .ok (.aload_n 0, 1) := by decide +kernel
theorem dX6_readsAll_54 : decode cX6_readsAll 54 = .ok (.invokevirtual 183, 3) := by decide +kernel
theorem dX6_readsAll_57 : decode cX6_readsAll 57 = .ok (.goto (-38), 3) := by decide +kernel
theorem dX6_readsAll_60 : decode cX6_readsAll 60 = .ok (.return_, 1) := by decide +kernel
theorem dX6_firstError_0 : decode cX6_firstError 0 = .ok (.aload_n 0, 1) := by decide +kernel
theorem dX6_firstError_1 : decode cX6_firstError 1 = .ok (.iconst 0, 1) := by decide +kernel
theorem dX6_firstError_2 : decode cX6_firstError 2 = .ok (.putfield 25, 3) := by decide +kernel
theorem dX6_firstError_5 : decode cX6_firstError 5 = .ok (.aload_n 0, 1) := by decide +kernel
theorem dX6_firstError_6 : decode cX6_firstError 6 = .ok (.invokevirtual 186, 3) := by decide +kernel
theorem dX6_firstError_9 : decode cX6_firstError 9 = .ok (.aload_n 0, 1) := by decide +kernel
theorem dX6_firstError_10 : decode cX6_firstError 10 = .ok (.getfield 154, 3) := by decide +kernel
theorem dX6_firstError_13 : decode cX6_firstError 13 = .ok (.ireturn, 1) := by decide +kernel
theorem dX6_does_0 : decode cX6_does 0 = .ok (.aload_n 0, 1) := by decide +kernel
theorem dX6_does_1 : decode cX6_does 1 = .ok (.getfield 22, 3) := by decide +kernel
theorem dX6_does_4 : decode cX6_does 4 = .ok (.iconst 4, 1) := by decide +kernel
theorem dX6_does_5 : decode cX6_does 5 = .ok (.iload_n 1, 1) := by decide +kernel
theorem dX6_does_6 : decode cX6_does 6 = .ok (.imul, 1) := by decide +kernel
theorem dX6_does_7 : decode cX6_does 7 = .ok (.iconst 1, 1) := by decide +kernel
theorem dX6_does_8 : decode cX6_does 8 = .ok (.iadd, 1) := by decide +kernel
theorem dX6_does_9 : decode cX6_does 9 = .ok (.iaload, 1) := by decide +kernel
theorem dX6_does_10 : decode cX6_does 10 = .ok (.istore_n 2, 1) := by decide +kernel
theorem dX6_does_11 : decode cX6_does 11 = .ok (.aload_n 0, 1) := by decide +kernel
theorem dX6_does_12 : decode cX6_does 12 = .ok (.getfield 22, 3) := by decide +kernel
theorem dX6_does_15 : decode cX6_does 15 = .ok (.iconst 4, 1) := by decide +kernel
theorem dX6_does_16 : decode cX6_does 16 = .ok (.iload_n 1, 1) := by decide +kernel
theorem dX6_does_17 : decode cX6_does 17 = .ok (.imul, 1) := by decide +kernel
theorem dX6_does_18 : decode cX6_does 18 = .ok (.iconst 2, 1) := by decide +kernel
theorem dX6_does_19 : decode cX6_does 19 = .ok (.iadd, 1) := by decide +kernel
theorem dX6_does_20 : decode cX6_does 20 = .ok (.iaload, 1) := by decide +kernel
theorem dX6_does_21 : decode cX6_does 21 = .ok (.istore_n 3, 1) := by decide +kernel
theorem dX6_does_22 : decode cX6_does 22 = .ok (.aload_n 0, 1) := by decide +kernel
theorem dX6_does_23 : decode cX6_does 23 = .ok (.getfield 22, 3) := by decide +kernel
theorem dX6_does_26 : decode cX6_does 26 = .ok (.iconst 4, 1) := by decide +kernel
theorem dX6_does_27 : decode cX6_does 27 = .ok (.iload_n 1, 1) := by decide +kernel
theorem dX6_does_28 : decode cX6_does 28 = .ok (.imul, 1) := by decide +kernel
theorem dX6_does_29 : decode cX6_does 29 = .ok (.iconst 3, 1) := by decide +kernel
theorem dX6_does_30 : decode cX6_does 30 = .ok (.iadd, 1) := by decide +kernel
theorem dX6_does_31 : decode cX6_does 31 = .ok (.iaload, 1) := by decide +kernel
theorem dX6_does_32 : decode cX6_does 32 = .ok (.istore 4, 2) := by decide +kernel
theorem dX6_does_34 : decode cX6_does 34 = .ok (.aload_n 0, 1) := by decide +kernel
theorem dX6_does_35 : decode cX6_does 35 = .ok (.getfield 22, 3) := by decide +kernel
theorem dX6_does_38 : decode cX6_does 38 = .ok (.iconst 4, 1) := by decide +kernel
theorem dX6_does_39 : decode cX6_does 39 = .ok (.iload_n 1, 1) := by decide +kernel
theorem dX6_does_40 : decode cX6_does 40 = .ok (.imul, 1) := by decide +kernel
theorem dX6_does_41 : decode cX6_does 41 = .ok (.iaload, 1) := by decide +kernel
theorem dX6_does_42 : decode cX6_does 42 = .ok (.tableswitch 141 1 6 #[38, 57, 141, 80, 99, 118], 38) := by decide +kernel
theorem dX6_does_80 : decode cX6_does 80 = .ok (.aload_n 0, 1) := by decide +kernel
theorem dX6_does_81 : decode cX6_does 81 = .ok (.iload_n 2, 1) := by decide +kernel
theorem dX6_does_82 : decode cX6_does 82 = .ok (.iload_n 3, 1) := by decide +kernel
theorem dX6_does_83 : decode cX6_does 83 = .ok (.invokevirtual 69, 3) := by decide +kernel
theorem dX6_does_86 : decode cX6_does 86 = .ok (.ifCond .eq 5, 3) := by decide +kernel
theorem dX6_does_89 : decode cX6_does 89 = .ok (.iconst 0, 1) := by decide +kernel
theorem dX6_does_90 : decode cX6_does 90 = .ok (.ireturn, 1) := by decide +kernel
theorem dX6_does_91 : decode cX6_does 91 = .ok (.aload_n 0, 1) := by decide +kernel
theorem dX6_does_92 : decode cX6_does 92 = .ok (.iload_n 2, 1) := by decide +kernel
theorem dX6_does_93 : decode cX6_does 93 = .ok (.iload_n 3, 1) := by decide +kernel
theorem dX6_does_94 : decode cX6_does 94 = .ok (.invokevirtual 75, 3) := by decide +kernel
theorem dX6_does_97 : decode cX6_does 97 = .ok (.iconst 1, 1) := by decide +kernel
theorem dX6_does_98 : decode cX6_does 98 = .ok (.ireturn, 1) := by decide +kernel
theorem dX6_does_99 : decode cX6_does 99 = .ok (.aload_n 0, 1) := by decide +kernel
theorem dX6_does_100 : decode cX6_does 100 = .ok (.iload_n 2, 1) := by decide +kernel
theorem dX6_does_101 : decode cX6_does 101 = .ok (.iload_n 3, 1) := by decide +kernel
theorem dX6_does_102 : decode cX6_does 102 = .ok (.iload 4, 2) := by decide +kernel
theorem dX6_does_104 : decode cX6_does 104 = .ok (.invokevirtual 79, 3) := by decide +kernel
theorem dX6_does_107 : decode cX6_does 107 = .ok (.ifCond .eq 5, 3) := by decide +kernel
theorem dX6_does_110 : decode cX6_does 110 = .ok (.iconst 0, 1) := by decide +kernel
theorem dX6_does_111 : decode cX6_does 111 = .ok (.ireturn, 1) := by decide +kernel
theorem dX6_does_112 : decode cX6_does 112 = .ok (.aload_n 0, 1) := by decide +kernel
theorem dX6_does_113 : decode cX6_does 113 = .ok (.iload_n 2, 1) := by decide +kernel
theorem dX6_does_114 : decode cX6_does 114 = .ok (.iload_n 3, 1) := by decide +kernel
theorem dX6_does_115 : decode cX6_does 115 = .ok (.iload 4, 2) := by decide +kernel
theorem dX6_does_117 : decode cX6_does 117 = .ok (.invokevirtual 83, 3) := by decide +kernel
theorem dX6_does_120 : decode cX6_does 120 = .ok (.iconst 1, 1) := by decide +kernel
theorem dX6_does_121 : decode cX6_does 121 = .ok (.ireturn, 1) := by decide +kernel
theorem dX6_does_122 : decode cX6_does 122 = .ok (.aload_n 0, 1) := by decide +kernel
theorem dX6_does_123 : decode cX6_does 123 = .ok (.iload_n 2, 1) := by decide +kernel
theorem dX6_does_124 : decode cX6_does 124 = .ok (.iload_n 3, 1) := by decide +kernel
theorem dX6_does_125 : decode cX6_does 125 = .ok (.invokevirtual 86, 3) := by decide +kernel
theorem dX6_does_128 : decode cX6_does 128 = .ok (.ifCond .eq 5, 3) := by decide +kernel
theorem dX6_does_131 : decode cX6_does 131 = .ok (.iconst 0, 1) := by decide +kernel
theorem dX6_does_132 : decode cX6_does 132 = .ok (.ireturn, 1) := by decide +kernel
theorem dX6_does_133 : decode cX6_does 133 = .ok (.aload_n 0, 1) := by decide +kernel
theorem dX6_does_134 : decode cX6_does 134 = .ok (.iload_n 2, 1) := by decide +kernel
theorem dX6_does_135 : decode cX6_does 135 = .ok (.iload_n 3, 1) := by decide +kernel
theorem dX6_does_136 : decode cX6_does 136 = .ok (.invokevirtual 89, 3) := by decide +kernel
theorem dX6_does_139 : decode cX6_does 139 = .ok (.iconst 1, 1) := by decide +kernel
theorem dX6_does_140 : decode cX6_does 140 = .ok (.ireturn, 1) := by decide +kernel
theorem dX6_does_141 : decode cX6_does 141 = .ok (.aload_n 0, 1) := by decide +kernel
theorem dX6_does_142 : decode cX6_does 142 = .ok (.iload_n 2, 1) := by decide +kernel
theorem dX6_does_143 : decode cX6_does 143 = .ok (.iload_n 3, 1) := by decide +kernel
theorem dX6_does_144 : decode cX6_does 144 = .ok (.invokevirtual 92, 3) := by decide +kernel
theorem dX6_does_147 : decode cX6_does 147 = .ok (.ifCond .eq 5, 3) := by decide +kernel
theorem dX6_does_150 : decode cX6_does 150 = .ok (.iconst 0, 1) := by decide +kernel
theorem dX6_does_151 : decode cX6_does 151 = .ok (.ireturn, 1) := by decide +kernel
theorem dX6_does_152 : decode cX6_does 152 = .ok (.aload_n 0, 1) := by decide +kernel
theorem dX6_does_153 : decode cX6_does 153 = .ok (.iload_n 2, 1) := by decide +kernel
theorem dX6_does_154 : decode cX6_does 154 = .ok (.iload_n 3, 1) := by decide +kernel
theorem dX6_does_155 : decode cX6_does 155 = .ok (.invokevirtual 95, 3) := by decide +kernel
theorem dX6_does_158 : decode cX6_does 158 = .ok (.iconst 1, 1) := by decide +kernel
theorem dX6_does_159 : decode cX6_does 159 = .ok (.ireturn, 1) := by decide +kernel
theorem dX6_does_160 : decode cX6_does 160 = .ok (.aload_n 0, 1) := by decide +kernel
theorem dX6_does_161 : decode cX6_does 161 = .ok (.getfield 7, 3) := by decide +kernel
theorem dX6_does_164 : decode cX6_does 164 = .ok (.iconst 2, 1) := by decide +kernel
theorem dX6_does_165 : decode cX6_does 165 = .ok (.iaload, 1) := by decide +kernel
theorem dX6_does_166 : decode cX6_does 166 = .ok (.bipush 12, 2) := by decide +kernel
theorem dX6_does_168 : decode cX6_does 168 = .ok (.if_icmp .ne 5, 3) := by decide +kernel
theorem dX6_does_171 : decode cX6_does 171 = .ok (.iconst 0, 1) := by decide +kernel
theorem dX6_does_172 : decode cX6_does 172 = .ok (.ireturn, 1) := by decide +kernel
theorem dX6_does_173 : decode cX6_does 173 = .ok (.aload_n 0, 1) := by decide +kernel
theorem dX6_does_174 : decode cX6_does 174 = .ok (.aload_n 0, 1) := by decide +kernel
theorem dX6_does_175 : decode cX6_does 175 = .ok (.invokevirtual 44, 3) := by decide +kernel
theorem dX6_does_178 : decode cX6_does 178 = .ok (.invokevirtual 124, 3) := by decide +kernel
theorem dX6_does_181 : decode cX6_does 181 = .ok (.iconst 1, 1) := by decide +kernel
theorem dX6_does_182 : decode cX6_does 182 = .ok (.ireturn, 1) := by decide +kernel
theorem dX6_does_183 : decode cX6_does 183 = .ok (.aload_n 0, 1) := by decide +kernel
theorem dX6_does_184 : decode cX6_does 184 = .ok (.iload_n 2, 1) := by decide +kernel
theorem dX6_does_185 : decode cX6_does 185 = .ok (.invokevirtual 142, 3) := by decide +kernel
theorem dX6_does_188 : decode cX6_does 188 = .ok (.pop, 1) := by decide +kernel
theorem dX6_does_189 : decode cX6_does 189 = .ok (.iconst 1, 1) := by decide +kernel
theorem dX6_does_190 : decode cX6_does 190 = .ok (.ireturn, 1) := by decide +kernel
theorem dX6_run_0 : decode cX6_run 0 = .ok (.aload_n 0, 1) := by decide +kernel
theorem dX6_run_1 : decode cX6_run 1 = .ok (.iconst 0, 1) := by decide +kernel
theorem dX6_run_2 : decode cX6_run 2 = .ok (.putfield 25, 3) := by decide +kernel
theorem dX6_run_5 : decode cX6_run 5 = .ok (.aload_n 0, 1) := by decide +kernel
theorem dX6_run_6 : decode cX6_run 6 = .ok (.invokevirtual 186, 3) := by decide +kernel
theorem dX6_run_9 : decode cX6_run 9 = .ok (.aload_n 0, 1) := by decide +kernel
theorem dX6_run_10 : decode cX6_run 10 = .ok (.getfield 157, 3) := by decide +kernel
theorem dX6_run_13 : decode cX6_run 13 = .ok (.ifCond .ne 9, 3) := by decide +kernel
theorem dX6_run_16 : decode cX6_run 16 = .ok (.aload_n 0, 1) := by decide +kernel
theorem dX6_run_17 : decode cX6_run 17 = .ok (.iconst 1, 1) := by decide +kernel
theorem dX6_run_18 : decode cX6_run 18 = .ok (.invokevirtual 120, 3) := by decide +kernel
theorem dX6_run_21 : decode cX6_run 21 = .ok (.ireturn, 1) := by decide +kernel
theorem dX6_run_22 : decode cX6_run 22 = .ok (.aload_n 0, 1) := by decide +kernel
theorem dX6_run_23 : decode cX6_run 23 = .ok (.invokevirtual 72, 3) := by decide +kernel
theorem dX6_run_26 : decode cX6_run 26 = .ok (.aload_n 0, 1) := by decide +kernel
theorem dX6_run_27 : decode cX6_run 27 = .ok (.iconst 0, 1) := by decide +kernel
theorem dX6_run_28 : decode cX6_run 28 = .ok (.putfield 151, 3) := by decide +kernel
theorem dX6_run_31 : decode cX6_run 31 = .ok (.iconst 0, 1) := by decide +kernel
theorem dX6_run_32 : decode cX6_run 32 = .ok (.istore_n 1, 1) := by decide +kernel
theorem dX6_run_33 : decode cX6_run 33 = .ok (.iload_n 1, 1) := by decide +kernel
theorem dX6_run_34 : decode cX6_run 34 = .ok (.aload_n 0, 1) := by decide +kernel
theorem dX6_run_35 : decode cX6_run 35 = .ok (.getfield 167, 3) := by decide +kernel
theorem dX6_run_38 : decode cX6_run 38 = .ok (.if_icmp .ge 17, 3) := by decide +kernel
theorem dX6_run_41 : decode cX6_run 41 = .ok (.aload_n 0, 1) := by decide +kernel
theorem dX6_run_42 : decode cX6_run 42 = .ok (.iload_n 1, 1) := by decide +kernel
theorem dX6_run_43 : decode cX6_run 43 = .ok (.invokevirtual 189, 3) := by decide +kernel
theorem dX6_run_46 : decode cX6_run 46 = .ok (.ifCond .eq 9, 3) := by decide +kernel
theorem dX6_run_49 : decode cX6_run 49 = .ok (.iinc 1 1, 3) := by decide +kernel
theorem dX6_run_52 : decode cX6_run 52 = .ok (.goto (-19), 3) := by decide +kernel
theorem dX6_run_55 : decode cX6_run 55 = .ok (.iload_n 1, 1) := by decide +kernel
theorem dX6_run_56 : decode cX6_run 56 = .ok (.ireturn, 1) := by decide +kernel
theorem dX6_undo_0 : decode cX6_undo 0 = .ok (.aload_n 0, 1) := by decide +kernel
theorem dX6_undo_1 : decode cX6_undo 1 = .ok (.iconst 0, 1) := by decide +kernel
theorem dX6_undo_2 : decode cX6_undo 2 = .ok (.putfield 25, 3) := by decide +kernel
theorem dX6_undo_5 : decode cX6_undo 5 = .ok (.aload_n 0, 1) := by decide +kernel
theorem dX6_undo_6 : decode cX6_undo 6 = .ok (.getfield 29, 3) := by decide +kernel
theorem dX6_undo_9 : decode cX6_undo 9 = .ok (.ifCond .ne 9, 3) := by decide +kernel
theorem dX6_undo_12 : decode cX6_undo 12 = .ok (.aload_n 0, 1) := by decide +kernel
theorem dX6_undo_13 : decode cX6_undo 13 = .ok (.iconst 1, 1) := by decide +kernel
theorem dX6_undo_14 : decode cX6_undo 14 = .ok (.invokevirtual 120, 3) := by decide +kernel
theorem dX6_undo_17 : decode cX6_undo 17 = .ok (.ireturn, 1) := by decide +kernel
theorem dX6_undo_18 : decode cX6_undo 18 = .ok (.aload_n 0, 1) := by decide +kernel
theorem dX6_undo_19 : decode cX6_undo 19 = .ok (.dup, 1) := by decide +kernel
theorem dX6_undo_20 : decode cX6_undo 20 = .ok (.getfield 29, 3) := by decide +kernel
theorem dX6_undo_23 : decode cX6_undo 23 = .ok (.iconst 1, 1) := by decide +kernel
theorem dX6_undo_24 : decode cX6_undo 24 = .ok (.isub, 1) := by decide +kernel
theorem dX6_undo_25 : decode cX6_undo 25 = .ok (.putfield 29, 3) := by decide +kernel
theorem dX6_undo_28 : decode cX6_undo 28 = .ok (.iconst 0, 1) := by decide +kernel
theorem dX6_undo_29 : decode cX6_undo 29 = .ok (.istore_n 1, 1) := by decide +kernel
theorem dX6_undo_30 : decode cX6_undo 30 = .ok (.iload_n 1, 1) := by decide +kernel
theorem dX6_undo_31 : decode cX6_undo 31 = .ok (.sipush 370, 3) := by decide +kernel
theorem dX6_undo_34 : decode cX6_undo 34 = .ok (.if_icmp .ge 30, 3) := by decide +kernel
theorem dX6_undo_37 : decode cX6_undo 37 = .ok (.aload_n 0, 1) := by decide +kernel
theorem dX6_undo_38 : decode cX6_undo 38 = .ok (.getfield 7, 3) := by decide +kernel
theorem dX6_undo_41 : decode cX6_undo 41 = .ok (.iload_n 1, 1) := by decide +kernel
theorem dX6_undo_42 : decode cX6_undo 42 = .ok (.aload_n 0, 1) := by decide +kernel
theorem dX6_undo_43 : decode cX6_undo 43 = .ok (.getfield 13, 3) := by decide +kernel
theorem dX6_undo_46 : decode cX6_undo 46 = .ok (.sipush 370, 3) := by decide +kernel
theorem dX6_undo_49 : decode cX6_undo 49 = .ok (.aload_n 0, 1) := by decide +kernel
theorem dX6_undo_50 : decode cX6_undo 50 = .ok (.getfield 29, 3) := by decide +kernel
theorem dX6_undo_53 : decode cX6_undo 53 = .ok (.imul, 1) := by decide +kernel
theorem dX6_undo_54 : decode cX6_undo 54 = .ok (.iload_n 1, 1) := by decide +kernel
theorem dX6_undo_55 : decode cX6_undo 55 = .ok (.iadd, 1) := by decide +kernel
theorem dX6_undo_56 : decode cX6_undo 56 = .ok (.iaload, 1) := by decide +kernel
theorem dX6_undo_57 : decode cX6_undo 57 = .ok (.iastore, 1) := by decide +kernel
theorem dX6_undo_58 : decode cX6_undo 58 = .ok (.iinc 1 1, 3) := by decide +kernel
theorem dX6_undo_61 : decode cX6_undo 61 = .ok (.goto (-31), 3) := by decide +kernel
theorem dX6_undo_64 : decode cX6_undo 64 = .ok (.aload_n 0, 1) := by decide +kernel
theorem dX6_undo_65 : decode cX6_undo 65 = .ok (.getfield 29, 3) := by decide +kernel
theorem dX6_undo_68 : decode cX6_undo 68 = .ok (.ireturn, 1) := by decide +kernel
theorem dX6_valueBy_0 : decode cX6_valueBy 0 = .ok (.aload_n 0, 1) := by decide +kernel
theorem dX6_valueBy_1 : decode cX6_valueBy 1 = .ok (.iload_n 2, 1) := by decide +kernel
theorem dX6_valueBy_2 : decode cX6_valueBy 2 = .ok (.iload_n 3, 1) := by decide +kernel
theorem dX6_valueBy_3 : decode cX6_valueBy 3 = .ok (.invokevirtual 48, 3) := by decide +kernel
theorem dX6_valueBy_6 : decode cX6_valueBy 6 = .ok (.istore 4, 2) := by decide +kernel
theorem dX6_valueBy_8 : decode cX6_valueBy 8 = .ok (.iload 4, 2) := by decide +kernel
theorem dX6_valueBy_10 : decode cX6_valueBy 10 = .ok (.iconst (-1), 1) := by decide +kernel
theorem dX6_valueBy_11 : decode cX6_valueBy 11 = .ok (.if_icmp .ne 5, 3) := by decide +kernel
theorem dX6_valueBy_14 : decode cX6_valueBy 14 = .ok (.iconst (-1), 1) := by decide +kernel
theorem dX6_valueBy_15 : decode cX6_valueBy 15 = .ok (.ireturn, 1) := by decide +kernel
theorem dX6_valueBy_16 : decode cX6_valueBy 16 = .ok (.aload_n 0, 1) := by decide +kernel
theorem dX6_valueBy_17 : decode cX6_valueBy 17 = .ok (.iload_n 1, 1) := by decide +kernel
theorem dX6_valueBy_18 : decode cX6_valueBy 18 = .ok (.iload_n 2, 1) := by decide +kernel
theorem dX6_valueBy_19 : decode cX6_valueBy 19 = .ok (.invokevirtual 114, 3) := by decide +kernel
theorem dX6_valueBy_22 : decode cX6_valueBy 22 = .ok (.aload_n 0, 1) := by decide +kernel
theorem dX6_valueBy_23 : decode cX6_valueBy 23 = .ok (.getfield 19, 3) := by decide +kernel
theorem dX6_valueBy_26 : decode cX6_valueBy 26 = .ok (.iload 4, 2) := by decide +kernel
theorem dX6_valueBy_28 : decode cX6_valueBy 28 = .ok (.iaload, 1) := by decide +kernel
theorem dX6_valueBy_29 : decode cX6_valueBy 29 = .ok (.ireturn, 1) := by decide +kernel
theorem dX6_read_0 : decode cX6_read 0 = .ok (.aload_n 0, 1) := by decide +kernel
theorem dX6_read_1 : decode cX6_read 1 = .ok (.iconst 0, 1) := by decide +kernel
theorem dX6_read_2 : decode cX6_read 2 = .ok (.putfield 25, 3) := by decide +kernel
theorem dX6_read_5 : decode cX6_read 5 = .ok (.aload_n 0, 1) := by decide +kernel
theorem dX6_read_6 : decode cX6_read 6 = .ok (.iload_n 1, 1) := by decide +kernel
theorem dX6_read_7 : decode cX6_read 7 = .ok (.invokevirtual 133, 3) := by decide +kernel
theorem dX6_read_10 : decode cX6_read 10 = .ok (.ifCond .eq 11, 3) := by decide +kernel
theorem dX6_read_13 : decode cX6_read 13 = .ok (.aload_n 0, 1) := by decide +kernel
theorem dX6_read_14 : decode cX6_read 14 = .ok (.iload_n 2, 1) := by decide +kernel
theorem dX6_read_15 : decode cX6_read 15 = .ok (.invokevirtual 127, 3) := by decide +kernel
theorem dX6_read_18 : decode cX6_read 18 = .ok (.ifCond .ne 9, 3) := by decide +kernel
theorem dX6_read_21 : decode cX6_read 21 = .ok (.aload_n 0, 1) := by decide +kernel
theorem dX6_read_22 : decode cX6_read 22 = .ok (.iconst 1, 1) := by decide +kernel
theorem dX6_read_23 : decode cX6_read 23 = .ok (.invokevirtual 120, 3) := by decide +kernel
theorem dX6_read_26 : decode cX6_read 26 = .ok (.ireturn, 1) := by decide +kernel
theorem dX6_read_27 : decode cX6_read 27 = .ok (.iload_n 3, 1) := by decide +kernel
theorem dX6_read_28 : decode cX6_read 28 = .ok (.invokestatic 51, 3) := by decide +kernel
theorem dX6_read_31 : decode cX6_read 31 = .ok (.ifCond .eq 13, 3) := by decide +kernel
theorem dX6_read_34 : decode cX6_read 34 = .ok (.aload_n 0, 1) := by decide +kernel
theorem dX6_read_35 : decode cX6_read 35 = .ok (.iload_n 1, 1) := by decide +kernel
theorem dX6_read_36 : decode cX6_read 36 = .ok (.iload_n 2, 1) := by decide +kernel
theorem dX6_read_37 : decode cX6_read 37 = .ok (.iload_n 3, 1) := by decide +kernel
theorem dX6_read_38 : decode cX6_read 38 = .ok (.invokevirtual 192, 3) := by decide +kernel
theorem dX6_read_41 : decode cX6_read 41 = .ok (.goto 8, 3) := by decide +kernel
theorem dX6_read_44 : decode cX6_read 44 = .ok (.aload_n 0, 1) := by decide +kernel
theorem dX6_read_45 : decode cX6_read 45 = .ok (.iconst 2, 1) := by decide +kernel
theorem dX6_read_46 : decode cX6_read 46 = .ok (.invokevirtual 120, 3) := by decide +kernel
theorem dX6_read_49 : decode cX6_read 49 = .ok (.ireturn, 1) := by decide +kernel
theorem dX6_readAs_0 : decode cX6_readAs 0 = .ok (.aload_n 0, 1) := by decide +kernel
theorem dX6_readAs_1 : decode cX6_readAs 1 = .ok (.iconst 0, 1) := by decide +kernel
theorem dX6_readAs_2 : decode cX6_readAs 2 = .ok (.putfield 25, 3) := by decide +kernel
theorem dX6_readAs_5 : decode cX6_readAs 5 = .ok (.iload_n 1, 1) := by decide +kernel
theorem dX6_readAs_6 : decode cX6_readAs 6 = .ok (.invokestatic 145, 3) := by decide +kernel
theorem dX6_readAs_9 : decode cX6_readAs 9 = .ok (.ifCond .eq 11, 3) := by decide +kernel
theorem dX6_readAs_12 : decode cX6_readAs 12 = .ok (.aload_n 0, 1) := by decide +kernel
theorem dX6_readAs_13 : decode cX6_readAs 13 = .ok (.iload_n 2, 1) := by decide +kernel
theorem dX6_readAs_14 : decode cX6_readAs 14 = .ok (.invokevirtual 133, 3) := by decide +kernel
theorem dX6_readAs_17 : decode cX6_readAs 17 = .ok (.ifCond .ne 9, 3) := by decide +kernel
theorem dX6_readAs_20 : decode cX6_readAs 20 = .ok (.aload_n 0, 1) := by decide +kernel
theorem dX6_readAs_21 : decode cX6_readAs 21 = .ok (.iconst 1, 1) := by decide +kernel
theorem dX6_readAs_22 : decode cX6_readAs 22 = .ok (.invokevirtual 120, 3) := by decide +kernel
theorem dX6_readAs_25 : decode cX6_readAs 25 = .ok (.ireturn, 1) := by decide +kernel
theorem dX6_readAs_26 : decode cX6_readAs 26 = .ok (.iload_n 3, 1) := by decide +kernel
theorem dX6_readAs_27 : decode cX6_readAs 27 = .ok (.invokestatic 51, 3) := by decide +kernel
theorem dX6_readAs_30 : decode cX6_readAs 30 = .ok (.ifCond .eq 21, 3) := by decide +kernel
theorem dX6_readAs_33 : decode cX6_readAs 33 = .ok (.aload_n 0, 1) := by decide +kernel
theorem dX6_readAs_34 : decode cX6_readAs 34 = .ok (.iload_n 2, 1) := by decide +kernel
theorem dX6_readAs_35 : decode cX6_readAs 35 = .ok (.aload_n 0, 1) := by decide +kernel
theorem dX6_readAs_36 : decode cX6_readAs 36 = .ok (.getfield 7, 3) := by decide +kernel
theorem dX6_readAs_39 : decode cX6_readAs 39 = .ok (.bipush 6, 2) := by decide +kernel
theorem dX6_readAs_41 : decode cX6_readAs 41 = .ok (.iload_n 1, 1) := by decide +kernel
theorem dX6_readAs_42 : decode cX6_readAs 42 = .ok (.iadd, 1) := by decide +kernel
theorem dX6_readAs_43 : decode cX6_readAs 43 = .ok (.iaload, 1) := by decide +kernel
theorem dX6_readAs_44 : decode cX6_readAs 44 = .ok (.iload_n 3, 1) := by decide +kernel
theorem dX6_readAs_45 : decode cX6_readAs 45 = .ok (.invokevirtual 192, 3) := by decide +kernel
theorem dX6_readAs_48 : decode cX6_readAs 48 = .ok (.goto 8, 3) := by decide +kernel
theorem dX6_readAs_51 : decode cX6_readAs 51 = .ok (.aload_n 0, 1) := by decide +kernel
theorem dX6_readAs_52 : decode cX6_readAs 52 = .ok (.iconst 2, 1) := by decide +kernel
theorem dX6_readAs_53 : decode cX6_readAs 53 = .ok (.invokevirtual 120, 3) := by decide +kernel
theorem dX6_readAs_56 : decode cX6_readAs 56 = .ok (.ireturn, 1) := by decide +kernel
theorem dX6_columnOf_0 : decode cX6_columnOf 0 = .ok (.iload_n 2, 1) := by decide +kernel
theorem dX6_columnOf_1 : decode cX6_columnOf 1 = .ok (.aload_n 0, 1) := by decide +kernel
theorem dX6_columnOf_2 : decode cX6_columnOf 2 = .ok (.iload_n 1, 1) := by decide +kernel
theorem dX6_columnOf_3 : decode cX6_columnOf 3 = .ok (.iconst 0, 1) := by decide +kernel
theorem dX6_columnOf_4 : decode cX6_columnOf 4 = .ok (.invokevirtual 36, 3) := by decide +kernel
theorem dX6_columnOf_7 : decode cX6_columnOf 7 = .ok (.if_icmp .lt 5, 3) := by decide +kernel
theorem dX6_columnOf_10 : decode cX6_columnOf 10 = .ok (.iconst (-1), 1) := by decide +kernel
theorem dX6_columnOf_11 : decode cX6_columnOf 11 = .ok (.ireturn, 1) := by decide +kernel
theorem dX6_columnOf_12 : decode cX6_columnOf 12 = .ok (.aload_n 0, 1) := by decide +kernel
theorem dX6_columnOf_13 : decode cX6_columnOf 13 = .ok (.iload_n 1, 1) := by decide +kernel
theorem dX6_columnOf_14 : decode cX6_columnOf 14 = .ok (.iconst 1, 1) := by decide +kernel
theorem dX6_columnOf_15 : decode cX6_columnOf 15 = .ok (.iload_n 2, 1) := by decide +kernel
theorem dX6_columnOf_16 : decode cX6_columnOf 16 = .ok (.iadd, 1) := by decide +kernel
theorem dX6_columnOf_17 : decode cX6_columnOf 17 = .ok (.invokevirtual 36, 3) := by decide +kernel
theorem dX6_columnOf_20 : decode cX6_columnOf 20 = .ok (.istore 4, 2) := by decide +kernel
theorem dX6_columnOf_22 : decode cX6_columnOf 22 = .ok (.iload_n 3, 1) := by decide +kernel
theorem dX6_columnOf_23 : decode cX6_columnOf 23 = .ok (.ifCond .ne 15, 3) := by decide +kernel
theorem dX6_columnOf_26 : decode cX6_columnOf 26 = .ok (.aload_n 0, 1) := by decide +kernel
theorem dX6_columnOf_27 : decode cX6_columnOf 27 = .ok (.iload_n 1, 1) := by decide +kernel
theorem dX6_columnOf_28 : decode cX6_columnOf 28 = .ok (.bipush 9, 2) := by decide +kernel
theorem dX6_columnOf_30 : decode cX6_columnOf 30 = .ok (.iload_n 2, 1) := by decide +kernel
theorem dX6_columnOf_31 : decode cX6_columnOf 31 = .ok (.iadd, 1) := by decide +kernel
theorem dX6_columnOf_32 : decode cX6_columnOf 32 = .ok (.invokevirtual 36, 3) := by decide +kernel
theorem dX6_columnOf_35 : decode cX6_columnOf 35 = .ok (.goto 23, 3) := by decide +kernel
theorem dX6_columnOf_38 : decode cX6_columnOf 38 = .ok (.iload_n 3, 1) := by decide +kernel
theorem dX6_columnOf_39 : decode cX6_columnOf 39 = .ok (.iconst 1, 1) := by decide +kernel
theorem dX6_columnOf_40 : decode cX6_columnOf 40 = .ok (.if_icmp .ne 8, 3) := by decide +kernel
theorem dX6_columnOf_43 : decode cX6_columnOf 43 = .ok (.iload 4, 2) := by decide +kernel
theorem dX6_columnOf_45 : decode cX6_columnOf 45 = .ok (.goto 13, 3) := by decide +kernel
theorem dX6_columnOf_48 : decode cX6_columnOf 48 = .ok (.aload_n 0, 1) := by decide +kernel
theorem dX6_columnOf_49 : decode cX6_columnOf 49 = .ok (.aload_n 0, 1) := by decide +kernel
theorem dX6_columnOf_50 : decode cX6_columnOf 50 = .ok (.invokevirtual 44, 3) := by decide +kernel
theorem dX6_columnOf_53 : decode cX6_columnOf 53 = .ok (.iload 4, 2) := by decide +kernel
theorem dX6_columnOf_55 : decode cX6_columnOf 55 = .ok (.invokevirtual 130, 3) := by decide +kernel
theorem dX6_columnOf_58 : decode cX6_columnOf 58 = .ok (.ireturn, 1) := by decide +kernel
theorem dX6_column_0 : decode cX6_column 0 = .ok (.aload_n 0, 1) := by decide +kernel
theorem dX6_column_1 : decode cX6_column 1 = .ok (.iconst 0, 1) := by decide +kernel
theorem dX6_column_2 : decode cX6_column 2 = .ok (.putfield 25, 3) := by decide +kernel
theorem dX6_column_5 : decode cX6_column 5 = .ok (.aload_n 0, 1) := by decide +kernel
theorem dX6_column_6 : decode cX6_column 6 = .ok (.iload_n 1, 1) := by decide +kernel
theorem dX6_column_7 : decode cX6_column 7 = .ok (.invokevirtual 195, 3) := by decide +kernel
theorem dX6_column_10 : decode cX6_column 10 = .ok (.ifCond .ne 9, 3) := by decide +kernel
theorem dX6_column_13 : decode cX6_column 13 = .ok (.aload_n 0, 1) := by decide +kernel
theorem dX6_column_14 : decode cX6_column 14 = .ok (.iconst 1, 1) := by decide +kernel
theorem dX6_column_15 : decode cX6_column 15 = .ok (.invokevirtual 120, 3) := by decide +kernel
theorem dX6_column_18 : decode cX6_column 18 = .ok (.ireturn, 1) := by decide +kernel
theorem dX6_column_19 : decode cX6_column 19 = .ok (.iload_n 2, 1) := by decide +kernel
theorem dX6_column_20 : decode cX6_column 20 = .ok (.ifCond .lt 12, 3) := by decide +kernel
theorem dX6_column_23 : decode cX6_column 23 = .ok (.iload_n 3, 1) := by decide +kernel
theorem dX6_column_24 : decode cX6_column 24 = .ok (.iconst 0, 1) := by decide +kernel
theorem dX6_column_25 : decode cX6_column 25 = .ok (.iconst 2, 1) := by decide +kernel
theorem dX6_column_26 : decode cX6_column 26 = .ok (.invokestatic 32, 3) := by decide +kernel
theorem dX6_column_29 : decode cX6_column 29 = .ok (.ifCond .ne 11, 3) := by decide +kernel
theorem dX6_column_32 : decode cX6_column 32 = .ok (.aload_n 0, 1) := by decide +kernel
theorem dX6_column_33 : decode cX6_column 33 = .ok (.iconst 2, 1) := by decide +kernel
theorem dX6_column_34 : decode cX6_column 34 = .ok (.invokevirtual 120, 3) := by decide +kernel
theorem dX6_column_37 : decode cX6_column 37 = .ok (.goto 10, 3) := by decide +kernel
theorem dX6_column_40 : decode cX6_column 40 = .ok (.aload_n 0, 1) := by decide +kernel
theorem dX6_column_41 : decode cX6_column 41 = .ok (.iload_n 1, 1) := by decide +kernel
theorem dX6_column_42 : decode cX6_column 42 = .ok (.iload_n 2, 1) := by decide +kernel
theorem dX6_column_43 : decode cX6_column 43 = .ok (.iload_n 3, 1) := by decide +kernel
theorem dX6_column_44 : decode cX6_column 44 = .ok (.invokevirtual 198, 3) := by decide +kernel
theorem dX6_column_47 : decode cX6_column 47 = .ok (.ireturn, 1) := by decide +kernel
theorem dX6_rowsWith_0 : decode cX6_rowsWith 0 = .ok (.iconst 0, 1) := by decide +kernel
theorem dX6_rowsWith_1 : decode cX6_rowsWith 1 = .ok (.istore_n 2, 1) := by decide +kernel
theorem dX6_rowsWith_2 : decode cX6_rowsWith 2 = .ok (.iconst 0, 1) := by decide +kernel
theorem dX6_rowsWith_3 : decode cX6_rowsWith 3 = .ok (.istore_n 3, 1) := by decide +kernel
theorem dX6_rowsWith_4 : decode cX6_rowsWith 4 = .ok (.iload_n 3, 1) := by decide +kernel
theorem dX6_rowsWith_5 : decode cX6_rowsWith 5 = .ok (.aload_n 0, 1) := by decide +kernel
theorem dX6_rowsWith_6 : decode cX6_rowsWith 6 = .ok (.getfield 7, 3) := by decide +kernel
theorem dX6_rowsWith_9 : decode cX6_rowsWith 9 = .ok (.iconst 2, 1) := by decide +kernel
theorem dX6_rowsWith_10 : decode cX6_rowsWith 10 = .ok (.iaload, 1) := by decide +kernel
theorem dX6_rowsWith_11 : decode cX6_rowsWith 11 = .ok (.if_icmp .ge 27, 3) := by decide +kernel
theorem dX6_rowsWith_14 : decode cX6_rowsWith 14 = .ok (.iload_n 2, 1) := by decide +kernel
theorem dX6_rowsWith_15 : decode cX6_rowsWith 15 = .ok (.aload_n 0, 1) := by decide +kernel
theorem dX6_rowsWith_16 : decode cX6_rowsWith 16 = .ok (.iload_n 3, 1) := by decide +kernel
theorem dX6_rowsWith_17 : decode cX6_rowsWith 17 = .ok (.iconst 0, 1) := by decide +kernel
theorem dX6_rowsWith_18 : decode cX6_rowsWith 18 = .ok (.invokevirtual 108, 3) := by decide +kernel
theorem dX6_rowsWith_21 : decode cX6_rowsWith 21 = .ok (.iload_n 1, 1) := by decide +kernel
theorem dX6_rowsWith_22 : decode cX6_rowsWith 22 = .ok (.if_icmp .ne 7, 3) := by decide +kernel
theorem dX6_rowsWith_25 : decode cX6_rowsWith 25 = .ok (.iconst 1, 1) := by decide +kernel
theorem dX6_rowsWith_26 : decode cX6_rowsWith 26 = .ok (.goto 4, 3) := by decide +kernel
theorem dX6_rowsWith_29 : decode cX6_rowsWith 29 = .ok (.iconst 0, 1) := by decide +kernel
theorem dX6_rowsWith_30 : decode cX6_rowsWith 30 = .ok (.iadd, 1) := by decide +kernel
theorem dX6_rowsWith_31 : decode cX6_rowsWith 31 = .ok (.istore_n 2, 1) := by decide +kernel
theorem dX6_rowsWith_32 : decode cX6_rowsWith 32 = .ok (.iinc 3 1, 3) := by decide +kernel
theorem dX6_rowsWith_35 : decode cX6_rowsWith 35 = .ok (.goto (-31), 3) := by decide +kernel
theorem dX6_rowsWith_38 : decode cX6_rowsWith 38 = .ok (.iload_n 2, 1) := by decide +kernel
theorem dX6_rowsWith_39 : decode cX6_rowsWith 39 = .ok (.ireturn, 1) := by decide +kernel
theorem dX6_readersWith_0 : decode cX6_readersWith 0 = .ok (.iconst 0, 1) := by decide +kernel
theorem dX6_readersWith_1 : decode cX6_readersWith 1 = .ok (.istore_n 2, 1) := by decide +kernel
theorem dX6_readersWith_2 : decode cX6_readersWith 2 = .ok (.iconst 0, 1) := by decide +kernel
theorem dX6_readersWith_3 : decode cX6_readersWith 3 = .ok (.istore_n 3, 1) := by decide +kernel
theorem dX6_readersWith_4 : decode cX6_readersWith 4 = .ok (.iload_n 3, 1) := by decide +kernel
theorem dX6_readersWith_5 : decode cX6_readersWith 5 = .ok (.iconst 4, 1) := by decide +kernel
theorem dX6_readersWith_6 : decode cX6_readersWith 6 = .ok (.if_icmp .ge 30, 3) := by decide +kernel
theorem dX6_readersWith_9 : decode cX6_readersWith 9 = .ok (.iload_n 2, 1) := by decide +kernel
theorem dX6_readersWith_10 : decode cX6_readersWith 10 = .ok (.aload_n 0, 1) := by decide +kernel
theorem dX6_readersWith_11 : decode cX6_readersWith 11 = .ok (.getfield 7, 3) := by decide +kernel
theorem dX6_readersWith_14 : decode cX6_readersWith 14 = .ok (.bipush 6, 2) := by decide +kernel
theorem dX6_readersWith_16 : decode cX6_readersWith 16 = .ok (.iload_n 3, 1) := by decide +kernel
theorem dX6_readersWith_17 : decode cX6_readersWith 17 = .ok (.iadd, 1) := by decide +kernel
theorem dX6_readersWith_18 : decode cX6_readersWith 18 = .ok (.iaload, 1) := by decide +kernel
theorem dX6_readersWith_19 : decode cX6_readersWith 19 = .ok (.iload_n 1, 1) := by decide +kernel
theorem dX6_readersWith_20 : decode cX6_readersWith 20 = .ok (.if_icmp .ne 7, 3) := by decide +kernel
theorem dX6_readersWith_23 : decode cX6_readersWith 23 = .ok (.iconst 1, 1) := by decide +kernel
theorem dX6_readersWith_24 : decode cX6_readersWith 24 = .ok (.goto 4, 3) := by decide +kernel
theorem dX6_readersWith_27 : decode cX6_readersWith 27 = .ok (.iconst 0, 1) := by decide +kernel
theorem dX6_readersWith_28 : decode cX6_readersWith 28 = .ok (.iadd, 1) := by decide +kernel
theorem dX6_readersWith_29 : decode cX6_readersWith 29 = .ok (.istore_n 2, 1) := by decide +kernel
theorem dX6_readersWith_30 : decode cX6_readersWith 30 = .ok (.iinc 3 1, 3) := by decide +kernel
theorem dX6_readersWith_33 : decode cX6_readersWith 33 = .ok (.goto (-29), 3) := by decide +kernel
theorem dX6_readersWith_36 : decode cX6_readersWith 36 = .ok (.iload_n 2, 1) := by decide +kernel
theorem dX6_readersWith_37 : decode cX6_readersWith 37 = .ok (.ireturn, 1) := by decide +kernel
theorem dX6_shapeOf_0 : decode cX6_shapeOf 0 = .ok (.iconst 0, 1) := by decide +kernel
theorem dX6_shapeOf_1 : decode cX6_shapeOf 1 = .ok (.istore_n 3, 1) := by decide +kernel
theorem dX6_shapeOf_2 : decode cX6_shapeOf 2 = .ok (.iconst 0, 1) := by decide +kernel
theorem dX6_shapeOf_3 : decode cX6_shapeOf 3 = .ok (.istore 4, 2) := by decide +kernel
theorem dX6_shapeOf_5 : decode cX6_shapeOf 5 = .ok (.iload 4, 2) := by decide +kernel
theorem dX6_shapeOf_7 : decode cX6_shapeOf 7 = .ok (.aload_n 0, 1) := by decide +kernel
theorem dX6_shapeOf_8 : decode cX6_shapeOf 8 = .ok (.iload_n 1, 1) := by decide +kernel
theorem dX6_shapeOf_9 : decode cX6_shapeOf 9 = .ok (.iconst 0, 1) := by decide +kernel
theorem dX6_shapeOf_10 : decode cX6_shapeOf 10 = .ok (.invokevirtual 36, 3) := by decide +kernel
theorem dX6_shapeOf_13 : decode cX6_shapeOf 13 = .ok (.if_icmp .ge 24, 3) := by decide +kernel
theorem dX6_shapeOf_16 : decode cX6_shapeOf 16 = .ok (.iload_n 3, 1) := by decide +kernel
theorem dX6_shapeOf_17 : decode cX6_shapeOf 17 = .ok (.iconst 1, 1) := by decide +kernel
theorem dX6_shapeOf_18 : decode cX6_shapeOf 18 = .ok (.aload_n 0, 1) := by decide +kernel
theorem dX6_shapeOf_19 : decode cX6_shapeOf 19 = .ok (.iload_n 1, 1) := by decide +kernel
theorem dX6_shapeOf_20 : decode cX6_shapeOf 20 = .ok (.bipush 9, 2) := by decide +kernel
theorem dX6_shapeOf_22 : decode cX6_shapeOf 22 = .ok (.iload 4, 2) := by decide +kernel
theorem dX6_shapeOf_24 : decode cX6_shapeOf 24 = .ok (.iadd, 1) := by decide +kernel
theorem dX6_shapeOf_25 : decode cX6_shapeOf 25 = .ok (.invokevirtual 36, 3) := by decide +kernel
theorem dX6_shapeOf_28 : decode cX6_shapeOf 28 = .ok (.ishl, 1) := by decide +kernel
theorem dX6_shapeOf_29 : decode cX6_shapeOf 29 = .ok (.ior, 1) := by decide +kernel
theorem dX6_shapeOf_30 : decode cX6_shapeOf 30 = .ok (.istore_n 3, 1) := by decide +kernel
theorem dX6_shapeOf_31 : decode cX6_shapeOf 31 = .ok (.iinc 4 1, 3) := by decide +kernel
theorem dX6_shapeOf_34 : decode cX6_shapeOf 34 = .ok (.goto (-29), 3) := by decide +kernel
theorem dX6_shapeOf_37 : decode cX6_shapeOf 37 = .ok (.iload_n 2, 1) := by decide +kernel
theorem dX6_shapeOf_38 : decode cX6_shapeOf 38 = .ok (.tableswitch 77 0 4 #[34, 41, 49, 55, 61], 34) := by decide +kernel
theorem dX6_shapeOf_72 : decode cX6_shapeOf 72 = .ok (.aload_n 0, 1) := by decide +kernel
theorem dX6_shapeOf_73 : decode cX6_shapeOf 73 = .ok (.iload_n 1, 1) := by decide +kernel
theorem dX6_shapeOf_74 : decode cX6_shapeOf 74 = .ok (.iconst 0, 1) := by decide +kernel
theorem dX6_shapeOf_75 : decode cX6_shapeOf 75 = .ok (.invokevirtual 36, 3) := by decide +kernel
theorem dX6_shapeOf_78 : decode cX6_shapeOf 78 = .ok (.ireturn, 1) := by decide +kernel
theorem dX6_shapeOf_79 : decode cX6_shapeOf 79 = .ok (.aload_n 0, 1) := by decide +kernel
theorem dX6_shapeOf_80 : decode cX6_shapeOf 80 = .ok (.iload_n 1, 1) := by decide +kernel
theorem dX6_shapeOf_81 : decode cX6_shapeOf 81 = .ok (.bipush 17, 2) := by decide +kernel
theorem dX6_shapeOf_83 : decode cX6_shapeOf 83 = .ok (.invokevirtual 36, 3) := by decide +kernel
theorem dX6_shapeOf_86 : decode cX6_shapeOf 86 = .ok (.ireturn, 1) := by decide +kernel
theorem dX6_shapeOf_87 : decode cX6_shapeOf 87 = .ok (.aload_n 0, 1) := by decide +kernel
theorem dX6_shapeOf_88 : decode cX6_shapeOf 88 = .ok (.iload_n 1, 1) := by decide +kernel
theorem dX6_shapeOf_89 : decode cX6_shapeOf 89 = .ok (.invokevirtual 201, 3) := by decide +kernel
theorem dX6_shapeOf_92 : decode cX6_shapeOf 92 = .ok (.ireturn, 1) := by decide +kernel
theorem dX6_shapeOf_93 : decode cX6_shapeOf 93 = .ok (.aload_n 0, 1) := by decide +kernel
theorem dX6_shapeOf_94 : decode cX6_shapeOf 94 = .ok (.iload_n 1, 1) := by decide +kernel
theorem dX6_shapeOf_95 : decode cX6_shapeOf 95 = .ok (.invokevirtual 204, 3) := by decide +kernel
theorem dX6_shapeOf_98 : decode cX6_shapeOf 98 = .ok (.ireturn, 1) := by decide +kernel
theorem dX6_shapeOf_99 : decode cX6_shapeOf 99 = .ok (.iload_n 1, 1) := by decide +kernel
theorem dX6_shapeOf_100 : decode cX6_shapeOf 100 = .ok (.aload_n 0, 1) := by decide +kernel
theorem dX6_shapeOf_101 : decode cX6_shapeOf 101 = .ok (.getfield 7, 3) := by decide +kernel
theorem dX6_shapeOf_104 : decode cX6_shapeOf 104 = .ok (.iconst 1, 1) := by decide +kernel
theorem dX6_shapeOf_105 : decode cX6_shapeOf 105 = .ok (.iaload, 1) := by decide +kernel
theorem dX6_shapeOf_106 : decode cX6_shapeOf 106 = .ok (.if_icmp .ge 7, 3) := by decide +kernel
theorem dX6_shapeOf_109 : decode cX6_shapeOf 109 = .ok (.iconst 1, 1) := by decide +kernel
theorem dX6_shapeOf_110 : decode cX6_shapeOf 110 = .ok (.goto 4, 3) := by decide +kernel
theorem dX6_shapeOf_113 : decode cX6_shapeOf 113 = .ok (.iconst 0, 1) := by decide +kernel
theorem dX6_shapeOf_114 : decode cX6_shapeOf 114 = .ok (.ireturn, 1) := by decide +kernel
theorem dX6_shapeOf_115 : decode cX6_shapeOf 115 = .ok (.iload_n 3, 1) := by decide +kernel
theorem dX6_shapeOf_116 : decode cX6_shapeOf 116 = .ok (.ireturn, 1) := by decide +kernel
theorem dX6_shape_0 : decode cX6_shape 0 = .ok (.aload_n 0, 1) := by decide +kernel
theorem dX6_shape_1 : decode cX6_shape 1 = .ok (.iconst 0, 1) := by decide +kernel
theorem dX6_shape_2 : decode cX6_shape 2 = .ok (.putfield 25, 3) := by decide +kernel
theorem dX6_shape_5 : decode cX6_shape 5 = .ok (.aload_n 0, 1) := by decide +kernel
theorem dX6_shape_6 : decode cX6_shape 6 = .ok (.iload_n 1, 1) := by decide +kernel
theorem dX6_shape_7 : decode cX6_shape 7 = .ok (.invokevirtual 195, 3) := by decide +kernel
theorem dX6_shape_10 : decode cX6_shape 10 = .ok (.ifCond .ne 9, 3) := by decide +kernel
theorem dX6_shape_13 : decode cX6_shape 13 = .ok (.aload_n 0, 1) := by decide +kernel
theorem dX6_shape_14 : decode cX6_shape 14 = .ok (.iconst 1, 1) := by decide +kernel
theorem dX6_shape_15 : decode cX6_shape 15 = .ok (.invokevirtual 120, 3) := by decide +kernel
theorem dX6_shape_18 : decode cX6_shape 18 = .ok (.ireturn, 1) := by decide +kernel
theorem dX6_shape_19 : decode cX6_shape 19 = .ok (.iload_n 2, 1) := by decide +kernel
theorem dX6_shape_20 : decode cX6_shape 20 = .ok (.iconst 0, 1) := by decide +kernel
theorem dX6_shape_21 : decode cX6_shape 21 = .ok (.iconst 5, 1) := by decide +kernel
theorem dX6_shape_22 : decode cX6_shape 22 = .ok (.invokestatic 32, 3) := by decide +kernel
theorem dX6_shape_25 : decode cX6_shape 25 = .ok (.ifCond .eq 12, 3) := by decide +kernel
theorem dX6_shape_28 : decode cX6_shape 28 = .ok (.aload_n 0, 1) := by decide +kernel
theorem dX6_shape_29 : decode cX6_shape 29 = .ok (.iload_n 1, 1) := by decide +kernel
theorem dX6_shape_30 : decode cX6_shape 30 = .ok (.iload_n 2, 1) := by decide +kernel
theorem dX6_shape_31 : decode cX6_shape 31 = .ok (.invokevirtual 207, 3) := by decide +kernel
theorem dX6_shape_34 : decode cX6_shape 34 = .ok (.goto 8, 3) := by decide +kernel
theorem dX6_shape_37 : decode cX6_shape 37 = .ok (.aload_n 0, 1) := by decide +kernel
theorem dX6_shape_38 : decode cX6_shape 38 = .ok (.iconst 2, 1) := by decide +kernel
theorem dX6_shape_39 : decode cX6_shape 39 = .ok (.invokevirtual 120, 3) := by decide +kernel
theorem dX6_shape_42 : decode cX6_shape 42 = .ok (.ireturn, 1) := by decide +kernel
theorem dX6_sumBy_0 : decode cX6_sumBy 0 = .ok (.aload_n 0, 1) := by decide +kernel
theorem dX6_sumBy_1 : decode cX6_sumBy 1 = .ok (.iload_n 1, 1) := by decide +kernel
theorem dX6_sumBy_2 : decode cX6_sumBy 2 = .ok (.iload_n 2, 1) := by decide +kernel
theorem dX6_sumBy_3 : decode cX6_sumBy 3 = .ok (.invokevirtual 114, 3) := by decide +kernel
theorem dX6_sumBy_6 : decode cX6_sumBy 6 = .ok (.iconst 0, 1) := by decide +kernel
theorem dX6_sumBy_7 : decode cX6_sumBy 7 = .ok (.istore_n 3, 1) := by decide +kernel
theorem dX6_sumBy_8 : decode cX6_sumBy 8 = .ok (.iconst 0, 1) := by decide +kernel
theorem dX6_sumBy_9 : decode cX6_sumBy 9 = .ok (.istore 4, 2) := by decide +kernel
theorem dX6_sumBy_11 : decode cX6_sumBy 11 = .ok (.iload 4, 2) := by decide +kernel
theorem dX6_sumBy_13 : decode cX6_sumBy 13 = .ok (.aload_n 0, 1) := by decide +kernel
theorem dX6_sumBy_14 : decode cX6_sumBy 14 = .ok (.getfield 98, 3) := by decide +kernel
theorem dX6_sumBy_17 : decode cX6_sumBy 17 = .ok (.if_icmp .ge 19, 3) := by decide +kernel
theorem dX6_sumBy_20 : decode cX6_sumBy 20 = .ok (.iload_n 3, 1) := by decide +kernel
theorem dX6_sumBy_21 : decode cX6_sumBy 21 = .ok (.aload_n 0, 1) := by decide +kernel
theorem dX6_sumBy_22 : decode cX6_sumBy 22 = .ok (.getfield 19, 3) := by decide +kernel
theorem dX6_sumBy_25 : decode cX6_sumBy 25 = .ok (.iload 4, 2) := by decide +kernel
theorem dX6_sumBy_27 : decode cX6_sumBy 27 = .ok (.iaload, 1) := by decide +kernel
theorem dX6_sumBy_28 : decode cX6_sumBy 28 = .ok (.iadd, 1) := by decide +kernel
theorem dX6_sumBy_29 : decode cX6_sumBy 29 = .ok (.istore_n 3, 1) := by decide +kernel
theorem dX6_sumBy_30 : decode cX6_sumBy 30 = .ok (.iinc 4 1, 3) := by decide +kernel
theorem dX6_sumBy_33 : decode cX6_sumBy 33 = .ok (.goto (-22), 3) := by decide +kernel
theorem dX6_sumBy_36 : decode cX6_sumBy 36 = .ok (.iload_n 3, 1) := by decide +kernel
theorem dX6_sumBy_37 : decode cX6_sumBy 37 = .ok (.ireturn, 1) := by decide +kernel
theorem dX6_tellsRow_0 : decode cX6_tellsRow 0 = .ok (.aload_n 0, 1) := by decide +kernel
theorem dX6_tellsRow_1 : decode cX6_tellsRow 1 = .ok (.iload_n 1, 1) := by decide +kernel
theorem dX6_tellsRow_2 : decode cX6_tellsRow 2 = .ok (.iconst 0, 1) := by decide +kernel
theorem dX6_tellsRow_3 : decode cX6_tellsRow 3 = .ok (.invokevirtual 108, 3) := by decide +kernel
theorem dX6_tellsRow_6 : decode cX6_tellsRow 6 = .ok (.istore_n 3, 1) := by decide +kernel
theorem dX6_tellsRow_7 : decode cX6_tellsRow 7 = .ok (.iload_n 2, 1) := by decide +kernel
theorem dX6_tellsRow_8 : decode cX6_tellsRow 8 = .ok (.tableswitch 66 0 4 #[36, 38, 45, 52, 59], 36) := by decide +kernel
theorem dX6_tellsRow_44 : decode cX6_tellsRow 44 = .ok (.iload_n 3, 1) := by decide +kernel
theorem dX6_tellsRow_45 : decode cX6_tellsRow 45 = .ok (.ireturn, 1) := by decide +kernel
theorem dX6_tellsRow_46 : decode cX6_tellsRow 46 = .ok (.aload_n 0, 1) := by decide +kernel
theorem dX6_tellsRow_47 : decode cX6_tellsRow 47 = .ok (.iload_n 3, 1) := by decide +kernel
theorem dX6_tellsRow_48 : decode cX6_tellsRow 48 = .ok (.iconst 0, 1) := by decide +kernel
theorem dX6_tellsRow_49 : decode cX6_tellsRow 49 = .ok (.invokevirtual 36, 3) := by decide +kernel
theorem dX6_tellsRow_52 : decode cX6_tellsRow 52 = .ok (.ireturn, 1) := by decide +kernel
theorem dX6_tellsRow_53 : decode cX6_tellsRow 53 = .ok (.aload_n 0, 1) := by decide +kernel
theorem dX6_tellsRow_54 : decode cX6_tellsRow 54 = .ok (.invokevirtual 44, 3) := by decide +kernel
theorem dX6_tellsRow_57 : decode cX6_tellsRow 57 = .ok (.iload_n 3, 1) := by decide +kernel
theorem dX6_tellsRow_58 : decode cX6_tellsRow 58 = .ok (.isub, 1) := by decide +kernel
theorem dX6_tellsRow_59 : decode cX6_tellsRow 59 = .ok (.ireturn, 1) := by decide +kernel
theorem dX6_tellsRow_60 : decode cX6_tellsRow 60 = .ok (.aload_n 0, 1) := by decide +kernel
theorem dX6_tellsRow_61 : decode cX6_tellsRow 61 = .ok (.iload_n 1, 1) := by decide +kernel
theorem dX6_tellsRow_62 : decode cX6_tellsRow 62 = .ok (.iconst 1, 1) := by decide +kernel
theorem dX6_tellsRow_63 : decode cX6_tellsRow 63 = .ok (.invokevirtual 108, 3) := by decide +kernel
theorem dX6_tellsRow_66 : decode cX6_tellsRow 66 = .ok (.ireturn, 1) := by decide +kernel
theorem dX6_tellsRow_67 : decode cX6_tellsRow 67 = .ok (.aload_n 0, 1) := by decide +kernel
theorem dX6_tellsRow_68 : decode cX6_tellsRow 68 = .ok (.iload_n 1, 1) := by decide +kernel
theorem dX6_tellsRow_69 : decode cX6_tellsRow 69 = .ok (.iload_n 3, 1) := by decide +kernel
theorem dX6_tellsRow_70 : decode cX6_tellsRow 70 = .ok (.invokevirtual 210, 3) := by decide +kernel
theorem dX6_tellsRow_73 : decode cX6_tellsRow 73 = .ok (.ireturn, 1) := by decide +kernel
theorem dX6_tellsRow_74 : decode cX6_tellsRow 74 = .ok (.aload_n 0, 1) := by decide +kernel
theorem dX6_tellsRow_75 : decode cX6_tellsRow 75 = .ok (.iload_n 1, 1) := by decide +kernel
theorem dX6_tellsRow_76 : decode cX6_tellsRow 76 = .ok (.aload_n 0, 1) := by decide +kernel
theorem dX6_tellsRow_77 : decode cX6_tellsRow 77 = .ok (.invokevirtual 44, 3) := by decide +kernel
theorem dX6_tellsRow_80 : decode cX6_tellsRow 80 = .ok (.invokevirtual 210, 3) := by decide +kernel
theorem dX6_tellsRow_83 : decode cX6_tellsRow 83 = .ok (.ireturn, 1) := by decide +kernel
theorem dX6_row_0 : decode cX6_row 0 = .ok (.aload_n 0, 1) := by decide +kernel
theorem dX6_row_1 : decode cX6_row 1 = .ok (.iconst 0, 1) := by decide +kernel
theorem dX6_row_2 : decode cX6_row 2 = .ok (.putfield 25, 3) := by decide +kernel
theorem dX6_row_5 : decode cX6_row 5 = .ok (.aload_n 0, 1) := by decide +kernel
theorem dX6_row_6 : decode cX6_row 6 = .ok (.iload_n 1, 1) := by decide +kernel
theorem dX6_row_7 : decode cX6_row 7 = .ok (.invokevirtual 133, 3) := by decide +kernel
theorem dX6_row_10 : decode cX6_row 10 = .ok (.ifCond .ne 9, 3) := by decide +kernel
theorem dX6_row_13 : decode cX6_row 13 = .ok (.aload_n 0, 1) := by decide +kernel
theorem dX6_row_14 : decode cX6_row 14 = .ok (.iconst 1, 1) := by decide +kernel
theorem dX6_row_15 : decode cX6_row 15 = .ok (.invokevirtual 120, 3) := by decide +kernel
theorem dX6_row_18 : decode cX6_row 18 = .ok (.ireturn, 1) := by decide +kernel
theorem dX6_row_19 : decode cX6_row 19 = .ok (.iload_n 2, 1) := by decide +kernel
theorem dX6_row_20 : decode cX6_row 20 = .ok (.iconst 0, 1) := by decide +kernel
theorem dX6_row_21 : decode cX6_row 21 = .ok (.iconst 5, 1) := by decide +kernel
theorem dX6_row_22 : decode cX6_row 22 = .ok (.invokestatic 32, 3) := by decide +kernel
theorem dX6_row_25 : decode cX6_row 25 = .ok (.ifCond .eq 12, 3) := by decide +kernel
theorem dX6_row_28 : decode cX6_row 28 = .ok (.aload_n 0, 1) := by decide +kernel
theorem dX6_row_29 : decode cX6_row 29 = .ok (.iload_n 1, 1) := by decide +kernel
theorem dX6_row_30 : decode cX6_row 30 = .ok (.iload_n 2, 1) := by decide +kernel
theorem dX6_row_31 : decode cX6_row 31 = .ok (.invokevirtual 213, 3) := by decide +kernel
theorem dX6_row_34 : decode cX6_row 34 = .ok (.goto 8, 3) := by decide +kernel
theorem dX6_row_37 : decode cX6_row 37 = .ok (.aload_n 0, 1) := by decide +kernel
theorem dX6_row_38 : decode cX6_row 38 = .ok (.iconst 2, 1) := by decide +kernel
theorem dX6_row_39 : decode cX6_row 39 = .ok (.invokevirtual 120, 3) := by decide +kernel
theorem dX6_row_42 : decode cX6_row 42 = .ok (.ireturn, 1) := by decide +kernel
theorem dX6_counts_0 : decode cX6_counts 0 = .ok (.iload_n 1, 1) := by decide +kernel
theorem dX6_counts_1 : decode cX6_counts 1 = .ok (.tableswitch 124 0 8 #[51, 58, 65, 72, 88, 95, 102, 109, 119], 51) := by decide +kernel
theorem dX6_counts_52 : decode cX6_counts 52 = .ok (.aload_n 0, 1) := by decide +kernel
theorem dX6_counts_53 : decode cX6_counts 53 = .ok (.getfield 7, 3) := by decide +kernel
theorem dX6_counts_56 : decode cX6_counts 56 = .ok (.iconst 0, 1) := by decide +kernel
theorem dX6_counts_57 : decode cX6_counts 57 = .ok (.iaload, 1) := by decide +kernel
theorem dX6_counts_58 : decode cX6_counts 58 = .ok (.ireturn, 1) := by decide +kernel
theorem dX6_counts_59 : decode cX6_counts 59 = .ok (.aload_n 0, 1) := by decide +kernel
theorem dX6_counts_60 : decode cX6_counts 60 = .ok (.getfield 7, 3) := by decide +kernel
theorem dX6_counts_63 : decode cX6_counts 63 = .ok (.iconst 1, 1) := by decide +kernel
theorem dX6_counts_64 : decode cX6_counts 64 = .ok (.iaload, 1) := by decide +kernel
theorem dX6_counts_65 : decode cX6_counts 65 = .ok (.ireturn, 1) := by decide +kernel
theorem dX6_counts_66 : decode cX6_counts 66 = .ok (.aload_n 0, 1) := by decide +kernel
theorem dX6_counts_67 : decode cX6_counts 67 = .ok (.getfield 7, 3) := by decide +kernel
theorem dX6_counts_70 : decode cX6_counts 70 = .ok (.iconst 2, 1) := by decide +kernel
theorem dX6_counts_71 : decode cX6_counts 71 = .ok (.iaload, 1) := by decide +kernel
theorem dX6_counts_72 : decode cX6_counts 72 = .ok (.ireturn, 1) := by decide +kernel
theorem dX6_counts_73 : decode cX6_counts 73 = .ok (.aload_n 0, 1) := by decide +kernel
theorem dX6_counts_74 : decode cX6_counts 74 = .ok (.getfield 7, 3) := by decide +kernel
theorem dX6_counts_77 : decode cX6_counts 77 = .ok (.iconst 2, 1) := by decide +kernel
theorem dX6_counts_78 : decode cX6_counts 78 = .ok (.iaload, 1) := by decide +kernel
theorem dX6_counts_79 : decode cX6_counts 79 = .ok (.aload_n 0, 1) := by decide +kernel
theorem dX6_counts_80 : decode cX6_counts 80 = .ok (.aload_n 0, 1) := by decide +kernel
theorem dX6_counts_81 : decode cX6_counts 81 = .ok (.invokevirtual 44, 3) := by decide +kernel
theorem dX6_counts_84 : decode cX6_counts 84 = .ok (.invokevirtual 201, 3) := by decide +kernel
theorem dX6_counts_87 : decode cX6_counts 87 = .ok (.isub, 1) := by decide +kernel
theorem dX6_counts_88 : decode cX6_counts 88 = .ok (.ireturn, 1) := by decide +kernel
theorem dX6_counts_89 : decode cX6_counts 89 = .ok (.aload_n 0, 1) := by decide +kernel
theorem dX6_counts_90 : decode cX6_counts 90 = .ok (.getfield 7, 3) := by decide +kernel
theorem dX6_counts_93 : decode cX6_counts 93 = .ok (.iconst 3, 1) := by decide +kernel
theorem dX6_counts_94 : decode cX6_counts 94 = .ok (.iaload, 1) := by decide +kernel
theorem dX6_counts_95 : decode cX6_counts 95 = .ok (.ireturn, 1) := by decide +kernel
theorem dX6_counts_96 : decode cX6_counts 96 = .ok (.aload_n 0, 1) := by decide +kernel
theorem dX6_counts_97 : decode cX6_counts 97 = .ok (.getfield 7, 3) := by decide +kernel
theorem dX6_counts_100 : decode cX6_counts 100 = .ok (.iconst 4, 1) := by decide +kernel
theorem dX6_counts_101 : decode cX6_counts 101 = .ok (.iaload, 1) := by decide +kernel
theorem dX6_counts_102 : decode cX6_counts 102 = .ok (.ireturn, 1) := by decide +kernel
theorem dX6_counts_103 : decode cX6_counts 103 = .ok (.aload_n 0, 1) := by decide +kernel
theorem dX6_counts_104 : decode cX6_counts 104 = .ok (.getfield 7, 3) := by decide +kernel
theorem dX6_counts_107 : decode cX6_counts 107 = .ok (.iconst 5, 1) := by decide +kernel
theorem dX6_counts_108 : decode cX6_counts 108 = .ok (.iaload, 1) := by decide +kernel
theorem dX6_counts_109 : decode cX6_counts 109 = .ok (.ireturn, 1) := by decide +kernel
theorem dX6_counts_110 : decode cX6_counts 110 = .ok (.aload_n 0, 1) := by decide +kernel
theorem dX6_counts_111 : decode cX6_counts 111 = .ok (.aload_n 0, 1) := by decide +kernel
theorem dX6_counts_112 : decode cX6_counts 112 = .ok (.invokevirtual 44, 3) := by decide +kernel
theorem dX6_counts_115 : decode cX6_counts 115 = .ok (.iconst 0, 1) := by decide +kernel
theorem dX6_counts_116 : decode cX6_counts 116 = .ok (.invokevirtual 36, 3) := by decide +kernel
theorem dX6_counts_119 : decode cX6_counts 119 = .ok (.ireturn, 1) := by decide +kernel
theorem dX6_counts_120 : decode cX6_counts 120 = .ok (.aload_n 0, 1) := by decide +kernel
theorem dX6_counts_121 : decode cX6_counts 121 = .ok (.invokevirtual 148, 3) := by decide +kernel
theorem dX6_counts_124 : decode cX6_counts 124 = .ok (.ireturn, 1) := by decide +kernel
theorem dX6_counts_125 : decode cX6_counts 125 = .ok (.aload_n 0, 1) := by decide +kernel
theorem dX6_counts_126 : decode cX6_counts 126 = .ok (.getfield 29, 3) := by decide +kernel
theorem dX6_counts_129 : decode cX6_counts 129 = .ok (.ireturn, 1) := by decide +kernel
theorem dX6_count_0 : decode cX6_count 0 = .ok (.aload_n 0, 1) := by decide +kernel
theorem dX6_count_1 : decode cX6_count 1 = .ok (.iconst 0, 1) := by decide +kernel
theorem dX6_count_2 : decode cX6_count 2 = .ok (.putfield 25, 3) := by decide +kernel
theorem dX6_count_5 : decode cX6_count 5 = .ok (.iload_n 1, 1) := by decide +kernel
theorem dX6_count_6 : decode cX6_count 6 = .ok (.iconst 0, 1) := by decide +kernel
theorem dX6_count_7 : decode cX6_count 7 = .ok (.bipush 9, 2) := by decide +kernel
theorem dX6_count_9 : decode cX6_count 9 = .ok (.invokestatic 32, 3) := by decide +kernel
theorem dX6_count_12 : decode cX6_count 12 = .ok (.ifCond .eq 11, 3) := by decide +kernel
theorem dX6_count_15 : decode cX6_count 15 = .ok (.aload_n 0, 1) := by decide +kernel
theorem dX6_count_16 : decode cX6_count 16 = .ok (.iload_n 1, 1) := by decide +kernel
theorem dX6_count_17 : decode cX6_count 17 = .ok (.invokevirtual 216, 3) := by decide +kernel
theorem dX6_count_20 : decode cX6_count 20 = .ok (.goto 8, 3) := by decide +kernel
theorem dX6_count_23 : decode cX6_count 23 = .ok (.aload_n 0, 1) := by decide +kernel
theorem dX6_count_24 : decode cX6_count 24 = .ok (.iconst 1, 1) := by decide +kernel
theorem dX6_count_25 : decode cX6_count 25 = .ok (.invokevirtual 120, 3) := by decide +kernel
theorem dX6_count_28 : decode cX6_count 28 = .ok (.ireturn, 1) := by decide +kernel
theorem dX6_losses_0 : decode cX6_losses 0 = .ok (.aload_n 0, 1) := by decide +kernel
theorem dX6_losses_1 : decode cX6_losses 1 = .ok (.iload_n 1, 1) := by decide +kernel
theorem dX6_losses_2 : decode cX6_losses 2 = .ok (.iconst 0, 1) := by decide +kernel
theorem dX6_losses_3 : decode cX6_losses 3 = .ok (.invokevirtual 108, 3) := by decide +kernel
theorem dX6_losses_6 : decode cX6_losses 6 = .ok (.istore_n 3, 1) := by decide +kernel
theorem dX6_losses_7 : decode cX6_losses 7 = .ok (.aload_n 0, 1) := by decide +kernel
theorem dX6_losses_8 : decode cX6_losses 8 = .ok (.iload_n 1, 1) := by decide +kernel
theorem dX6_losses_9 : decode cX6_losses 9 = .ok (.iload_n 2, 1) := by decide +kernel
theorem dX6_losses_10 : decode cX6_losses 10 = .ok (.invokevirtual 114, 3) := by decide +kernel
theorem dX6_losses_13 : decode cX6_losses 13 = .ok (.aload_n 0, 1) := by decide +kernel
theorem dX6_losses_14 : decode cX6_losses 14 = .ok (.iload_n 2, 1) := by decide +kernel
theorem dX6_losses_15 : decode cX6_losses 15 = .ok (.iload_n 3, 1) := by decide +kernel
theorem dX6_losses_16 : decode cX6_losses 16 = .ok (.invokevirtual 111, 3) := by decide +kernel
theorem dX6_losses_19 : decode cX6_losses 19 = .ok (.iconst 0, 1) := by decide +kernel
theorem dX6_losses_20 : decode cX6_losses 20 = .ok (.istore 4, 2) := by decide +kernel
theorem dX6_losses_22 : decode cX6_losses 22 = .ok (.iconst 0, 1) := by decide +kernel
theorem dX6_losses_23 : decode cX6_losses 23 = .ok (.istore 5, 2) := by decide +kernel
theorem dX6_losses_25 : decode cX6_losses 25 = .ok (.iload 5, 2) := by decide +kernel
theorem dX6_losses_27 : decode cX6_losses 27 = .ok (.aload_n 0, 1) := by decide +kernel
theorem dX6_losses_28 : decode cX6_losses 28 = .ok (.getfield 98, 3) := by decide +kernel
theorem dX6_losses_31 : decode cX6_losses 31 = .ok (.if_icmp .ge 38, 3) := by decide +kernel
theorem dX6_losses_34 : decode cX6_losses 34 = .ok (.iload 4, 2) := by decide +kernel
theorem dX6_losses_36 : decode cX6_losses 36 = .ok (.aload_n 0, 1) := by decide +kernel
theorem dX6_losses_37 : decode cX6_losses 37 = .ok (.getfield 19, 3) := by decide +kernel
theorem dX6_losses_40 : decode cX6_losses 40 = .ok (.iload 5, 2) := by decide +kernel
theorem dX6_losses_42 : decode cX6_losses 42 = .ok (.iaload, 1) := by decide +kernel
theorem dX6_losses_43 : decode cX6_losses 43 = .ok (.aload_n 0, 1) := by decide +kernel
theorem dX6_losses_44 : decode cX6_losses 44 = .ok (.iload_n 1, 1) := by decide +kernel
theorem dX6_losses_45 : decode cX6_losses 45 = .ok (.iconst 2, 1) := by decide +kernel
theorem dX6_losses_46 : decode cX6_losses 46 = .ok (.iload 5, 2) := by decide +kernel
theorem dX6_losses_48 : decode cX6_losses 48 = .ok (.iadd, 1) := by decide +kernel
theorem dX6_losses_49 : decode cX6_losses 49 = .ok (.invokevirtual 108, 3) := by decide +kernel
theorem dX6_losses_52 : decode cX6_losses 52 = .ok (.if_icmp .ne 7, 3) := by decide +kernel
theorem dX6_losses_55 : decode cX6_losses 55 = .ok (.iconst 0, 1) := by decide +kernel
theorem dX6_losses_56 : decode cX6_losses 56 = .ok (.goto 4, 3) := by decide +kernel
theorem dX6_losses_59 : decode cX6_losses 59 = .ok (.iconst 1, 1) := by decide +kernel
theorem dX6_losses_60 : decode cX6_losses 60 = .ok (.iadd, 1) := by decide +kernel
theorem dX6_losses_61 : decode cX6_losses 61 = .ok (.istore 4, 2) := by decide +kernel
theorem dX6_losses_63 : decode cX6_losses 63 = .ok (.iinc 5 1, 3) := by decide +kernel
theorem dX6_losses_66 : decode cX6_losses 66 = .ok (.goto (-41), 3) := by decide +kernel
theorem dX6_losses_69 : decode cX6_losses 69 = .ok (.iload 4, 2) := by decide +kernel
theorem dX6_losses_71 : decode cX6_losses 71 = .ok (.ireturn, 1) := by decide +kernel
theorem dX6_lost_0 : decode cX6_lost 0 = .ok (.aload_n 0, 1) := by decide +kernel
theorem dX6_lost_1 : decode cX6_lost 1 = .ok (.iconst 0, 1) := by decide +kernel
theorem dX6_lost_2 : decode cX6_lost 2 = .ok (.putfield 25, 3) := by decide +kernel
theorem dX6_lost_5 : decode cX6_lost 5 = .ok (.aload_n 0, 1) := by decide +kernel
theorem dX6_lost_6 : decode cX6_lost 6 = .ok (.iload_n 1, 1) := by decide +kernel
theorem dX6_lost_7 : decode cX6_lost 7 = .ok (.invokevirtual 133, 3) := by decide +kernel
theorem dX6_lost_10 : decode cX6_lost 10 = .ok (.ifCond .eq 20, 3) := by decide +kernel
theorem dX6_lost_13 : decode cX6_lost 13 = .ok (.aload_n 0, 1) := by decide +kernel
theorem dX6_lost_14 : decode cX6_lost 14 = .ok (.iload_n 2, 1) := by decide +kernel
theorem dX6_lost_15 : decode cX6_lost 15 = .ok (.invokevirtual 127, 3) := by decide +kernel
theorem dX6_lost_18 : decode cX6_lost 18 = .ok (.ifCond .eq 12, 3) := by decide +kernel
theorem dX6_lost_21 : decode cX6_lost 21 = .ok (.aload_n 0, 1) := by decide +kernel
theorem dX6_lost_22 : decode cX6_lost 22 = .ok (.iload_n 1, 1) := by decide +kernel
theorem dX6_lost_23 : decode cX6_lost 23 = .ok (.iload_n 2, 1) := by decide +kernel
theorem dX6_lost_24 : decode cX6_lost 24 = .ok (.invokevirtual 219, 3) := by decide +kernel
theorem dX6_lost_27 : decode cX6_lost 27 = .ok (.goto 8, 3) := by decide +kernel
theorem dX6_lost_30 : decode cX6_lost 30 = .ok (.aload_n 0, 1) := by decide +kernel
theorem dX6_lost_31 : decode cX6_lost 31 = .ok (.iconst 1, 1) := by decide +kernel
theorem dX6_lost_32 : decode cX6_lost 32 = .ok (.invokevirtual 120, 3) := by decide +kernel
theorem dX6_lost_35 : decode cX6_lost 35 = .ok (.ireturn, 1) := by decide +kernel
theorem dX6_against_0 : decode cX6_against 0 = .ok (.aload_n 0, 1) := by decide +kernel
theorem dX6_against_1 : decode cX6_against 1 = .ok (.iconst 0, 1) := by decide +kernel
theorem dX6_against_2 : decode cX6_against 2 = .ok (.putfield 25, 3) := by decide +kernel
theorem dX6_against_5 : decode cX6_against 5 = .ok (.aload_n 0, 1) := by decide +kernel
theorem dX6_against_6 : decode cX6_against 6 = .ok (.iload_n 1, 1) := by decide +kernel
theorem dX6_against_7 : decode cX6_against 7 = .ok (.invokevirtual 133, 3) := by decide +kernel
theorem dX6_against_10 : decode cX6_against 10 = .ok (.ifCond .eq 11, 3) := by decide +kernel
theorem dX6_against_13 : decode cX6_against 13 = .ok (.aload_n 0, 1) := by decide +kernel
theorem dX6_against_14 : decode cX6_against 14 = .ok (.iload_n 2, 1) := by decide +kernel
theorem dX6_against_15 : decode cX6_against 15 = .ok (.invokevirtual 127, 3) := by decide +kernel
theorem dX6_against_18 : decode cX6_against 18 = .ok (.ifCond .ne 9, 3) := by decide +kernel
theorem dX6_against_21 : decode cX6_against 21 = .ok (.aload_n 0, 1) := by decide +kernel
theorem dX6_against_22 : decode cX6_against 22 = .ok (.iconst 1, 1) := by decide +kernel
theorem dX6_against_23 : decode cX6_against 23 = .ok (.invokevirtual 120, 3) := by decide +kernel
theorem dX6_against_26 : decode cX6_against 26 = .ok (.ireturn, 1) := by decide +kernel
theorem dX6_against_27 : decode cX6_against 27 = .ok (.iload_n 3, 1) := by decide +kernel
theorem dX6_against_28 : decode cX6_against 28 = .ok (.invokestatic 51, 3) := by decide +kernel
theorem dX6_against_31 : decode cX6_against 31 = .ok (.ifCond .eq 13, 3) := by decide +kernel
theorem dX6_against_34 : decode cX6_against 34 = .ok (.aload_n 0, 1) := by decide +kernel
theorem dX6_against_35 : decode cX6_against 35 = .ok (.iload_n 1, 1) := by decide +kernel
theorem dX6_against_36 : decode cX6_against 36 = .ok (.iload_n 2, 1) := by decide +kernel
theorem dX6_against_37 : decode cX6_against 37 = .ok (.iload_n 3, 1) := by decide +kernel
theorem dX6_against_38 : decode cX6_against 38 = .ok (.invokevirtual 136, 3) := by decide +kernel
theorem dX6_against_41 : decode cX6_against 41 = .ok (.goto 8, 3) := by decide +kernel
theorem dX6_against_44 : decode cX6_against 44 = .ok (.aload_n 0, 1) := by decide +kernel
theorem dX6_against_45 : decode cX6_against 45 = .ok (.iconst 2, 1) := by decide +kernel
theorem dX6_against_46 : decode cX6_against 46 = .ok (.invokevirtual 120, 3) := by decide +kernel
theorem dX6_against_49 : decode cX6_against 49 = .ok (.ireturn, 1) := by decide +kernel
theorem dX6_steps_0 : decode cX6_steps 0 = .ok (.aload_n 0, 1) := by decide +kernel
theorem dX6_steps_1 : decode cX6_steps 1 = .ok (.getfield 7, 3) := by decide +kernel
theorem dX6_steps_4 : decode cX6_steps 4 = .ok (.iconst 2, 1) := by decide +kernel
theorem dX6_steps_5 : decode cX6_steps 5 = .ok (.iaload, 1) := by decide +kernel
theorem dX6_steps_6 : decode cX6_steps 6 = .ok (.aload_n 0, 1) := by decide +kernel
theorem dX6_steps_7 : decode cX6_steps 7 = .ok (.aload_n 0, 1) := by decide +kernel
theorem dX6_steps_8 : decode cX6_steps 8 = .ok (.invokevirtual 44, 3) := by decide +kernel
theorem dX6_steps_11 : decode cX6_steps 11 = .ok (.invokevirtual 201, 3) := by decide +kernel
theorem dX6_steps_14 : decode cX6_steps 14 = .ok (.isub, 1) := by decide +kernel
theorem dX6_steps_15 : decode cX6_steps 15 = .ok (.istore_n 1, 1) := by decide +kernel
theorem dX6_steps_16 : decode cX6_steps 16 = .ok (.aload_n 0, 1) := by decide +kernel
theorem dX6_steps_17 : decode cX6_steps 17 = .ok (.getfield 7, 3) := by decide +kernel
theorem dX6_steps_20 : decode cX6_steps 20 = .ok (.iconst 3, 1) := by decide +kernel
theorem dX6_steps_21 : decode cX6_steps 21 = .ok (.iaload, 1) := by decide +kernel
theorem dX6_steps_22 : decode cX6_steps 22 = .ok (.istore_n 2, 1) := by decide +kernel
theorem dX6_steps_23 : decode cX6_steps 23 = .ok (.iconst 0, 1) := by decide +kernel
theorem dX6_steps_24 : decode cX6_steps 24 = .ok (.istore_n 3, 1) := by decide +kernel
theorem dX6_steps_25 : decode cX6_steps 25 = .ok (.iload_n 1, 1) := by decide +kernel
theorem dX6_steps_26 : decode cX6_steps 26 = .ok (.ifCond .le 49, 3) := by decide +kernel
theorem dX6_steps_29 : decode cX6_steps 29 = .ok (.iload_n 2, 1) := by decide +kernel
theorem dX6_steps_30 : decode cX6_steps 30 = .ok (.aload_n 0, 1) := by decide +kernel
theorem dX6_steps_31 : decode cX6_steps 31 = .ok (.getfield 7, 3) := by decide +kernel
theorem dX6_steps_34 : decode cX6_steps 34 = .ok (.iconst 2, 1) := by decide +kernel
theorem dX6_steps_35 : decode cX6_steps 35 = .ok (.iaload, 1) := by decide +kernel
theorem dX6_steps_36 : decode cX6_steps 36 = .ok (.if_icmp .ge 7, 3) := by decide +kernel
theorem dX6_steps_39 : decode cX6_steps 39 = .ok (.iload_n 2, 1) := by decide +kernel
theorem dX6_steps_40 : decode cX6_steps 40 = .ok (.goto 4, 3) := by decide +kernel
theorem dX6_steps_43 : decode cX6_steps 43 = .ok (.iconst 0, 1) := by decide +kernel
theorem dX6_steps_44 : decode cX6_steps 44 = .ok (.istore_n 2, 1) := by decide +kernel
theorem dX6_steps_45 : decode cX6_steps 45 = .ok (.iload_n 1, 1) := by decide +kernel
theorem dX6_steps_46 : decode cX6_steps 46 = .ok (.aload_n 0, 1) := by decide +kernel
theorem dX6_steps_47 : decode cX6_steps 47 = .ok (.iload_n 2, 1) := by decide +kernel
theorem dX6_steps_48 : decode cX6_steps 48 = .ok (.iconst 0, 1) := by decide +kernel
theorem dX6_steps_49 : decode cX6_steps 49 = .ok (.invokevirtual 108, 3) := by decide +kernel
theorem dX6_steps_52 : decode cX6_steps 52 = .ok (.aload_n 0, 1) := by decide +kernel
theorem dX6_steps_53 : decode cX6_steps 53 = .ok (.invokevirtual 44, 3) := by decide +kernel
theorem dX6_steps_56 : decode cX6_steps 56 = .ok (.if_icmp .ge 7, 3) := by decide +kernel
theorem dX6_steps_59 : decode cX6_steps 59 = .ok (.iconst 1, 1) := by decide +kernel
theorem dX6_steps_60 : decode cX6_steps 60 = .ok (.goto 4, 3) := by decide +kernel
theorem dX6_steps_63 : decode cX6_steps 63 = .ok (.iconst 0, 1) := by decide +kernel
theorem dX6_steps_64 : decode cX6_steps 64 = .ok (.isub, 1) := by decide +kernel
theorem dX6_steps_65 : decode cX6_steps 65 = .ok (.istore_n 1, 1) := by decide +kernel
theorem dX6_steps_66 : decode cX6_steps 66 = .ok (.iinc 2 1, 3) := by decide +kernel
theorem dX6_steps_69 : decode cX6_steps 69 = .ok (.iinc 3 1, 3) := by decide +kernel
theorem dX6_steps_72 : decode cX6_steps 72 = .ok (.goto (-47), 3) := by decide +kernel
theorem dX6_steps_75 : decode cX6_steps 75 = .ok (.iload_n 3, 1) := by decide +kernel
theorem dX6_steps_76 : decode cX6_steps 76 = .ok (.ireturn, 1) := by decide +kernel
theorem dX6_toGo_0 : decode cX6_toGo 0 = .ok (.aload_n 0, 1) := by decide +kernel
theorem dX6_toGo_1 : decode cX6_toGo 1 = .ok (.iconst 0, 1) := by decide +kernel
theorem dX6_toGo_2 : decode cX6_toGo 2 = .ok (.putfield 25, 3) := by decide +kernel
theorem dX6_toGo_5 : decode cX6_toGo 5 = .ok (.aload_n 0, 1) := by decide +kernel
theorem dX6_toGo_6 : decode cX6_toGo 6 = .ok (.invokevirtual 222, 3) := by decide +kernel
theorem dX6_toGo_9 : decode cX6_toGo 9 = .ok (.ireturn, 1) := by decide +kernel
theorem dX6_found_0 : decode cX6_found 0 = .ok (.iconst 0, 1) := by decide +kernel
theorem dX6_found_1 : decode cX6_found 1 = .ok (.istore 4, 2) := by decide +kernel
theorem dX6_found_3 : decode cX6_found 3 = .ok (.iconst 0, 1) := by decide +kernel
theorem dX6_found_4 : decode cX6_found 4 = .ok (.istore 5, 2) := by decide +kernel
theorem dX6_found_6 : decode cX6_found 6 = .ok (.iload 5, 2) := by decide +kernel
theorem dX6_found_8 : decode cX6_found 8 = .ok (.aload_n 0, 1) := by decide +kernel
theorem dX6_found_9 : decode cX6_found 9 = .ok (.getfield 7, 3) := by decide +kernel
theorem dX6_found_12 : decode cX6_found 12 = .ok (.iconst 2, 1) := by decide +kernel
theorem dX6_found_13 : decode cX6_found 13 = .ok (.iaload, 1) := by decide +kernel
theorem dX6_found_14 : decode cX6_found 14 = .ok (.if_icmp .ge 34, 3) := by decide +kernel
theorem dX6_found_17 : decode cX6_found 17 = .ok (.iload 4, 2) := by decide +kernel
theorem dX6_found_19 : decode cX6_found 19 = .ok (.aload_n 0, 1) := by decide +kernel
theorem dX6_found_20 : decode cX6_found 20 = .ok (.iload 5, 2) := by decide +kernel
theorem dX6_found_22 : decode cX6_found 22 = .ok (.iload_n 1, 1) := by decide +kernel
theorem dX6_found_23 : decode cX6_found 23 = .ok (.iload_n 2, 1) := by decide +kernel
theorem dX6_found_24 : decode cX6_found 24 = .ok (.invokevirtual 192, 3) := by decide +kernel
theorem dX6_found_27 : decode cX6_found 27 = .ok (.iload_n 3, 1) := by decide +kernel
theorem dX6_found_28 : decode cX6_found 28 = .ok (.if_icmp .ne 10, 3) := by decide +kernel
theorem dX6_found_31 : decode cX6_found 31 = .ok (.iconst 1, 1) := by decide +kernel
theorem dX6_found_32 : decode cX6_found 32 = .ok (.iload 5, 2) := by decide +kernel
theorem dX6_found_34 : decode cX6_found 34 = .ok (.ishl, 1) := by decide +kernel
theorem dX6_found_35 : decode cX6_found 35 = .ok (.goto 4, 3) := by decide +kernel
theorem dX6_found_38 : decode cX6_found 38 = .ok (.iconst 0, 1) := by decide +kernel
theorem dX6_found_39 : decode cX6_found 39 = .ok (.ior, 1) := by decide +kernel
theorem dX6_found_40 : decode cX6_found 40 = .ok (.istore 4, 2) := by decide +kernel
theorem dX6_found_42 : decode cX6_found 42 = .ok (.iinc 5 1, 3) := by decide +kernel
theorem dX6_found_45 : decode cX6_found 45 = .ok (.goto (-39), 3) := by decide +kernel
theorem dX6_found_48 : decode cX6_found 48 = .ok (.iload 4, 2) := by decide +kernel
theorem dX6_found_50 : decode cX6_found 50 = .ok (.ireturn, 1) := by decide +kernel
theorem dX6_find_0 : decode cX6_find 0 = .ok (.aload_n 0, 1) := by decide +kernel
theorem dX6_find_1 : decode cX6_find 1 = .ok (.iconst 0, 1) := by decide +kernel
theorem dX6_find_2 : decode cX6_find 2 = .ok (.putfield 25, 3) := by decide +kernel
theorem dX6_find_5 : decode cX6_find 5 = .ok (.aload_n 0, 1) := by decide +kernel
theorem dX6_find_6 : decode cX6_find 6 = .ok (.iload_n 1, 1) := by decide +kernel
theorem dX6_find_7 : decode cX6_find 7 = .ok (.invokevirtual 127, 3) := by decide +kernel
theorem dX6_find_10 : decode cX6_find 10 = .ok (.ifCond .ne 9, 3) := by decide +kernel
theorem dX6_find_13 : decode cX6_find 13 = .ok (.aload_n 0, 1) := by decide +kernel
theorem dX6_find_14 : decode cX6_find 14 = .ok (.iconst 1, 1) := by decide +kernel
theorem dX6_find_15 : decode cX6_find 15 = .ok (.invokevirtual 120, 3) := by decide +kernel
theorem dX6_find_18 : decode cX6_find 18 = .ok (.ireturn, 1) := by decide +kernel
theorem dX6_find_19 : decode cX6_find 19 = .ok (.iload_n 2, 1) := by decide +kernel
theorem dX6_find_20 : decode cX6_find 20 = .ok (.invokestatic 51, 3) := by decide +kernel
theorem dX6_find_23 : decode cX6_find 23 = .ok (.ifCond .eq 23, 3) := by decide +kernel
theorem dX6_find_26 : decode cX6_find 26 = .ok (.iload_n 3, 1) := by decide +kernel
theorem dX6_find_27 : decode cX6_find 27 = .ok (.iconst 0, 1) := by decide +kernel
theorem dX6_find_28 : decode cX6_find 28 = .ok (.ldc 101, 2) := by decide +kernel
theorem dX6_find_30 : decode cX6_find 30 = .ok (.invokestatic 32, 3) := by decide +kernel
theorem dX6_find_33 : decode cX6_find 33 = .ok (.ifCond .eq 13, 3) := by decide +kernel
theorem dX6_find_36 : decode cX6_find 36 = .ok (.aload_n 0, 1) := by decide +kernel
theorem dX6_find_37 : decode cX6_find 37 = .ok (.iload_n 1, 1) := by decide +kernel
theorem dX6_find_38 : decode cX6_find 38 = .ok (.iload_n 2, 1) := by decide +kernel
theorem dX6_find_39 : decode cX6_find 39 = .ok (.iload_n 3, 1) := by decide +kernel
theorem dX6_find_40 : decode cX6_find 40 = .ok (.invokevirtual 225, 3) := by decide +kernel
theorem dX6_find_43 : decode cX6_find 43 = .ok (.goto 8, 3) := by decide +kernel
theorem dX6_find_46 : decode cX6_find 46 = .ok (.aload_n 0, 1) := by decide +kernel
theorem dX6_find_47 : decode cX6_find 47 = .ok (.iconst 2, 1) := by decide +kernel
theorem dX6_find_48 : decode cX6_find 48 = .ok (.invokevirtual 120, 3) := by decide +kernel
theorem dX6_find_51 : decode cX6_find 51 = .ok (.ireturn, 1) := by decide +kernel
theorem dX6_freshShare_0 : decode cX6_freshShare 0 = .ok (.aload_n 0, 1) := by decide +kernel
theorem dX6_freshShare_1 : decode cX6_freshShare 1 = .ok (.iconst 0, 1) := by decide +kernel
theorem dX6_freshShare_2 : decode cX6_freshShare 2 = .ok (.putfield 25, 3) := by decide +kernel
theorem dX6_freshShare_5 : decode cX6_freshShare 5 = .ok (.aload_n 0, 1) := by decide +kernel
theorem dX6_freshShare_6 : decode cX6_freshShare 6 = .ok (.getfield 7, 3) := by decide +kernel
theorem dX6_freshShare_9 : decode cX6_freshShare 9 = .ok (.iconst 2, 1) := by decide +kernel
theorem dX6_freshShare_10 : decode cX6_freshShare 10 = .ok (.iaload, 1) := by decide +kernel
theorem dX6_freshShare_11 : decode cX6_freshShare 11 = .ok (.ifCond .ne 7, 3) := by decide +kernel
theorem dX6_freshShare_14 : decode cX6_freshShare 14 = .ok (.dconst 1, 1) := by decide +kernel
theorem dX6_freshShare_15 : decode cX6_freshShare 15 = .ok (.goto 20, 3) := by decide +kernel
theorem dX6_freshShare_18 : decode cX6_freshShare 18 = .ok (.aload_n 0, 1) := by decide +kernel
theorem dX6_freshShare_19 : decode cX6_freshShare 19 = .ok (.aload_n 0, 1) := by decide +kernel
theorem dX6_freshShare_20 : decode cX6_freshShare 20 = .ok (.invokevirtual 44, 3) := by decide +kernel
theorem dX6_freshShare_23 : decode cX6_freshShare 23 = .ok (.invokevirtual 201, 3) := by decide +kernel
theorem dX6_freshShare_26 : decode cX6_freshShare 26 = .ok (.i2d, 1) := by decide +kernel
theorem dX6_freshShare_27 : decode cX6_freshShare 27 = .ok (.aload_n 0, 1) := by decide +kernel
theorem dX6_freshShare_28 : decode cX6_freshShare 28 = .ok (.getfield 7, 3) := by decide +kernel
theorem dX6_freshShare_31 : decode cX6_freshShare 31 = .ok (.iconst 2, 1) := by decide +kernel
theorem dX6_freshShare_32 : decode cX6_freshShare 32 = .ok (.iaload, 1) := by decide +kernel
theorem dX6_freshShare_33 : decode cX6_freshShare 33 = .ok (.i2d, 1) := by decide +kernel
theorem dX6_freshShare_34 : decode cX6_freshShare 34 = .ok (.ddiv, 1) := by decide +kernel
theorem dX6_freshShare_35 : decode cX6_freshShare 35 = .ok (.dreturn, 1) := by decide +kernel
theorem dX6_hashes_0 : decode cX6_hashes 0 = .ok (.aload_n 0, 1) := by decide +kernel
theorem dX6_hashes_1 : decode cX6_hashes 1 = .ok (.ldc2_w 228, 3) := by decide +kernel
theorem dX6_hashes_4 : decode cX6_hashes 4 = .ok (.aload_n 0, 1) := by decide +kernel
theorem dX6_hashes_5 : decode cX6_hashes 5 = .ok (.getfield 230, 3) := by decide +kernel
theorem dX6_hashes_8 : decode cX6_hashes 8 = .ok (.lmul, 1) := by decide +kernel
theorem dX6_hashes_9 : decode cX6_hashes 9 = .ok (.lload_n 1, 1) := by decide +kernel
theorem dX6_hashes_10 : decode cX6_hashes 10 = .ok (.ladd, 1) := by decide +kernel
theorem dX6_hashes_11 : decode cX6_hashes 11 = .ok (.putfield 230, 3) := by decide +kernel
theorem dX6_hashes_14 : decode cX6_hashes 14 = .ok (.return_, 1) := by decide +kernel
theorem dX6_hashesRow_0 : decode cX6_hashesRow 0 = .ok (.iconst 0, 1) := by decide +kernel
theorem dX6_hashesRow_1 : decode cX6_hashesRow 1 = .ok (.istore_n 2, 1) := by decide +kernel
theorem dX6_hashesRow_2 : decode cX6_hashesRow 2 = .ok (.iload_n 2, 1) := by decide +kernel
theorem dX6_hashesRow_3 : decode cX6_hashesRow 3 = .ok (.bipush 6, 2) := by decide +kernel
theorem dX6_hashesRow_5 : decode cX6_hashesRow 5 = .ok (.if_icmp .ge 20, 3) := by decide +kernel
theorem dX6_hashesRow_8 : decode cX6_hashesRow 8 = .ok (.aload_n 0, 1) := by decide +kernel
theorem dX6_hashesRow_9 : decode cX6_hashesRow 9 = .ok (.aload_n 0, 1) := by decide +kernel
theorem dX6_hashesRow_10 : decode cX6_hashesRow 10 = .ok (.iload_n 1, 1) := by decide +kernel
theorem dX6_hashesRow_11 : decode cX6_hashesRow 11 = .ok (.iload_n 2, 1) := by decide +kernel
theorem dX6_hashesRow_12 : decode cX6_hashesRow 12 = .ok (.invokevirtual 213, 3) := by decide +kernel
theorem dX6_hashesRow_15 : decode cX6_hashesRow 15 = .ok (.i2l, 1) := by decide +kernel
theorem dX6_hashesRow_16 : decode cX6_hashesRow 16 = .ok (.invokevirtual 234, 3) := by decide +kernel
theorem dX6_hashesRow_19 : decode cX6_hashesRow 19 = .ok (.iinc 2 1, 3) := by decide +kernel
theorem dX6_hashesRow_22 : decode cX6_hashesRow 22 = .ok (.goto (-20), 3) := by decide +kernel
theorem dX6_hashesRow_25 : decode cX6_hashesRow 25 = .ok (.aload_n 0, 1) := by decide +kernel
theorem dX6_hashesRow_26 : decode cX6_hashesRow 26 = .ok (.getfield 7, 3) := by decide +kernel
theorem dX6_hashesRow_29 : decode cX6_hashesRow 29 = .ok (.iconst 1, 1) := by decide +kernel
theorem dX6_hashesRow_30 : decode cX6_hashesRow 30 = .ok (.iaload, 1) := by decide +kernel
theorem dX6_hashesRow_31 : decode cX6_hashesRow 31 = .ok (.istore_n 2, 1) := by decide +kernel
theorem dX6_hashesRow_32 : decode cX6_hashesRow 32 = .ok (.iload_n 2, 1) := by decide +kernel
theorem dX6_hashesRow_33 : decode cX6_hashesRow 33 = .ok (.aload_n 0, 1) := by decide +kernel
theorem dX6_hashesRow_34 : decode cX6_hashesRow 34 = .ok (.getfield 7, 3) := by decide +kernel
theorem dX6_hashesRow_37 : decode cX6_hashesRow 37 = .ok (.iconst 0, 1) := by decide +kernel
theorem dX6_hashesRow_38 : decode cX6_hashesRow 38 = .ok (.iaload, 1) := by decide +kernel
theorem dX6_hashesRow_39 : decode cX6_hashesRow 39 = .ok (.if_icmp .ge 53, 3) := by decide +kernel
theorem dX6_hashesRow_42 : decode cX6_hashesRow 42 = .ok (.aload_n 0, 1) := by decide +kernel
theorem dX6_hashesRow_43 : decode cX6_hashesRow 43 = .ok (.iload_n 1, 1) := by decide +kernel
theorem dX6_hashesRow_44 : decode cX6_hashesRow 44 = .ok (.iload_n 2, 1) := by decide +kernel
theorem dX6_hashesRow_45 : decode cX6_hashesRow 45 = .ok (.invokevirtual 114, 3) := by decide +kernel
theorem dX6_hashesRow_48 : decode cX6_hashesRow 48 = .ok (.iconst 0, 1) := by decide +kernel
theorem dX6_hashesRow_49 : decode cX6_hashesRow 49 = .ok (.istore_n 3, 1) := by decide +kernel
theorem dX6_hashesRow_50 : decode cX6_hashesRow 50 = .ok (.iload_n 3, 1) := by decide +kernel
theorem dX6_hashesRow_51 : decode cX6_hashesRow 51 = .ok (.aload_n 0, 1) := by decide +kernel
theorem dX6_hashesRow_52 : decode cX6_hashesRow 52 = .ok (.getfield 98, 3) := by decide +kernel
theorem dX6_hashesRow_55 : decode cX6_hashesRow 55 = .ok (.if_icmp .ge 20, 3) := by decide +kernel
theorem dX6_hashesRow_58 : decode cX6_hashesRow 58 = .ok (.aload_n 0, 1) := by decide +kernel
theorem dX6_hashesRow_59 : decode cX6_hashesRow 59 = .ok (.aload_n 0, 1) := by decide +kernel
theorem dX6_hashesRow_60 : decode cX6_hashesRow 60 = .ok (.getfield 19, 3) := by decide +kernel
theorem dX6_hashesRow_63 : decode cX6_hashesRow 63 = .ok (.iload_n 3, 1) := by decide +kernel
theorem dX6_hashesRow_64 : decode cX6_hashesRow 64 = .ok (.iaload, 1) := by decide +kernel
theorem dX6_hashesRow_65 : decode cX6_hashesRow 65 = .ok (.i2l, 1) := by decide +kernel
theorem dX6_hashesRow_66 : decode cX6_hashesRow 66 = .ok (.invokevirtual 234, 3) := by decide +kernel
theorem dX6_hashesRow_69 : decode cX6_hashesRow 69 = .ok (.iinc 3 1, 3) := by decide +kernel
theorem dX6_hashesRow_72 : decode cX6_hashesRow 72 = .ok (.goto (-22), 3) := by decide +kernel
theorem dX6_hashesRow_75 : decode cX6_hashesRow 75 = .ok (.aload_n 0, 1) := by decide +kernel
theorem dX6_hashesRow_76 : decode cX6_hashesRow 76 = .ok (.aload_n 0, 1) := by decide +kernel
theorem dX6_hashesRow_77 : decode cX6_hashesRow 77 = .ok (.iload_n 1, 1) := by decide +kernel
theorem dX6_hashesRow_78 : decode cX6_hashesRow 78 = .ok (.iload_n 2, 1) := by decide +kernel
theorem dX6_hashesRow_79 : decode cX6_hashesRow 79 = .ok (.invokevirtual 219, 3) := by decide +kernel
theorem dX6_hashesRow_82 : decode cX6_hashesRow 82 = .ok (.i2l, 1) := by decide +kernel
theorem dX6_hashesRow_83 : decode cX6_hashesRow 83 = .ok (.invokevirtual 234, 3) := by decide +kernel
theorem dX6_hashesRow_86 : decode cX6_hashesRow 86 = .ok (.iinc 2 1, 3) := by decide +kernel
theorem dX6_hashesRow_89 : decode cX6_hashesRow 89 = .ok (.goto (-57), 3) := by decide +kernel
theorem dX6_hashesRow_92 : decode cX6_hashesRow 92 = .ok (.return_, 1) := by decide +kernel
theorem dX6_digest_0 : decode cX6_digest 0 = .ok (.aload_n 0, 1) := by decide +kernel
theorem dX6_digest_1 : decode cX6_digest 1 = .ok (.ldc2_w 238, 3) := by decide +kernel
theorem dX6_digest_4 : decode cX6_digest 4 = .ok (.putfield 230, 3) := by decide +kernel
theorem dX6_digest_7 : decode cX6_digest 7 = .ok (.iconst 0, 1) := by decide +kernel
theorem dX6_digest_8 : decode cX6_digest 8 = .ok (.istore_n 1, 1) := by decide +kernel
theorem dX6_digest_9 : decode cX6_digest 9 = .ok (.iload_n 1, 1) := by decide +kernel
theorem dX6_digest_10 : decode cX6_digest 10 = .ok (.bipush 10, 2) := by decide +kernel
theorem dX6_digest_12 : decode cX6_digest 12 = .ok (.if_icmp .ge 19, 3) := by decide +kernel
theorem dX6_digest_15 : decode cX6_digest 15 = .ok (.aload_n 0, 1) := by decide +kernel
theorem dX6_digest_16 : decode cX6_digest 16 = .ok (.aload_n 0, 1) := by decide +kernel
theorem dX6_digest_17 : decode cX6_digest 17 = .ok (.iload_n 1, 1) := by decide +kernel
theorem dX6_digest_18 : decode cX6_digest 18 = .ok (.invokevirtual 216, 3) := by decide +kernel
theorem dX6_digest_21 : decode cX6_digest 21 = .ok (.i2l, 1) := by decide +kernel
theorem dX6_digest_22 : decode cX6_digest 22 = .ok (.invokevirtual 234, 3) := by decide +kernel
theorem dX6_digest_25 : decode cX6_digest 25 = .ok (.iinc 1 1, 3) := by decide +kernel
theorem dX6_digest_28 : decode cX6_digest 28 = .ok (.goto (-19), 3) := by decide +kernel
theorem dX6_digest_31 : decode cX6_digest 31 = .ok (.iconst 0, 1) := by decide +kernel
theorem dX6_digest_32 : decode cX6_digest 32 = .ok (.istore_n 1, 1) := by decide +kernel
theorem dX6_digest_33 : decode cX6_digest 33 = .ok (.iload_n 1, 1) := by decide +kernel
theorem dX6_digest_34 : decode cX6_digest 34 = .ok (.aload_n 0, 1) := by decide +kernel
theorem dX6_digest_35 : decode cX6_digest 35 = .ok (.getfield 7, 3) := by decide +kernel
theorem dX6_digest_38 : decode cX6_digest 38 = .ok (.iconst 0, 1) := by decide +kernel
theorem dX6_digest_39 : decode cX6_digest 39 = .ok (.iaload, 1) := by decide +kernel
theorem dX6_digest_40 : decode cX6_digest 40 = .ok (.if_icmp .ge 70, 3) := by decide +kernel
theorem dX6_digest_43 : decode cX6_digest 43 = .ok (.iconst 0, 1) := by decide +kernel
theorem dX6_digest_44 : decode cX6_digest 44 = .ok (.istore_n 2, 1) := by decide +kernel
theorem dX6_digest_45 : decode cX6_digest 45 = .ok (.iload_n 2, 1) := by decide +kernel
theorem dX6_digest_46 : decode cX6_digest 46 = .ok (.bipush 6, 2) := by decide +kernel
theorem dX6_digest_48 : decode cX6_digest 48 = .ok (.if_icmp .ge 20, 3) := by decide +kernel
theorem dX6_digest_51 : decode cX6_digest 51 = .ok (.aload_n 0, 1) := by decide +kernel
theorem dX6_digest_52 : decode cX6_digest 52 = .ok (.aload_n 0, 1) := by decide +kernel
theorem dX6_digest_53 : decode cX6_digest 53 = .ok (.iload_n 1, 1) := by decide +kernel
theorem dX6_digest_54 : decode cX6_digest 54 = .ok (.iload_n 2, 1) := by decide +kernel
theorem dX6_digest_55 : decode cX6_digest 55 = .ok (.invokevirtual 207, 3) := by decide +kernel
theorem dX6_digest_58 : decode cX6_digest 58 = .ok (.i2l, 1) := by decide +kernel
theorem dX6_digest_59 : decode cX6_digest 59 = .ok (.invokevirtual 234, 3) := by decide +kernel
theorem dX6_digest_62 : decode cX6_digest 62 = .ok (.iinc 2 1, 3) := by decide +kernel
theorem dX6_digest_65 : decode cX6_digest 65 = .ok (.goto (-20), 3) := by decide +kernel
theorem dX6_digest_68 : decode cX6_digest 68 = .ok (.iconst 0, 1) := by decide +kernel
theorem dX6_digest_69 : decode cX6_digest 69 = .ok (.istore_n 2, 1) := by decide +kernel
theorem dX6_digest_70 : decode cX6_digest 70 = .ok (.iload_n 2, 1) := by decide +kernel
theorem dX6_digest_71 : decode cX6_digest 71 = .ok (.iconst 3, 1) := by decide +kernel
theorem dX6_digest_72 : decode cX6_digest 72 = .ok (.aload_n 0, 1) := by decide +kernel
theorem dX6_digest_73 : decode cX6_digest 73 = .ok (.iload_n 1, 1) := by decide +kernel
theorem dX6_digest_74 : decode cX6_digest 74 = .ok (.iconst 0, 1) := by decide +kernel
theorem dX6_digest_75 : decode cX6_digest 75 = .ok (.invokevirtual 36, 3) := by decide +kernel
theorem dX6_digest_78 : decode cX6_digest 78 = .ok (.imul, 1) := by decide +kernel
theorem dX6_digest_79 : decode cX6_digest 79 = .ok (.if_icmp .ge 25, 3) := by decide +kernel
theorem dX6_digest_82 : decode cX6_digest 82 = .ok (.aload_n 0, 1) := by decide +kernel
theorem dX6_digest_83 : decode cX6_digest 83 = .ok (.aload_n 0, 1) := by decide +kernel
theorem dX6_digest_84 : decode cX6_digest 84 = .ok (.iload_n 1, 1) := by decide +kernel
theorem dX6_digest_85 : decode cX6_digest 85 = .ok (.iload_n 2, 1) := by decide +kernel
theorem dX6_digest_86 : decode cX6_digest 86 = .ok (.iconst 3, 1) := by decide +kernel
theorem dX6_digest_87 : decode cX6_digest 87 = .ok (.idiv, 1) := by decide +kernel
theorem dX6_digest_88 : decode cX6_digest 88 = .ok (.iload_n 2, 1) := by decide +kernel
theorem dX6_digest_89 : decode cX6_digest 89 = .ok (.iconst 3, 1) := by decide +kernel
theorem dX6_digest_90 : decode cX6_digest 90 = .ok (.irem, 1) := by decide +kernel
theorem dX6_digest_91 : decode cX6_digest 91 = .ok (.invokevirtual 198, 3) := by decide +kernel
theorem dX6_digest_94 : decode cX6_digest 94 = .ok (.i2l, 1) := by decide +kernel
theorem dX6_digest_95 : decode cX6_digest 95 = .ok (.invokevirtual 234, 3) := by decide +kernel
theorem dX6_digest_98 : decode cX6_digest 98 = .ok (.iinc 2 1, 3) := by decide +kernel
theorem dX6_digest_101 : decode cX6_digest 101 = .ok (.goto (-31), 3) := by decide +kernel
theorem dX6_digest_104 : decode cX6_digest 104 = .ok (.iinc 1 1, 3) := by decide +kernel
theorem dX6_digest_107 : decode cX6_digest 107 = .ok (.goto (-74), 3) := by decide +kernel
theorem dX6_digest_110 : decode cX6_digest 110 = .ok (.iconst 0, 1) := by decide +kernel
theorem dX6_digest_111 : decode cX6_digest 111 = .ok (.istore_n 1, 1) := by decide +kernel
theorem dX6_digest_112 : decode cX6_digest 112 = .ok (.iload_n 1, 1) := by decide +kernel
theorem dX6_digest_113 : decode cX6_digest 113 = .ok (.aload_n 0, 1) := by decide +kernel
theorem dX6_digest_114 : decode cX6_digest 114 = .ok (.getfield 7, 3) := by decide +kernel
theorem dX6_digest_117 : decode cX6_digest 117 = .ok (.iconst 2, 1) := by decide +kernel
theorem dX6_digest_118 : decode cX6_digest 118 = .ok (.iaload, 1) := by decide +kernel
theorem dX6_digest_119 : decode cX6_digest 119 = .ok (.if_icmp .ge 14, 3) := by decide +kernel
theorem dX6_digest_122 : decode cX6_digest 122 = .ok (.aload_n 0, 1) := by decide +kernel
theorem dX6_digest_123 : decode cX6_digest 123 = .ok (.iload_n 1, 1) := by decide +kernel
theorem dX6_digest_124 : decode cX6_digest 124 = .ok (.invokevirtual 240, 3) := by decide +kernel
theorem dX6_digest_127 : decode cX6_digest 127 = .ok (.iinc 1 1, 3) := by decide +kernel
theorem dX6_digest_130 : decode cX6_digest 130 = .ok (.goto (-18), 3) := by decide +kernel
theorem dX6_digest_133 : decode cX6_digest 133 = .ok (.iconst 0, 1) := by decide +kernel
theorem dX6_digest_134 : decode cX6_digest 134 = .ok (.istore_n 1, 1) := by decide +kernel
theorem dX6_digest_135 : decode cX6_digest 135 = .ok (.iload_n 1, 1) := by decide +kernel
theorem dX6_digest_136 : decode cX6_digest 136 = .ok (.iconst 4, 1) := by decide +kernel
theorem dX6_digest_137 : decode cX6_digest 137 = .ok (.if_icmp .ge 23, 3) := by decide +kernel
theorem dX6_digest_140 : decode cX6_digest 140 = .ok (.aload_n 0, 1) := by decide +kernel
theorem dX6_digest_141 : decode cX6_digest 141 = .ok (.aload_n 0, 1) := by decide +kernel
theorem dX6_digest_142 : decode cX6_digest 142 = .ok (.getfield 7, 3) := by decide +kernel
theorem dX6_digest_145 : decode cX6_digest 145 = .ok (.bipush 6, 2) := by decide +kernel
theorem dX6_digest_147 : decode cX6_digest 147 = .ok (.iload_n 1, 1) := by decide +kernel
theorem dX6_digest_148 : decode cX6_digest 148 = .ok (.iadd, 1) := by decide +kernel
theorem dX6_digest_149 : decode cX6_digest 149 = .ok (.iaload, 1) := by decide +kernel
theorem dX6_digest_150 : decode cX6_digest 150 = .ok (.i2l, 1) := by decide +kernel
theorem dX6_digest_151 : decode cX6_digest 151 = .ok (.invokevirtual 234, 3) := by decide +kernel
theorem dX6_digest_154 : decode cX6_digest 154 = .ok (.iinc 1 1, 3) := by decide +kernel
theorem dX6_digest_157 : decode cX6_digest 157 = .ok (.goto (-22), 3) := by decide +kernel
theorem dX6_digest_160 : decode cX6_digest 160 = .ok (.aload_n 0, 1) := by decide +kernel
theorem dX6_digest_161 : decode cX6_digest 161 = .ok (.aload_n 0, 1) := by decide +kernel
theorem dX6_digest_162 : decode cX6_digest 162 = .ok (.invokevirtual 222, 3) := by decide +kernel
theorem dX6_digest_165 : decode cX6_digest 165 = .ok (.i2l, 1) := by decide +kernel
theorem dX6_digest_166 : decode cX6_digest 166 = .ok (.invokevirtual 234, 3) := by decide +kernel
theorem dX6_digest_169 : decode cX6_digest 169 = .ok (.aload_n 0, 1) := by decide +kernel
theorem dX6_digest_170 : decode cX6_digest 170 = .ok (.aload_n 0, 1) := by decide +kernel
theorem dX6_digest_171 : decode cX6_digest 171 = .ok (.aload_n 0, 1) := by decide +kernel
theorem dX6_digest_172 : decode cX6_digest 172 = .ok (.invokevirtual 44, 3) := by decide +kernel
theorem dX6_digest_175 : decode cX6_digest 175 = .ok (.iconst 0, 1) := by decide +kernel
theorem dX6_digest_176 : decode cX6_digest 176 = .ok (.iconst 5, 1) := by decide +kernel
theorem dX6_digest_177 : decode cX6_digest 177 = .ok (.invokevirtual 225, 3) := by decide +kernel
theorem dX6_digest_180 : decode cX6_digest 180 = .ok (.i2l, 1) := by decide +kernel
theorem dX6_digest_181 : decode cX6_digest 181 = .ok (.invokevirtual 234, 3) := by decide +kernel
theorem dX6_digest_184 : decode cX6_digest 184 = .ok (.aload_n 0, 1) := by decide +kernel
theorem dX6_digest_185 : decode cX6_digest 185 = .ok (.aload_n 0, 1) := by decide +kernel
theorem dX6_digest_186 : decode cX6_digest 186 = .ok (.invokevirtual 243, 3) := by decide +kernel
theorem dX6_digest_189 : decode cX6_digest 189 = .ok (.invokestatic 247, 3) := by decide +kernel
theorem dX6_digest_192 : decode cX6_digest 192 = .ok (.invokevirtual 234, 3) := by decide +kernel
theorem dX6_digest_195 : decode cX6_digest 195 = .ok (.aload_n 0, 1) := by decide +kernel
theorem dX6_digest_196 : decode cX6_digest 196 = .ok (.aload_n 0, 1) := by decide +kernel
theorem dX6_digest_197 : decode cX6_digest 197 = .ok (.getfield 151, 3) := by decide +kernel
theorem dX6_digest_200 : decode cX6_digest 200 = .ok (.i2l, 1) := by decide +kernel
theorem dX6_digest_201 : decode cX6_digest 201 = .ok (.invokevirtual 234, 3) := by decide +kernel
theorem dX6_digest_204 : decode cX6_digest 204 = .ok (.iconst 0, 1) := by decide +kernel
theorem dX6_digest_205 : decode cX6_digest 205 = .ok (.istore_n 1, 1) := by decide +kernel
theorem dX6_digest_206 : decode cX6_digest 206 = .ok (.iload_n 1, 1) := by decide +kernel
theorem dX6_digest_207 : decode cX6_digest 207 = .ok (.aload_n 0, 1) := by decide +kernel
theorem dX6_digest_208 : decode cX6_digest 208 = .ok (.getfield 151, 3) := by decide +kernel
theorem dX6_digest_211 : decode cX6_digest 211 = .ok (.if_icmp .ge 20, 3) := by decide +kernel
theorem dX6_digest_214 : decode cX6_digest 214 = .ok (.aload_n 0, 1) := by decide +kernel
theorem dX6_digest_215 : decode cX6_digest 215 = .ok (.aload_n 0, 1) := by decide +kernel
theorem dX6_digest_216 : decode cX6_digest 216 = .ok (.getfield 16, 3) := by decide +kernel
theorem dX6_digest_219 : decode cX6_digest 219 = .ok (.iload_n 1, 1) := by decide +kernel
theorem dX6_digest_220 : decode cX6_digest 220 = .ok (.iaload, 1) := by decide +kernel
theorem dX6_digest_221 : decode cX6_digest 221 = .ok (.i2l, 1) := by decide +kernel
theorem dX6_digest_222 : decode cX6_digest 222 = .ok (.invokevirtual 234, 3) := by decide +kernel
theorem dX6_digest_225 : decode cX6_digest 225 = .ok (.iinc 1 1, 3) := by decide +kernel
theorem dX6_digest_228 : decode cX6_digest 228 = .ok (.goto (-22), 3) := by decide +kernel
theorem dX6_digest_231 : decode cX6_digest 231 = .ok (.aload_n 0, 1) := by decide +kernel
theorem dX6_digest_232 : decode cX6_digest 232 = .ok (.iconst 0, 1) := by decide +kernel
theorem dX6_digest_233 : decode cX6_digest 233 = .ok (.putfield 25, 3) := by decide +kernel
theorem dX6_digest_236 : decode cX6_digest 236 = .ok (.aload_n 0, 1) := by decide +kernel
theorem dX6_digest_237 : decode cX6_digest 237 = .ok (.getfield 230, 3) := by decide +kernel
theorem dX6_digest_240 : decode cX6_digest 240 = .ok (.lreturn, 1) := by decide +kernel
theorem dJ9_min_7cf53_0 : decode cJ9_min_7cf53 0 = .ok (.iload_n 0, 1) := by decide +kernel
theorem dJ9_min_7cf53_1 : decode cJ9_min_7cf53 1 = .ok (.iload_n 1, 1) := by decide +kernel
theorem dJ9_min_7cf53_2 : decode cJ9_min_7cf53 2 = .ok (.if_icmp .gt 7, 3) := by decide +kernel
theorem dJ9_min_7cf53_5 : decode cJ9_min_7cf53 5 = .ok (.iload_n 0, 1) := by decide +kernel
theorem dJ9_min_7cf53_6 : decode cJ9_min_7cf53 6 = .ok (.goto 4, 3) := by decide +kernel
theorem dJ9_min_7cf53_9 : decode cJ9_min_7cf53 9 = .ok (.iload_n 1, 1) := by decide +kernel
theorem dJ9_min_7cf53_10 : decode cJ9_min_7cf53 10 = .ok (.ireturn, 1) := by decide +kernel
theorem dL_addNumber_0 : decode cL_addNumber 0 = .ok (.aload_n 3, 1) := by decide +kernel
theorem dL_addNumber_1 : decode cL_addNumber 1 = .ok (.iconst 0, 1) := by decide +kernel
theorem dL_addNumber_2 : decode cL_addNumber 2 = .ok (.aload_n 0, 1) := by decide +kernel
theorem dL_addNumber_3 : decode cL_addNumber 3 = .ok (.iload_n 1, 1) := by decide +kernel
theorem dL_addNumber_4 : decode cL_addNumber 4 = .ok (.iload_n 2, 1) := by decide +kernel
theorem dL_addNumber_5 : decode cL_addNumber 5 = .ok (.invokevirtual 7, 3) := by decide +kernel
theorem dL_addNumber_8 : decode cL_addNumber 8 = .ok (.i2l, 1) := by decide +kernel
theorem dL_addNumber_9 : decode cL_addNumber 9 = .ok (.lastore, 1) := by decide +kernel
theorem dL_addNumber_10 : decode cL_addNumber 10 = .ok (.goto 11, 3) := by decide +kernel
theorem dL_addNumber_13 : decode cL_addNumber 13 = .ok (.astore 4, 2) := by decide +kernel
theorem dL_addNumber_15 : decode cL_addNumber 15 = .ok (.iconst 1, 1) := by decide +kernel
theorem dL_addNumber_16 : decode cL_addNumber 16 = .ok (.ireturn, 1) := by decide +kernel
theorem dL_addNumber_17 : decode cL_addNumber 17 = .ok (.astore 4, 2) := by decide +kernel
theorem dL_addNumber_19 : decode cL_addNumber 19 = .ok (.iconst 2, 1) := by decide +kernel
theorem dL_addNumber_20 : decode cL_addNumber 20 = .ok (.ireturn, 1) := by decide +kernel
theorem dL_addNumber_21 : decode cL_addNumber 21 = .ok (.iconst 0, 1) := by decide +kernel
theorem dL_addNumber_22 : decode cL_addNumber 22 = .ok (.ireturn, 1) := by decide +kernel
theorem dL_addCopy_0 : decode cL_addCopy 0 = .ok (.aload 4, 2) := by decide +kernel
theorem dL_addCopy_2 : decode cL_addCopy 2 = .ok (.iconst 0, 1) := by decide +kernel
theorem dL_addCopy_3 : decode cL_addCopy 3 = .ok (.aload_n 0, 1) := by decide +kernel
theorem dL_addCopy_4 : decode cL_addCopy 4 = .ok (.iload_n 1, 1) := by decide +kernel
theorem dL_addCopy_5 : decode cL_addCopy 5 = .ok (.iload_n 2, 1) := by decide +kernel
theorem dL_addCopy_6 : decode cL_addCopy 6 = .ok (.iload_n 3, 1) := by decide +kernel
theorem dL_addCopy_7 : decode cL_addCopy 7 = .ok (.invokevirtual 17, 3) := by decide +kernel
theorem dL_addCopy_10 : decode cL_addCopy 10 = .ok (.i2l, 1) := by decide +kernel
theorem dL_addCopy_11 : decode cL_addCopy 11 = .ok (.lastore, 1) := by decide +kernel
theorem dL_addCopy_12 : decode cL_addCopy 12 = .ok (.goto 11, 3) := by decide +kernel
theorem dL_addCopy_15 : decode cL_addCopy 15 = .ok (.astore 5, 2) := by decide +kernel
theorem dL_addCopy_17 : decode cL_addCopy 17 = .ok (.iconst 1, 1) := by decide +kernel
theorem dL_addCopy_18 : decode cL_addCopy 18 = .ok (.ireturn, 1) := by decide +kernel
theorem dL_addCopy_19 : decode cL_addCopy 19 = .ok (.astore 5, 2) := by decide +kernel
theorem dL_addCopy_21 : decode cL_addCopy 21 = .ok (.iconst 2, 1) := by decide +kernel
theorem dL_addCopy_22 : decode cL_addCopy 22 = .ok (.ireturn, 1) := by decide +kernel
theorem dL_addCopy_23 : decode cL_addCopy 23 = .ok (.iconst 0, 1) := by decide +kernel
theorem dL_addCopy_24 : decode cL_addCopy 24 = .ok (.ireturn, 1) := by decide +kernel
theorem dL_drop_0 : decode cL_drop 0 = .ok (.aload_n 3, 1) := by decide +kernel
theorem dL_drop_1 : decode cL_drop 1 = .ok (.iconst 0, 1) := by decide +kernel
theorem dL_drop_2 : decode cL_drop 2 = .ok (.aload_n 0, 1) := by decide +kernel
theorem dL_drop_3 : decode cL_drop 3 = .ok (.iload_n 1, 1) := by decide +kernel
theorem dL_drop_4 : decode cL_drop 4 = .ok (.iload_n 2, 1) := by decide +kernel
theorem dL_drop_5 : decode cL_drop 5 = .ok (.invokevirtual 21, 3) := by decide +kernel
theorem dL_drop_8 : decode cL_drop 8 = .ok (.i2l, 1) := by decide +kernel
theorem dL_drop_9 : decode cL_drop 9 = .ok (.lastore, 1) := by decide +kernel
theorem dL_drop_10 : decode cL_drop 10 = .ok (.goto 11, 3) := by decide +kernel
theorem dL_drop_13 : decode cL_drop 13 = .ok (.astore 4, 2) := by decide +kernel
theorem dL_drop_15 : decode cL_drop 15 = .ok (.iconst 1, 1) := by decide +kernel
theorem dL_drop_16 : decode cL_drop 16 = .ok (.ireturn, 1) := by decide +kernel
theorem dL_drop_17 : decode cL_drop 17 = .ok (.astore 4, 2) := by decide +kernel
theorem dL_drop_19 : decode cL_drop 19 = .ok (.iconst 2, 1) := by decide +kernel
theorem dL_drop_20 : decode cL_drop 20 = .ok (.ireturn, 1) := by decide +kernel
theorem dL_drop_21 : decode cL_drop 21 = .ok (.iconst 0, 1) := by decide +kernel
theorem dL_drop_22 : decode cL_drop 22 = .ok (.ireturn, 1) := by decide +kernel
theorem dL_rename_0 : decode cL_rename 0 = .ok (.aload_n 3, 1) := by decide +kernel
theorem dL_rename_1 : decode cL_rename 1 = .ok (.iconst 0, 1) := by decide +kernel
theorem dL_rename_2 : decode cL_rename 2 = .ok (.aload_n 0, 1) := by decide +kernel
theorem dL_rename_3 : decode cL_rename 3 = .ok (.iload_n 1, 1) := by decide +kernel
theorem dL_rename_4 : decode cL_rename 4 = .ok (.iload_n 2, 1) := by decide +kernel
theorem dL_rename_5 : decode cL_rename 5 = .ok (.invokevirtual 24, 3) := by decide +kernel
theorem dL_rename_8 : decode cL_rename 8 = .ok (.i2l, 1) := by decide +kernel
theorem dL_rename_9 : decode cL_rename 9 = .ok (.lastore, 1) := by decide +kernel
theorem dL_rename_10 : decode cL_rename 10 = .ok (.goto 11, 3) := by decide +kernel
theorem dL_rename_13 : decode cL_rename 13 = .ok (.astore 4, 2) := by decide +kernel
theorem dL_rename_15 : decode cL_rename 15 = .ok (.iconst 1, 1) := by decide +kernel
theorem dL_rename_16 : decode cL_rename 16 = .ok (.ireturn, 1) := by decide +kernel
theorem dL_rename_17 : decode cL_rename 17 = .ok (.astore 4, 2) := by decide +kernel
theorem dL_rename_19 : decode cL_rename 19 = .ok (.iconst 2, 1) := by decide +kernel
theorem dL_rename_20 : decode cL_rename 20 = .ok (.ireturn, 1) := by decide +kernel
theorem dL_rename_21 : decode cL_rename 21 = .ok (.iconst 0, 1) := by decide +kernel
theorem dL_rename_22 : decode cL_rename 22 = .ok (.ireturn, 1) := by decide +kernel
theorem dL_insert_0 : decode cL_insert 0 = .ok (.aload_n 1, 1) := by decide +kernel
theorem dL_insert_1 : decode cL_insert 1 = .ok (.iconst 0, 1) := by decide +kernel
theorem dL_insert_2 : decode cL_insert 2 = .ok (.aload_n 0, 1) := by decide +kernel
theorem dL_insert_3 : decode cL_insert 3 = .ok (.invokevirtual 27, 3) := by decide +kernel
theorem dL_insert_6 : decode cL_insert 6 = .ok (.i2l, 1) := by decide +kernel
theorem dL_insert_7 : decode cL_insert 7 = .ok (.lastore, 1) := by decide +kernel
theorem dL_insert_8 : decode cL_insert 8 = .ok (.goto 6, 3) := by decide +kernel
theorem dL_insert_11 : decode cL_insert 11 = .ok (.astore_n 2, 1) := by decide +kernel
theorem dL_insert_12 : decode cL_insert 12 = .ok (.iconst 1, 1) := by decide +kernel
theorem dL_insert_13 : decode cL_insert 13 = .ok (.ireturn, 1) := by decide +kernel
theorem dL_insert_14 : decode cL_insert 14 = .ok (.iconst 0, 1) := by decide +kernel
theorem dL_insert_15 : decode cL_insert 15 = .ok (.ireturn, 1) := by decide +kernel
theorem dL_insertBy_0 : decode cL_insertBy 0 = .ok (.aload_n 2, 1) := by decide +kernel
theorem dL_insertBy_1 : decode cL_insertBy 1 = .ok (.iconst 0, 1) := by decide +kernel
theorem dL_insertBy_2 : decode cL_insertBy 2 = .ok (.aload_n 0, 1) := by decide +kernel
theorem dL_insertBy_3 : decode cL_insertBy 3 = .ok (.iload_n 1, 1) := by decide +kernel
theorem dL_insertBy_4 : decode cL_insertBy 4 = .ok (.invokevirtual 31, 3) := by decide +kernel
theorem dL_insertBy_7 : decode cL_insertBy 7 = .ok (.i2l, 1) := by decide +kernel
theorem dL_insertBy_8 : decode cL_insertBy 8 = .ok (.lastore, 1) := by decide +kernel
theorem dL_insertBy_9 : decode cL_insertBy 9 = .ok (.goto 9, 3) := by decide +kernel
theorem dL_insertBy_12 : decode cL_insertBy 12 = .ok (.astore_n 3, 1) := by decide +kernel
theorem dL_insertBy_13 : decode cL_insertBy 13 = .ok (.iconst 1, 1) := by decide +kernel
theorem dL_insertBy_14 : decode cL_insertBy 14 = .ok (.ireturn, 1) := by decide +kernel
theorem dL_insertBy_15 : decode cL_insertBy 15 = .ok (.astore_n 3, 1) := by decide +kernel
theorem dL_insertBy_16 : decode cL_insertBy 16 = .ok (.iconst 2, 1) := by decide +kernel
theorem dL_insertBy_17 : decode cL_insertBy 17 = .ok (.ireturn, 1) := by decide +kernel
theorem dL_insertBy_18 : decode cL_insertBy 18 = .ok (.iconst 0, 1) := by decide +kernel
theorem dL_insertBy_19 : decode cL_insertBy 19 = .ok (.ireturn, 1) := by decide +kernel
theorem dL_write_0 : decode cL_write 0 = .ok (.aload 5, 2) := by decide +kernel
theorem dL_write_2 : decode cL_write 2 = .ok (.iconst 0, 1) := by decide +kernel
theorem dL_write_3 : decode cL_write 3 = .ok (.aload_n 0, 1) := by decide +kernel
theorem dL_write_4 : decode cL_write 4 = .ok (.iload_n 1, 1) := by decide +kernel
theorem dL_write_5 : decode cL_write 5 = .ok (.iload_n 2, 1) := by decide +kernel
theorem dL_write_6 : decode cL_write 6 = .ok (.iload_n 3, 1) := by decide +kernel
theorem dL_write_7 : decode cL_write 7 = .ok (.iload 4, 2) := by decide +kernel
theorem dL_write_9 : decode cL_write 9 = .ok (.invokevirtual 37, 3) := by decide +kernel
theorem dL_write_12 : decode cL_write 12 = .ok (.i2l, 1) := by decide +kernel
theorem dL_write_13 : decode cL_write 13 = .ok (.lastore, 1) := by decide +kernel
theorem dL_write_14 : decode cL_write 14 = .ok (.goto 15, 3) := by decide +kernel
theorem dL_write_17 : decode cL_write 17 = .ok (.astore 6, 2) := by decide +kernel
theorem dL_write_19 : decode cL_write 19 = .ok (.iconst 1, 1) := by decide +kernel
theorem dL_write_20 : decode cL_write 20 = .ok (.ireturn, 1) := by decide +kernel
theorem dL_write_21 : decode cL_write 21 = .ok (.astore 6, 2) := by decide +kernel
theorem dL_write_23 : decode cL_write 23 = .ok (.iconst 2, 1) := by decide +kernel
theorem dL_write_24 : decode cL_write 24 = .ok (.ireturn, 1) := by decide +kernel
theorem dL_write_25 : decode cL_write 25 = .ok (.astore 6, 2) := by decide +kernel
theorem dL_write_27 : decode cL_write 27 = .ok (.iconst 3, 1) := by decide +kernel
theorem dL_write_28 : decode cL_write 28 = .ok (.ireturn, 1) := by decide +kernel
theorem dL_write_29 : decode cL_write 29 = .ok (.iconst 0, 1) := by decide +kernel
theorem dL_write_30 : decode cL_write 30 = .ok (.ireturn, 1) := by decide +kernel
theorem dL_remove_0 : decode cL_remove 0 = .ok (.aload_n 2, 1) := by decide +kernel
theorem dL_remove_1 : decode cL_remove 1 = .ok (.iconst 0, 1) := by decide +kernel
theorem dL_remove_2 : decode cL_remove 2 = .ok (.aload_n 0, 1) := by decide +kernel
theorem dL_remove_3 : decode cL_remove 3 = .ok (.iload_n 1, 1) := by decide +kernel
theorem dL_remove_4 : decode cL_remove 4 = .ok (.invokevirtual 41, 3) := by decide +kernel
theorem dL_remove_7 : decode cL_remove 7 = .ok (.i2l, 1) := by decide +kernel
theorem dL_remove_8 : decode cL_remove 8 = .ok (.lastore, 1) := by decide +kernel
theorem dL_remove_9 : decode cL_remove 9 = .ok (.goto 6, 3) := by decide +kernel
theorem dL_remove_12 : decode cL_remove 12 = .ok (.astore_n 3, 1) := by decide +kernel
theorem dL_remove_13 : decode cL_remove 13 = .ok (.iconst 1, 1) := by decide +kernel
theorem dL_remove_14 : decode cL_remove 14 = .ok (.ireturn, 1) := by decide +kernel
theorem dL_remove_15 : decode cL_remove 15 = .ok (.iconst 0, 1) := by decide +kernel
theorem dL_remove_16 : decode cL_remove 16 = .ok (.ireturn, 1) := by decide +kernel
theorem dL_goOn_0 : decode cL_goOn 0 = .ok (.aload_n 2, 1) := by decide +kernel
theorem dL_goOn_1 : decode cL_goOn 1 = .ok (.iconst 0, 1) := by decide +kernel
theorem dL_goOn_2 : decode cL_goOn 2 = .ok (.aload_n 0, 1) := by decide +kernel
theorem dL_goOn_3 : decode cL_goOn 3 = .ok (.iload_n 1, 1) := by decide +kernel
theorem dL_goOn_4 : decode cL_goOn 4 = .ok (.invokevirtual 44, 3) := by decide +kernel
theorem dL_goOn_7 : decode cL_goOn 7 = .ok (.i2l, 1) := by decide +kernel
theorem dL_goOn_8 : decode cL_goOn 8 = .ok (.lastore, 1) := by decide +kernel
theorem dL_goOn_9 : decode cL_goOn 9 = .ok (.goto 6, 3) := by decide +kernel
theorem dL_goOn_12 : decode cL_goOn 12 = .ok (.astore_n 3, 1) := by decide +kernel
theorem dL_goOn_13 : decode cL_goOn 13 = .ok (.iconst 1, 1) := by decide +kernel
theorem dL_goOn_14 : decode cL_goOn 14 = .ok (.ireturn, 1) := by decide +kernel
theorem dL_goOn_15 : decode cL_goOn 15 = .ok (.iconst 0, 1) := by decide +kernel
theorem dL_goOn_16 : decode cL_goOn 16 = .ok (.ireturn, 1) := by decide +kernel
theorem dL_hold_0 : decode cL_hold 0 = .ok (.aload_n 3, 1) := by decide +kernel
theorem dL_hold_1 : decode cL_hold 1 = .ok (.iconst 0, 1) := by decide +kernel
theorem dL_hold_2 : decode cL_hold 2 = .ok (.aload_n 0, 1) := by decide +kernel
theorem dL_hold_3 : decode cL_hold 3 = .ok (.iload_n 1, 1) := by decide +kernel
theorem dL_hold_4 : decode cL_hold 4 = .ok (.iload_n 2, 1) := by decide +kernel
theorem dL_hold_5 : decode cL_hold 5 = .ok (.invokevirtual 47, 3) := by decide +kernel
theorem dL_hold_8 : decode cL_hold 8 = .ok (.i2l, 1) := by decide +kernel
theorem dL_hold_9 : decode cL_hold 9 = .ok (.lastore, 1) := by decide +kernel
theorem dL_hold_10 : decode cL_hold 10 = .ok (.goto 7, 3) := by decide +kernel
theorem dL_hold_13 : decode cL_hold 13 = .ok (.astore 4, 2) := by decide +kernel
theorem dL_hold_15 : decode cL_hold 15 = .ok (.iconst 1, 1) := by decide +kernel
theorem dL_hold_16 : decode cL_hold 16 = .ok (.ireturn, 1) := by decide +kernel
theorem dL_hold_17 : decode cL_hold 17 = .ok (.iconst 0, 1) := by decide +kernel
theorem dL_hold_18 : decode cL_hold 18 = .ok (.ireturn, 1) := by decide +kernel
theorem dL_retire_0 : decode cL_retire 0 = .ok (.aload_n 2, 1) := by decide +kernel
theorem dL_retire_1 : decode cL_retire 1 = .ok (.iconst 0, 1) := by decide +kernel
theorem dL_retire_2 : decode cL_retire 2 = .ok (.aload_n 0, 1) := by decide +kernel
theorem dL_retire_3 : decode cL_retire 3 = .ok (.iload_n 1, 1) := by decide +kernel
theorem dL_retire_4 : decode cL_retire 4 = .ok (.invokevirtual 50, 3) := by decide +kernel
theorem dL_retire_7 : decode cL_retire 7 = .ok (.i2l, 1) := by decide +kernel
theorem dL_retire_8 : decode cL_retire 8 = .ok (.lastore, 1) := by decide +kernel
theorem dL_retire_9 : decode cL_retire 9 = .ok (.goto 9, 3) := by decide +kernel
theorem dL_retire_12 : decode cL_retire 12 = .ok (.astore_n 3, 1) := by decide +kernel
theorem dL_retire_13 : decode cL_retire 13 = .ok (.iconst 1, 1) := by decide +kernel
theorem dL_retire_14 : decode cL_retire 14 = .ok (.ireturn, 1) := by decide +kernel
theorem dL_retire_15 : decode cL_retire 15 = .ok (.astore_n 3, 1) := by decide +kernel
theorem dL_retire_16 : decode cL_retire 16 = .ok (.iconst 2, 1) := by decide +kernel
theorem dL_retire_17 : decode cL_retire 17 = .ok (.ireturn, 1) := by decide +kernel
theorem dL_retire_18 : decode cL_retire 18 = .ok (.iconst 0, 1) := by decide +kernel
theorem dL_retire_19 : decode cL_retire 19 = .ok (.ireturn, 1) := by decide +kernel
theorem dL_append_0 : decode cL_append 0 = .ok (.aload_n 2, 1) := by decide +kernel
theorem dL_append_1 : decode cL_append 1 = .ok (.iconst 0, 1) := by decide +kernel
theorem dL_append_2 : decode cL_append 2 = .ok (.aload_n 0, 1) := by decide +kernel
theorem dL_append_3 : decode cL_append 3 = .ok (.iload_n 1, 1) := by decide +kernel
theorem dL_append_4 : decode cL_append 4 = .ok (.invokevirtual 53, 3) := by decide +kernel
theorem dL_append_7 : decode cL_append 7 = .ok (.i2l, 1) := by decide +kernel
theorem dL_append_8 : decode cL_append 8 = .ok (.lastore, 1) := by decide +kernel
theorem dL_append_9 : decode cL_append 9 = .ok (.goto 9, 3) := by decide +kernel
theorem dL_append_12 : decode cL_append 12 = .ok (.astore_n 3, 1) := by decide +kernel
theorem dL_append_13 : decode cL_append 13 = .ok (.iconst 1, 1) := by decide +kernel
theorem dL_append_14 : decode cL_append 14 = .ok (.ireturn, 1) := by decide +kernel
theorem dL_append_15 : decode cL_append 15 = .ok (.astore_n 3, 1) := by decide +kernel
theorem dL_append_16 : decode cL_append 16 = .ok (.iconst 2, 1) := by decide +kernel
theorem dL_append_17 : decode cL_append 17 = .ok (.ireturn, 1) := by decide +kernel
theorem dL_append_18 : decode cL_append 18 = .ok (.iconst 0, 1) := by decide +kernel
theorem dL_append_19 : decode cL_append 19 = .ok (.ireturn, 1) := by decide +kernel
theorem dL_run_0 : decode cL_run 0 = .ok (.aload_n 1, 1) := by decide +kernel
theorem dL_run_1 : decode cL_run 1 = .ok (.iconst 0, 1) := by decide +kernel
theorem dL_run_2 : decode cL_run 2 = .ok (.aload_n 0, 1) := by decide +kernel
theorem dL_run_3 : decode cL_run 3 = .ok (.invokevirtual 56, 3) := by decide +kernel
theorem dL_run_6 : decode cL_run 6 = .ok (.i2l, 1) := by decide +kernel
theorem dL_run_7 : decode cL_run 7 = .ok (.lastore, 1) := by decide +kernel
theorem dL_run_8 : decode cL_run 8 = .ok (.goto 6, 3) := by decide +kernel
theorem dL_run_11 : decode cL_run 11 = .ok (.astore_n 2, 1) := by decide +kernel
theorem dL_run_12 : decode cL_run 12 = .ok (.iconst 1, 1) := by decide +kernel
theorem dL_run_13 : decode cL_run 13 = .ok (.ireturn, 1) := by decide +kernel
theorem dL_run_14 : decode cL_run 14 = .ok (.iconst 0, 1) := by decide +kernel
theorem dL_run_15 : decode cL_run 15 = .ok (.ireturn, 1) := by decide +kernel
theorem dL_undo_0 : decode cL_undo 0 = .ok (.aload_n 1, 1) := by decide +kernel
theorem dL_undo_1 : decode cL_undo 1 = .ok (.iconst 0, 1) := by decide +kernel
theorem dL_undo_2 : decode cL_undo 2 = .ok (.aload_n 0, 1) := by decide +kernel
theorem dL_undo_3 : decode cL_undo 3 = .ok (.invokevirtual 59, 3) := by decide +kernel
theorem dL_undo_6 : decode cL_undo 6 = .ok (.i2l, 1) := by decide +kernel
theorem dL_undo_7 : decode cL_undo 7 = .ok (.lastore, 1) := by decide +kernel
theorem dL_undo_8 : decode cL_undo 8 = .ok (.goto 6, 3) := by decide +kernel
theorem dL_undo_11 : decode cL_undo 11 = .ok (.astore_n 2, 1) := by decide +kernel
theorem dL_undo_12 : decode cL_undo 12 = .ok (.iconst 1, 1) := by decide +kernel
theorem dL_undo_13 : decode cL_undo 13 = .ok (.ireturn, 1) := by decide +kernel
theorem dL_undo_14 : decode cL_undo 14 = .ok (.iconst 0, 1) := by decide +kernel
theorem dL_undo_15 : decode cL_undo 15 = .ok (.ireturn, 1) := by decide +kernel
theorem dL_read_0 : decode cL_read 0 = .ok (.aload 4, 2) := by decide +kernel
theorem dL_read_2 : decode cL_read 2 = .ok (.iconst 0, 1) := by decide +kernel
theorem dL_read_3 : decode cL_read 3 = .ok (.aload_n 0, 1) := by decide +kernel
theorem dL_read_4 : decode cL_read 4 = .ok (.iload_n 1, 1) := by decide +kernel
theorem dL_read_5 : decode cL_read 5 = .ok (.iload_n 2, 1) := by decide +kernel
theorem dL_read_6 : decode cL_read 6 = .ok (.iload_n 3, 1) := by decide +kernel
theorem dL_read_7 : decode cL_read 7 = .ok (.invokevirtual 62, 3) := by decide +kernel
theorem dL_read_10 : decode cL_read 10 = .ok (.i2l, 1) := by decide +kernel
theorem dL_read_11 : decode cL_read 11 = .ok (.lastore, 1) := by decide +kernel
theorem dL_read_12 : decode cL_read 12 = .ok (.goto 11, 3) := by decide +kernel
theorem dL_read_15 : decode cL_read 15 = .ok (.astore 5, 2) := by decide +kernel
theorem dL_read_17 : decode cL_read 17 = .ok (.iconst 1, 1) := by decide +kernel
theorem dL_read_18 : decode cL_read 18 = .ok (.ireturn, 1) := by decide +kernel
theorem dL_read_19 : decode cL_read 19 = .ok (.astore 5, 2) := by decide +kernel
theorem dL_read_21 : decode cL_read 21 = .ok (.iconst 2, 1) := by decide +kernel
theorem dL_read_22 : decode cL_read 22 = .ok (.ireturn, 1) := by decide +kernel
theorem dL_read_23 : decode cL_read 23 = .ok (.iconst 0, 1) := by decide +kernel
theorem dL_read_24 : decode cL_read 24 = .ok (.ireturn, 1) := by decide +kernel
theorem dL_readAs_0 : decode cL_readAs 0 = .ok (.aload 4, 2) := by decide +kernel
theorem dL_readAs_2 : decode cL_readAs 2 = .ok (.iconst 0, 1) := by decide +kernel
theorem dL_readAs_3 : decode cL_readAs 3 = .ok (.aload_n 0, 1) := by decide +kernel
theorem dL_readAs_4 : decode cL_readAs 4 = .ok (.iload_n 1, 1) := by decide +kernel
theorem dL_readAs_5 : decode cL_readAs 5 = .ok (.iload_n 2, 1) := by decide +kernel
theorem dL_readAs_6 : decode cL_readAs 6 = .ok (.iload_n 3, 1) := by decide +kernel
theorem dL_readAs_7 : decode cL_readAs 7 = .ok (.invokevirtual 65, 3) := by decide +kernel
theorem dL_readAs_10 : decode cL_readAs 10 = .ok (.i2l, 1) := by decide +kernel
theorem dL_readAs_11 : decode cL_readAs 11 = .ok (.lastore, 1) := by decide +kernel
theorem dL_readAs_12 : decode cL_readAs 12 = .ok (.goto 11, 3) := by decide +kernel
theorem dL_readAs_15 : decode cL_readAs 15 = .ok (.astore 5, 2) := by decide +kernel
theorem dL_readAs_17 : decode cL_readAs 17 = .ok (.iconst 1, 1) := by decide +kernel
theorem dL_readAs_18 : decode cL_readAs 18 = .ok (.ireturn, 1) := by decide +kernel
theorem dL_readAs_19 : decode cL_readAs 19 = .ok (.astore 5, 2) := by decide +kernel
theorem dL_readAs_21 : decode cL_readAs 21 = .ok (.iconst 2, 1) := by decide +kernel
theorem dL_readAs_22 : decode cL_readAs 22 = .ok (.ireturn, 1) := by decide +kernel
theorem dL_readAs_23 : decode cL_readAs 23 = .ok (.iconst 0, 1) := by decide +kernel
theorem dL_readAs_24 : decode cL_readAs 24 = .ok (.ireturn, 1) := by decide +kernel
theorem dL_column_0 : decode cL_column 0 = .ok (.aload 4, 2) := by decide +kernel
theorem dL_column_2 : decode cL_column 2 = .ok (.iconst 0, 1) := by decide +kernel
theorem dL_column_3 : decode cL_column 3 = .ok (.aload_n 0, 1) := by decide +kernel
theorem dL_column_4 : decode cL_column 4 = .ok (.iload_n 1, 1) := by decide +kernel
theorem dL_column_5 : decode cL_column 5 = .ok (.iload_n 2, 1) := by decide +kernel
theorem dL_column_6 : decode cL_column 6 = .ok (.iload_n 3, 1) := by decide +kernel
theorem dL_column_7 : decode cL_column 7 = .ok (.invokevirtual 68, 3) := by decide +kernel
theorem dL_column_10 : decode cL_column 10 = .ok (.i2l, 1) := by decide +kernel
theorem dL_column_11 : decode cL_column 11 = .ok (.lastore, 1) := by decide +kernel
theorem dL_column_12 : decode cL_column 12 = .ok (.goto 11, 3) := by decide +kernel
theorem dL_column_15 : decode cL_column 15 = .ok (.astore 5, 2) := by decide +kernel
theorem dL_column_17 : decode cL_column 17 = .ok (.iconst 1, 1) := by decide +kernel
theorem dL_column_18 : decode cL_column 18 = .ok (.ireturn, 1) := by decide +kernel
theorem dL_column_19 : decode cL_column 19 = .ok (.astore 5, 2) := by decide +kernel
theorem dL_column_21 : decode cL_column 21 = .ok (.iconst 2, 1) := by decide +kernel
theorem dL_column_22 : decode cL_column 22 = .ok (.ireturn, 1) := by decide +kernel
theorem dL_column_23 : decode cL_column 23 = .ok (.iconst 0, 1) := by decide +kernel
theorem dL_column_24 : decode cL_column 24 = .ok (.ireturn, 1) := by decide +kernel
theorem dL_shape_0 : decode cL_shape 0 = .ok (.aload_n 3, 1) := by decide +kernel
theorem dL_shape_1 : decode cL_shape 1 = .ok (.iconst 0, 1) := by decide +kernel
theorem dL_shape_2 : decode cL_shape 2 = .ok (.aload_n 0, 1) := by decide +kernel
theorem dL_shape_3 : decode cL_shape 3 = .ok (.iload_n 1, 1) := by decide +kernel
theorem dL_shape_4 : decode cL_shape 4 = .ok (.iload_n 2, 1) := by decide +kernel
theorem dL_shape_5 : decode cL_shape 5 = .ok (.invokevirtual 71, 3) := by decide +kernel
theorem dL_shape_8 : decode cL_shape 8 = .ok (.i2l, 1) := by decide +kernel
theorem dL_shape_9 : decode cL_shape 9 = .ok (.lastore, 1) := by decide +kernel
theorem dL_shape_10 : decode cL_shape 10 = .ok (.goto 11, 3) := by decide +kernel
theorem dL_shape_13 : decode cL_shape 13 = .ok (.astore 4, 2) := by decide +kernel
theorem dL_shape_15 : decode cL_shape 15 = .ok (.iconst 1, 1) := by decide +kernel
theorem dL_shape_16 : decode cL_shape 16 = .ok (.ireturn, 1) := by decide +kernel
theorem dL_shape_17 : decode cL_shape 17 = .ok (.astore 4, 2) := by decide +kernel
theorem dL_shape_19 : decode cL_shape 19 = .ok (.iconst 2, 1) := by decide +kernel
theorem dL_shape_20 : decode cL_shape 20 = .ok (.ireturn, 1) := by decide +kernel
theorem dL_shape_21 : decode cL_shape 21 = .ok (.iconst 0, 1) := by decide +kernel
theorem dL_shape_22 : decode cL_shape 22 = .ok (.ireturn, 1) := by decide +kernel
theorem dL_row_0 : decode cL_row 0 = .ok (.aload_n 3, 1) := by decide +kernel
theorem dL_row_1 : decode cL_row 1 = .ok (.iconst 0, 1) := by decide +kernel
theorem dL_row_2 : decode cL_row 2 = .ok (.aload_n 0, 1) := by decide +kernel
theorem dL_row_3 : decode cL_row 3 = .ok (.iload_n 1, 1) := by decide +kernel
theorem dL_row_4 : decode cL_row 4 = .ok (.iload_n 2, 1) := by decide +kernel
theorem dL_row_5 : decode cL_row 5 = .ok (.invokevirtual 74, 3) := by decide +kernel
theorem dL_row_8 : decode cL_row 8 = .ok (.i2l, 1) := by decide +kernel
theorem dL_row_9 : decode cL_row 9 = .ok (.lastore, 1) := by decide +kernel
theorem dL_row_10 : decode cL_row 10 = .ok (.goto 11, 3) := by decide +kernel
theorem dL_row_13 : decode cL_row 13 = .ok (.astore 4, 2) := by decide +kernel
theorem dL_row_15 : decode cL_row 15 = .ok (.iconst 1, 1) := by decide +kernel
theorem dL_row_16 : decode cL_row 16 = .ok (.ireturn, 1) := by decide +kernel
theorem dL_row_17 : decode cL_row 17 = .ok (.astore 4, 2) := by decide +kernel
theorem dL_row_19 : decode cL_row 19 = .ok (.iconst 2, 1) := by decide +kernel
theorem dL_row_20 : decode cL_row 20 = .ok (.ireturn, 1) := by decide +kernel
theorem dL_row_21 : decode cL_row 21 = .ok (.iconst 0, 1) := by decide +kernel
theorem dL_row_22 : decode cL_row 22 = .ok (.ireturn, 1) := by decide +kernel
theorem dL_count_0 : decode cL_count 0 = .ok (.aload_n 2, 1) := by decide +kernel
theorem dL_count_1 : decode cL_count 1 = .ok (.iconst 0, 1) := by decide +kernel
theorem dL_count_2 : decode cL_count 2 = .ok (.aload_n 0, 1) := by decide +kernel
theorem dL_count_3 : decode cL_count 3 = .ok (.iload_n 1, 1) := by decide +kernel
theorem dL_count_4 : decode cL_count 4 = .ok (.invokevirtual 77, 3) := by decide +kernel
theorem dL_count_7 : decode cL_count 7 = .ok (.i2l, 1) := by decide +kernel
theorem dL_count_8 : decode cL_count 8 = .ok (.lastore, 1) := by decide +kernel
theorem dL_count_9 : decode cL_count 9 = .ok (.goto 6, 3) := by decide +kernel
theorem dL_count_12 : decode cL_count 12 = .ok (.astore_n 3, 1) := by decide +kernel
theorem dL_count_13 : decode cL_count 13 = .ok (.iconst 1, 1) := by decide +kernel
theorem dL_count_14 : decode cL_count 14 = .ok (.ireturn, 1) := by decide +kernel
theorem dL_count_15 : decode cL_count 15 = .ok (.iconst 0, 1) := by decide +kernel
theorem dL_count_16 : decode cL_count 16 = .ok (.ireturn, 1) := by decide +kernel
theorem dL_lost_0 : decode cL_lost 0 = .ok (.aload_n 3, 1) := by decide +kernel
theorem dL_lost_1 : decode cL_lost 1 = .ok (.iconst 0, 1) := by decide +kernel
theorem dL_lost_2 : decode cL_lost 2 = .ok (.aload_n 0, 1) := by decide +kernel
theorem dL_lost_3 : decode cL_lost 3 = .ok (.iload_n 1, 1) := by decide +kernel
theorem dL_lost_4 : decode cL_lost 4 = .ok (.iload_n 2, 1) := by decide +kernel
theorem dL_lost_5 : decode cL_lost 5 = .ok (.invokevirtual 80, 3) := by decide +kernel
theorem dL_lost_8 : decode cL_lost 8 = .ok (.i2l, 1) := by decide +kernel
theorem dL_lost_9 : decode cL_lost 9 = .ok (.lastore, 1) := by decide +kernel
theorem dL_lost_10 : decode cL_lost 10 = .ok (.goto 7, 3) := by decide +kernel
theorem dL_lost_13 : decode cL_lost 13 = .ok (.astore 4, 2) := by decide +kernel
theorem dL_lost_15 : decode cL_lost 15 = .ok (.iconst 1, 1) := by decide +kernel
theorem dL_lost_16 : decode cL_lost 16 = .ok (.ireturn, 1) := by decide +kernel
theorem dL_lost_17 : decode cL_lost 17 = .ok (.iconst 0, 1) := by decide +kernel
theorem dL_lost_18 : decode cL_lost 18 = .ok (.ireturn, 1) := by decide +kernel
theorem dL_against_0 : decode cL_against 0 = .ok (.aload 4, 2) := by decide +kernel
theorem dL_against_2 : decode cL_against 2 = .ok (.iconst 0, 1) := by decide +kernel
theorem dL_against_3 : decode cL_against 3 = .ok (.aload_n 0, 1) := by decide +kernel
theorem dL_against_4 : decode cL_against 4 = .ok (.iload_n 1, 1) := by decide +kernel
theorem dL_against_5 : decode cL_against 5 = .ok (.iload_n 2, 1) := by decide +kernel
theorem dL_against_6 : decode cL_against 6 = .ok (.iload_n 3, 1) := by decide +kernel
theorem dL_against_7 : decode cL_against 7 = .ok (.invokevirtual 83, 3) := by decide +kernel
theorem dL_against_10 : decode cL_against 10 = .ok (.i2l, 1) := by decide +kernel
theorem dL_against_11 : decode cL_against 11 = .ok (.lastore, 1) := by decide +kernel
theorem dL_against_12 : decode cL_against 12 = .ok (.goto 11, 3) := by decide +kernel
theorem dL_against_15 : decode cL_against 15 = .ok (.astore 5, 2) := by decide +kernel
theorem dL_against_17 : decode cL_against 17 = .ok (.iconst 1, 1) := by decide +kernel
theorem dL_against_18 : decode cL_against 18 = .ok (.ireturn, 1) := by decide +kernel
theorem dL_against_19 : decode cL_against 19 = .ok (.astore 5, 2) := by decide +kernel
theorem dL_against_21 : decode cL_against 21 = .ok (.iconst 2, 1) := by decide +kernel
theorem dL_against_22 : decode cL_against 22 = .ok (.ireturn, 1) := by decide +kernel
theorem dL_against_23 : decode cL_against 23 = .ok (.iconst 0, 1) := by decide +kernel
theorem dL_against_24 : decode cL_against 24 = .ok (.ireturn, 1) := by decide +kernel
theorem dL_find_0 : decode cL_find 0 = .ok (.aload 4, 2) := by decide +kernel
theorem dL_find_2 : decode cL_find 2 = .ok (.iconst 0, 1) := by decide +kernel
theorem dL_find_3 : decode cL_find 3 = .ok (.aload_n 0, 1) := by decide +kernel
theorem dL_find_4 : decode cL_find 4 = .ok (.iload_n 1, 1) := by decide +kernel
theorem dL_find_5 : decode cL_find 5 = .ok (.iload_n 2, 1) := by decide +kernel
theorem dL_find_6 : decode cL_find 6 = .ok (.iload_n 3, 1) := by decide +kernel
theorem dL_find_7 : decode cL_find 7 = .ok (.invokevirtual 86, 3) := by decide +kernel
theorem dL_find_10 : decode cL_find 10 = .ok (.i2l, 1) := by decide +kernel
theorem dL_find_11 : decode cL_find 11 = .ok (.lastore, 1) := by decide +kernel
theorem dL_find_12 : decode cL_find 12 = .ok (.goto 11, 3) := by decide +kernel
theorem dL_find_15 : decode cL_find 15 = .ok (.astore 5, 2) := by decide +kernel
theorem dL_find_17 : decode cL_find 17 = .ok (.iconst 1, 1) := by decide +kernel
theorem dL_find_18 : decode cL_find 18 = .ok (.ireturn, 1) := by decide +kernel
theorem dL_find_19 : decode cL_find 19 = .ok (.astore 5, 2) := by decide +kernel
theorem dL_find_21 : decode cL_find 21 = .ok (.iconst 2, 1) := by decide +kernel
theorem dL_find_22 : decode cL_find 22 = .ok (.ireturn, 1) := by decide +kernel
theorem dL_find_23 : decode cL_find 23 = .ok (.iconst 0, 1) := by decide +kernel
theorem dL_find_24 : decode cL_find 24 = .ok (.ireturn, 1) := by decide +kernel
theorem dL_law_0 : decode cL_law 0 = .ok (.new 8, 3) := by decide +kernel
theorem dL_law_3 : decode cL_law 3 = .ok (.dup, 1) := by decide +kernel
theorem dL_law_4 : decode cL_law 4 = .ok (.invokespecial 89, 3) := by decide +kernel
theorem dL_law_7 : decode cL_law 7 = .ok (.astore_n 1, 1) := by decide +kernel
theorem dL_law_8 : decode cL_law 8 = .ok (.new 90, 3) := by decide +kernel
theorem dL_law_11 : decode cL_law 11 = .ok (.dup, 1) := by decide +kernel
theorem dL_law_12 : decode cL_law 12 = .ok (.invokespecial 92, 3) := by decide +kernel
theorem dL_law_15 : decode cL_law 15 = .ok (.astore_n 2, 1) := by decide +kernel
theorem dL_law_16 : decode cL_law 16 = .ok (.iconst 1, 1) := by decide +kernel
theorem dL_law_17 : decode cL_law 17 = .ok (.newarray .long, 2) := by decide +kernel
theorem dL_law_19 : decode cL_law 19 = .ok (.astore_n 3, 1) := by decide +kernel
theorem dL_law_20 : decode cL_law 20 = .ok (.iconst 0, 1) := by decide +kernel
theorem dL_law_21 : decode cL_law 21 = .ok (.istore 4, 2) := by decide +kernel
theorem dL_law_23 : decode cL_law 23 = .ok (.iload 4, 2) := by decide +kernel
theorem dL_law_25 : decode cL_law 25 = .ok (.aload_n 0, 1) := by decide +kernel
theorem dL_law_26 : decode cL_law 26 = .ok (.arraylength, 1) := by decide +kernel
theorem dL_law_27 : decode cL_law 27 = .ok (.iconst 5, 1) := by decide +kernel
theorem dL_law_28 : decode cL_law 28 = .ok (.isub, 1) := by decide +kernel
theorem dL_law_29 : decode cL_law 29 = .ok (.if_icmp .gt 1751, 3) := by decide +kernel
theorem dL_law_32 : decode cL_law 32 = .ok (.aload_n 0, 1) := by decide +kernel
theorem dL_law_33 : decode cL_law 33 = .ok (.iload 4, 2) := by decide +kernel
theorem dL_law_35 : decode cL_law 35 = .ok (.iaload, 1) := by decide +kernel
theorem dL_law_36 : decode cL_law 36 = .ok (.bipush 31, 2) := by decide +kernel
theorem dL_law_38 : decode cL_law 38 = .ok (.iand, 1) := by decide +kernel
theorem dL_law_39 : decode cL_law 39 = .ok (.tableswitch 1735 0 27 #[125, 193, 273, 341, 409, 453, 509, 601, 657, 713, 781, 837, 893, 906, 919, 963, 1007, 1087, 1167, 1247, 1315, 1383, 1439, 1507, 1587, 1600, 1680, 1721], 125) := by decide +kernel
theorem dL_law_164 : decode cL_law 164 = .ok (.aload_n 1, 1) := by decide +kernel
theorem dL_law_165 : decode cL_law 165 = .ok (.aload_n 0, 1) := by decide +kernel
theorem dL_law_166 : decode cL_law 166 = .ok (.iload 4, 2) := by decide +kernel
theorem dL_law_168 : decode cL_law 168 = .ok (.iconst 1, 1) := by decide +kernel
theorem dL_law_169 : decode cL_law 169 = .ok (.iadd, 1) := by decide +kernel
theorem dL_law_170 : decode cL_law 170 = .ok (.iaload, 1) := by decide +kernel
theorem dL_law_171 : decode cL_law 171 = .ok (.aload_n 0, 1) := by decide +kernel
theorem dL_law_172 : decode cL_law 172 = .ok (.iload 4, 2) := by decide +kernel
theorem dL_law_174 : decode cL_law 174 = .ok (.iconst 2, 1) := by decide +kernel
theorem dL_law_175 : decode cL_law 175 = .ok (.iadd, 1) := by decide +kernel
theorem dL_law_176 : decode cL_law 176 = .ok (.iaload, 1) := by decide +kernel
theorem dL_law_177 : decode cL_law 177 = .ok (.aload_n 3, 1) := by decide +kernel
theorem dL_law_178 : decode cL_law 178 = .ok (.invokestatic 93, 3) := by decide +kernel
theorem dL_law_181 : decode cL_law 181 = .ok (.istore 5, 2) := by decide +kernel
theorem dL_law_183 : decode cL_law 183 = .ok (.aload_n 2, 1) := by decide +kernel
theorem dL_law_184 : decode cL_law 184 = .ok (.aload_n 0, 1) := by decide +kernel
theorem dL_law_185 : decode cL_law 185 = .ok (.iload 4, 2) := by decide +kernel
theorem dL_law_187 : decode cL_law 187 = .ok (.iconst 1, 1) := by decide +kernel
theorem dL_law_188 : decode cL_law 188 = .ok (.iadd, 1) := by decide +kernel
theorem dL_law_189 : decode cL_law 189 = .ok (.iaload, 1) := by decide +kernel
theorem dL_law_190 : decode cL_law 190 = .ok (.aload_n 0, 1) := by decide +kernel
theorem dL_law_191 : decode cL_law 191 = .ok (.iload 4, 2) := by decide +kernel
theorem dL_law_193 : decode cL_law 193 = .ok (.iconst 2, 1) := by decide +kernel
theorem dL_law_194 : decode cL_law 194 = .ok (.iadd, 1) := by decide +kernel
theorem dL_law_195 : decode cL_law 195 = .ok (.iaload, 1) := by decide +kernel
theorem dL_law_196 : decode cL_law 196 = .ok (.invokevirtual 98, 3) := by decide +kernel
theorem dL_law_199 : decode cL_law 199 = .ok (.istore 6, 2) := by decide +kernel
theorem dL_law_201 : decode cL_law 201 = .ok (.aload_n 2, 1) := by decide +kernel
theorem dL_law_202 : decode cL_law 202 = .ok (.invokevirtual 99, 3) := by decide +kernel
theorem dL_law_205 : decode cL_law 205 = .ok (.iload 5, 2) := by decide +kernel
theorem dL_law_207 : decode cL_law 207 = .ok (.if_icmp .eq 5, 3) := by decide +kernel
theorem dL_law_210 : decode cL_law 210 = .ok (.iconst 0, 1) := by decide +kernel
theorem dL_law_211 : decode cL_law 211 = .ok (.ireturn, 1) := by decide +kernel
theorem dL_law_212 : decode cL_law 212 = .ok (.iload 5, 2) := by decide +kernel
theorem dL_law_214 : decode cL_law 214 = .ok (.ifCond .ne 15, 3) := by decide +kernel
theorem dL_law_217 : decode cL_law 217 = .ok (.aload_n 3, 1) := by decide +kernel
theorem dL_law_218 : decode cL_law 218 = .ok (.iconst 0, 1) := by decide +kernel
theorem dL_law_219 : decode cL_law 219 = .ok (.laload, 1) := by decide +kernel
theorem dL_law_220 : decode cL_law 220 = .ok (.iload 6, 2) := by decide +kernel
theorem dL_law_222 : decode cL_law 222 = .ok (.i2l, 1) := by decide +kernel
theorem dL_law_223 : decode cL_law 223 = .ok (.lcmp, 1) := by decide +kernel
theorem dL_law_224 : decode cL_law 224 = .ok (.ifCond .eq 5, 3) := by decide +kernel
theorem dL_law_227 : decode cL_law 227 = .ok (.iconst 0, 1) := by decide +kernel
theorem dL_law_228 : decode cL_law 228 = .ok (.ireturn, 1) := by decide +kernel
theorem dL_law_229 : decode cL_law 229 = .ok (.goto 1545, 3) := by decide +kernel
theorem dL_law_232 : decode cL_law 232 = .ok (.aload_n 1, 1) := by decide +kernel
theorem dL_law_233 : decode cL_law 233 = .ok (.aload_n 0, 1) := by decide +kernel
theorem dL_law_234 : decode cL_law 234 = .ok (.iload 4, 2) := by decide +kernel
theorem dL_law_236 : decode cL_law 236 = .ok (.iconst 1, 1) := by decide +kernel
theorem dL_law_237 : decode cL_law 237 = .ok (.iadd, 1) := by decide +kernel
theorem dL_law_238 : decode cL_law 238 = .ok (.iaload, 1) := by decide +kernel
theorem dL_law_239 : decode cL_law 239 = .ok (.aload_n 0, 1) := by decide +kernel
theorem dL_law_240 : decode cL_law 240 = .ok (.iload 4, 2) := by decide +kernel
theorem dL_law_242 : decode cL_law 242 = .ok (.iconst 2, 1) := by decide +kernel
theorem dL_law_243 : decode cL_law 243 = .ok (.iadd, 1) := by decide +kernel
theorem dL_law_244 : decode cL_law 244 = .ok (.iaload, 1) := by decide +kernel
theorem dL_law_245 : decode cL_law 245 = .ok (.aload_n 0, 1) := by decide +kernel
theorem dL_law_246 : decode cL_law 246 = .ok (.iload 4, 2) := by decide +kernel
theorem dL_law_248 : decode cL_law 248 = .ok (.iconst 3, 1) := by decide +kernel
theorem dL_law_249 : decode cL_law 249 = .ok (.iadd, 1) := by decide +kernel
theorem dL_law_250 : decode cL_law 250 = .ok (.iaload, 1) := by decide +kernel
theorem dL_law_251 : decode cL_law 251 = .ok (.aload_n 3, 1) := by decide +kernel
theorem dL_law_252 : decode cL_law 252 = .ok (.invokestatic 102, 3) := by decide +kernel
theorem dL_law_255 : decode cL_law 255 = .ok (.istore 5, 2) := by decide +kernel
theorem dL_law_257 : decode cL_law 257 = .ok (.aload_n 2, 1) := by decide +kernel
theorem dL_law_258 : decode cL_law 258 = .ok (.aload_n 0, 1) := by decide +kernel
theorem dL_law_259 : decode cL_law 259 = .ok (.iload 4, 2) := by decide +kernel
theorem dL_law_261 : decode cL_law 261 = .ok (.iconst 1, 1) := by decide +kernel
theorem dL_law_262 : decode cL_law 262 = .ok (.iadd, 1) := by decide +kernel
theorem dL_law_263 : decode cL_law 263 = .ok (.iaload, 1) := by decide +kernel
theorem dL_law_264 : decode cL_law 264 = .ok (.aload_n 0, 1) := by decide +kernel
theorem dL_law_265 : decode cL_law 265 = .ok (.iload 4, 2) := by decide +kernel
theorem dL_law_267 : decode cL_law 267 = .ok (.iconst 2, 1) := by decide +kernel
theorem dL_law_268 : decode cL_law 268 = .ok (.iadd, 1) := by decide +kernel
theorem dL_law_269 : decode cL_law 269 = .ok (.iaload, 1) := by decide +kernel
theorem dL_law_270 : decode cL_law 270 = .ok (.aload_n 0, 1) := by decide +kernel
theorem dL_law_271 : decode cL_law 271 = .ok (.iload 4, 2) := by decide +kernel
theorem dL_law_273 : decode cL_law 273 = .ok (.iconst 3, 1) := by decide +kernel
theorem dL_law_274 : decode cL_law 274 = .ok (.iadd, 1) := by decide +kernel
theorem dL_law_275 : decode cL_law 275 = .ok (.iaload, 1) := by decide +kernel
theorem dL_law_276 : decode cL_law 276 = .ok (.invokevirtual 105, 3) := by decide +kernel
theorem dL_law_279 : decode cL_law 279 = .ok (.istore 6, 2) := by decide +kernel
theorem dL_law_281 : decode cL_law 281 = .ok (.aload_n 2, 1) := by decide +kernel
theorem dL_law_282 : decode cL_law 282 = .ok (.invokevirtual 99, 3) := by decide +kernel
theorem dL_law_285 : decode cL_law 285 = .ok (.iload 5, 2) := by decide +kernel
theorem dL_law_287 : decode cL_law 287 = .ok (.if_icmp .eq 5, 3) := by decide +kernel
theorem dL_law_290 : decode cL_law 290 = .ok (.iconst 0, 1) := by decide +kernel
theorem dL_law_291 : decode cL_law 291 = .ok (.ireturn, 1) := by decide +kernel
theorem dL_law_292 : decode cL_law 292 = .ok (.iload 5, 2) := by decide +kernel
theorem dL_law_294 : decode cL_law 294 = .ok (.ifCond .ne 15, 3) := by decide +kernel
theorem dL_law_297 : decode cL_law 297 = .ok (.aload_n 3, 1) := by decide +kernel
theorem dL_law_298 : decode cL_law 298 = .ok (.iconst 0, 1) := by decide +kernel
theorem dL_law_299 : decode cL_law 299 = .ok (.laload, 1) := by decide +kernel
theorem dL_law_300 : decode cL_law 300 = .ok (.iload 6, 2) := by decide +kernel
theorem dL_law_302 : decode cL_law 302 = .ok (.i2l, 1) := by decide +kernel
theorem dL_law_303 : decode cL_law 303 = .ok (.lcmp, 1) := by decide +kernel
theorem dL_law_304 : decode cL_law 304 = .ok (.ifCond .eq 5, 3) := by decide +kernel
theorem dL_law_307 : decode cL_law 307 = .ok (.iconst 0, 1) := by decide +kernel
theorem dL_law_308 : decode cL_law 308 = .ok (.ireturn, 1) := by decide +kernel
theorem dL_law_309 : decode cL_law 309 = .ok (.goto 1465, 3) := by decide +kernel
theorem dL_law_312 : decode cL_law 312 = .ok (.aload_n 1, 1) := by decide +kernel
theorem dL_law_313 : decode cL_law 313 = .ok (.aload_n 0, 1) := by decide +kernel
theorem dL_law_314 : decode cL_law 314 = .ok (.iload 4, 2) := by decide +kernel
theorem dL_law_316 : decode cL_law 316 = .ok (.iconst 1, 1) := by decide +kernel
theorem dL_law_317 : decode cL_law 317 = .ok (.iadd, 1) := by decide +kernel
theorem dL_law_318 : decode cL_law 318 = .ok (.iaload, 1) := by decide +kernel
theorem dL_law_319 : decode cL_law 319 = .ok (.aload_n 0, 1) := by decide +kernel
theorem dL_law_320 : decode cL_law 320 = .ok (.iload 4, 2) := by decide +kernel
theorem dL_law_322 : decode cL_law 322 = .ok (.iconst 2, 1) := by decide +kernel
theorem dL_law_323 : decode cL_law 323 = .ok (.iadd, 1) := by decide +kernel
theorem dL_law_324 : decode cL_law 324 = .ok (.iaload, 1) := by decide +kernel
theorem dL_law_325 : decode cL_law 325 = .ok (.aload_n 3, 1) := by decide +kernel
theorem dL_law_326 : decode cL_law 326 = .ok (.invokestatic 106, 3) := by decide +kernel
theorem dL_law_329 : decode cL_law 329 = .ok (.istore 5, 2) := by decide +kernel
theorem dL_law_331 : decode cL_law 331 = .ok (.aload_n 2, 1) := by decide +kernel
theorem dL_law_332 : decode cL_law 332 = .ok (.aload_n 0, 1) := by decide +kernel
theorem dL_law_333 : decode cL_law 333 = .ok (.iload 4, 2) := by decide +kernel
theorem dL_law_335 : decode cL_law 335 = .ok (.iconst 1, 1) := by decide +kernel
theorem dL_law_336 : decode cL_law 336 = .ok (.iadd, 1) := by decide +kernel
theorem dL_law_337 : decode cL_law 337 = .ok (.iaload, 1) := by decide +kernel
theorem dL_law_338 : decode cL_law 338 = .ok (.aload_n 0, 1) := by decide +kernel
theorem dL_law_339 : decode cL_law 339 = .ok (.iload 4, 2) := by decide +kernel
theorem dL_law_341 : decode cL_law 341 = .ok (.iconst 2, 1) := by decide +kernel
theorem dL_law_342 : decode cL_law 342 = .ok (.iadd, 1) := by decide +kernel
theorem dL_law_343 : decode cL_law 343 = .ok (.iaload, 1) := by decide +kernel
theorem dL_law_344 : decode cL_law 344 = .ok (.invokevirtual 108, 3) := by decide +kernel
theorem dL_law_347 : decode cL_law 347 = .ok (.istore 6, 2) := by decide +kernel
theorem dL_law_349 : decode cL_law 349 = .ok (.aload_n 2, 1) := by decide +kernel
theorem dL_law_350 : decode cL_law 350 = .ok (.invokevirtual 99, 3) := by decide +kernel
theorem dL_law_353 : decode cL_law 353 = .ok (.iload 5, 2) := by decide +kernel
theorem dL_law_355 : decode cL_law 355 = .ok (.if_icmp .eq 5, 3) := by decide +kernel
theorem dL_law_358 : decode cL_law 358 = .ok (.iconst 0, 1) := by decide +kernel
theorem dL_law_359 : decode cL_law 359 = .ok (.ireturn, 1) := by decide +kernel
theorem dL_law_360 : decode cL_law 360 = .ok (.iload 5, 2) := by decide +kernel
theorem dL_law_362 : decode cL_law 362 = .ok (.ifCond .ne 15, 3) := by decide +kernel
theorem dL_law_365 : decode cL_law 365 = .ok (.aload_n 3, 1) := by decide +kernel
theorem dL_law_366 : decode cL_law 366 = .ok (.iconst 0, 1) := by decide +kernel
theorem dL_law_367 : decode cL_law 367 = .ok (.laload, 1) := by decide +kernel
theorem dL_law_368 : decode cL_law 368 = .ok (.iload 6, 2) := by decide +kernel
theorem dL_law_370 : decode cL_law 370 = .ok (.i2l, 1) := by decide +kernel
theorem dL_law_371 : decode cL_law 371 = .ok (.lcmp, 1) := by decide +kernel
theorem dL_law_372 : decode cL_law 372 = .ok (.ifCond .eq 5, 3) := by decide +kernel
theorem dL_law_375 : decode cL_law 375 = .ok (.iconst 0, 1) := by decide +kernel
theorem dL_law_376 : decode cL_law 376 = .ok (.ireturn, 1) := by decide +kernel
theorem dL_law_377 : decode cL_law 377 = .ok (.goto 1397, 3) := by decide +kernel
theorem dL_law_380 : decode cL_law 380 = .ok (.aload_n 1, 1) := by decide +kernel
theorem dL_law_381 : decode cL_law 381 = .ok (.aload_n 0, 1) := by decide +kernel
theorem dL_law_382 : decode cL_law 382 = .ok (.iload 4, 2) := by decide +kernel
theorem dL_law_384 : decode cL_law 384 = .ok (.iconst 1, 1) := by decide +kernel
theorem dL_law_385 : decode cL_law 385 = .ok (.iadd, 1) := by decide +kernel
theorem dL_law_386 : decode cL_law 386 = .ok (.iaload, 1) := by decide +kernel
theorem dL_law_387 : decode cL_law 387 = .ok (.aload_n 0, 1) := by decide +kernel
theorem dL_law_388 : decode cL_law 388 = .ok (.iload 4, 2) := by decide +kernel
theorem dL_law_390 : decode cL_law 390 = .ok (.iconst 2, 1) := by decide +kernel
theorem dL_law_391 : decode cL_law 391 = .ok (.iadd, 1) := by decide +kernel
theorem dL_law_392 : decode cL_law 392 = .ok (.iaload, 1) := by decide +kernel
theorem dL_law_393 : decode cL_law 393 = .ok (.aload_n 3, 1) := by decide +kernel
theorem dL_law_394 : decode cL_law 394 = .ok (.invokestatic 109, 3) := by decide +kernel
theorem dL_law_397 : decode cL_law 397 = .ok (.istore 5, 2) := by decide +kernel
theorem dL_law_399 : decode cL_law 399 = .ok (.aload_n 2, 1) := by decide +kernel
theorem dL_law_400 : decode cL_law 400 = .ok (.aload_n 0, 1) := by decide +kernel
theorem dL_law_401 : decode cL_law 401 = .ok (.iload 4, 2) := by decide +kernel
theorem dL_law_403 : decode cL_law 403 = .ok (.iconst 1, 1) := by decide +kernel
theorem dL_law_404 : decode cL_law 404 = .ok (.iadd, 1) := by decide +kernel
theorem dL_law_405 : decode cL_law 405 = .ok (.iaload, 1) := by decide +kernel
theorem dL_law_406 : decode cL_law 406 = .ok (.aload_n 0, 1) := by decide +kernel
theorem dL_law_407 : decode cL_law 407 = .ok (.iload 4, 2) := by decide +kernel
theorem dL_law_409 : decode cL_law 409 = .ok (.iconst 2, 1) := by decide +kernel
theorem dL_law_410 : decode cL_law 410 = .ok (.iadd, 1) := by decide +kernel
theorem dL_law_411 : decode cL_law 411 = .ok (.iaload, 1) := by decide +kernel
theorem dL_law_412 : decode cL_law 412 = .ok (.invokevirtual 111, 3) := by decide +kernel
theorem dL_law_415 : decode cL_law 415 = .ok (.istore 6, 2) := by decide +kernel
theorem dL_law_417 : decode cL_law 417 = .ok (.aload_n 2, 1) := by decide +kernel
theorem dL_law_418 : decode cL_law 418 = .ok (.invokevirtual 99, 3) := by decide +kernel
theorem dL_law_421 : decode cL_law 421 = .ok (.iload 5, 2) := by decide +kernel
theorem dL_law_423 : decode cL_law 423 = .ok (.if_icmp .eq 5, 3) := by decide +kernel
theorem dL_law_426 : decode cL_law 426 = .ok (.iconst 0, 1) := by decide +kernel
theorem dL_law_427 : decode cL_law 427 = .ok (.ireturn, 1) := by decide +kernel
theorem dL_law_428 : decode cL_law 428 = .ok (.iload 5, 2) := by decide +kernel
theorem dL_law_430 : decode cL_law 430 = .ok (.ifCond .ne 15, 3) := by decide +kernel
theorem dL_law_433 : decode cL_law 433 = .ok (.aload_n 3, 1) := by decide +kernel
theorem dL_law_434 : decode cL_law 434 = .ok (.iconst 0, 1) := by decide +kernel
theorem dL_law_435 : decode cL_law 435 = .ok (.laload, 1) := by decide +kernel
theorem dL_law_436 : decode cL_law 436 = .ok (.iload 6, 2) := by decide +kernel
theorem dL_law_438 : decode cL_law 438 = .ok (.i2l, 1) := by decide +kernel
theorem dL_law_439 : decode cL_law 439 = .ok (.lcmp, 1) := by decide +kernel
theorem dL_law_440 : decode cL_law 440 = .ok (.ifCond .eq 5, 3) := by decide +kernel
theorem dL_law_443 : decode cL_law 443 = .ok (.iconst 0, 1) := by decide +kernel
theorem dL_law_444 : decode cL_law 444 = .ok (.ireturn, 1) := by decide +kernel
theorem dL_law_445 : decode cL_law 445 = .ok (.goto 1329, 3) := by decide +kernel
theorem dL_law_448 : decode cL_law 448 = .ok (.aload_n 1, 1) := by decide +kernel
theorem dL_law_449 : decode cL_law 449 = .ok (.aload_n 3, 1) := by decide +kernel
theorem dL_law_450 : decode cL_law 450 = .ok (.invokestatic 112, 3) := by decide +kernel
theorem dL_law_453 : decode cL_law 453 = .ok (.istore 5, 2) := by decide +kernel
theorem dL_law_455 : decode cL_law 455 = .ok (.aload_n 2, 1) := by decide +kernel
theorem dL_law_456 : decode cL_law 456 = .ok (.invokevirtual 115, 3) := by decide +kernel
theorem dL_law_459 : decode cL_law 459 = .ok (.istore 6, 2) := by decide +kernel
theorem dL_law_461 : decode cL_law 461 = .ok (.aload_n 2, 1) := by decide +kernel
theorem dL_law_462 : decode cL_law 462 = .ok (.invokevirtual 99, 3) := by decide +kernel
theorem dL_law_465 : decode cL_law 465 = .ok (.iload 5, 2) := by decide +kernel
theorem dL_law_467 : decode cL_law 467 = .ok (.if_icmp .eq 5, 3) := by decide +kernel
theorem dL_law_470 : decode cL_law 470 = .ok (.iconst 0, 1) := by decide +kernel
theorem dL_law_471 : decode cL_law 471 = .ok (.ireturn, 1) := by decide +kernel
theorem dL_law_472 : decode cL_law 472 = .ok (.iload 5, 2) := by decide +kernel
theorem dL_law_474 : decode cL_law 474 = .ok (.ifCond .ne 15, 3) := by decide +kernel
theorem dL_law_477 : decode cL_law 477 = .ok (.aload_n 3, 1) := by decide +kernel
theorem dL_law_478 : decode cL_law 478 = .ok (.iconst 0, 1) := by decide +kernel
theorem dL_law_479 : decode cL_law 479 = .ok (.laload, 1) := by decide +kernel
theorem dL_law_480 : decode cL_law 480 = .ok (.iload 6, 2) := by decide +kernel
theorem dL_law_482 : decode cL_law 482 = .ok (.i2l, 1) := by decide +kernel
theorem dL_law_483 : decode cL_law 483 = .ok (.lcmp, 1) := by decide +kernel
theorem dL_law_484 : decode cL_law 484 = .ok (.ifCond .eq 5, 3) := by decide +kernel
theorem dL_law_487 : decode cL_law 487 = .ok (.iconst 0, 1) := by decide +kernel
theorem dL_law_488 : decode cL_law 488 = .ok (.ireturn, 1) := by decide +kernel
theorem dL_law_489 : decode cL_law 489 = .ok (.goto 1285, 3) := by decide +kernel
theorem dL_law_492 : decode cL_law 492 = .ok (.aload_n 1, 1) := by decide +kernel
theorem dL_law_493 : decode cL_law 493 = .ok (.aload_n 0, 1) := by decide +kernel
theorem dL_law_494 : decode cL_law 494 = .ok (.iload 4, 2) := by decide +kernel
theorem dL_law_496 : decode cL_law 496 = .ok (.iconst 1, 1) := by decide +kernel
theorem dL_law_497 : decode cL_law 497 = .ok (.iadd, 1) := by decide +kernel
theorem dL_law_498 : decode cL_law 498 = .ok (.iaload, 1) := by decide +kernel
theorem dL_law_499 : decode cL_law 499 = .ok (.aload_n 3, 1) := by decide +kernel
theorem dL_law_500 : decode cL_law 500 = .ok (.invokestatic 116, 3) := by decide +kernel
theorem dL_law_503 : decode cL_law 503 = .ok (.istore 5, 2) := by decide +kernel
theorem dL_law_505 : decode cL_law 505 = .ok (.aload_n 2, 1) := by decide +kernel
theorem dL_law_506 : decode cL_law 506 = .ok (.aload_n 0, 1) := by decide +kernel
theorem dL_law_507 : decode cL_law 507 = .ok (.iload 4, 2) := by decide +kernel
theorem dL_law_509 : decode cL_law 509 = .ok (.iconst 1, 1) := by decide +kernel
theorem dL_law_510 : decode cL_law 510 = .ok (.iadd, 1) := by decide +kernel
theorem dL_law_511 : decode cL_law 511 = .ok (.iaload, 1) := by decide +kernel
theorem dL_law_512 : decode cL_law 512 = .ok (.invokevirtual 119, 3) := by decide +kernel
theorem dL_law_515 : decode cL_law 515 = .ok (.istore 6, 2) := by decide +kernel
theorem dL_law_517 : decode cL_law 517 = .ok (.aload_n 2, 1) := by decide +kernel
theorem dL_law_518 : decode cL_law 518 = .ok (.invokevirtual 99, 3) := by decide +kernel
theorem dL_law_521 : decode cL_law 521 = .ok (.iload 5, 2) := by decide +kernel
theorem dL_law_523 : decode cL_law 523 = .ok (.if_icmp .eq 5, 3) := by decide +kernel
theorem dL_law_526 : decode cL_law 526 = .ok (.iconst 0, 1) := by decide +kernel
theorem dL_law_527 : decode cL_law 527 = .ok (.ireturn, 1) := by decide +kernel
theorem dL_law_528 : decode cL_law 528 = .ok (.iload 5, 2) := by decide +kernel
theorem dL_law_530 : decode cL_law 530 = .ok (.ifCond .ne 15, 3) := by decide +kernel
theorem dL_law_533 : decode cL_law 533 = .ok (.aload_n 3, 1) := by decide +kernel
theorem dL_law_534 : decode cL_law 534 = .ok (.iconst 0, 1) := by decide +kernel
theorem dL_law_535 : decode cL_law 535 = .ok (.laload, 1) := by decide +kernel
theorem dL_law_536 : decode cL_law 536 = .ok (.iload 6, 2) := by decide +kernel
theorem dL_law_538 : decode cL_law 538 = .ok (.i2l, 1) := by decide +kernel
theorem dL_law_539 : decode cL_law 539 = .ok (.lcmp, 1) := by decide +kernel
theorem dL_law_540 : decode cL_law 540 = .ok (.ifCond .eq 5, 3) := by decide +kernel
theorem dL_law_543 : decode cL_law 543 = .ok (.iconst 0, 1) := by decide +kernel
theorem dL_law_544 : decode cL_law 544 = .ok (.ireturn, 1) := by decide +kernel
theorem dL_law_545 : decode cL_law 545 = .ok (.goto 1229, 3) := by decide +kernel
theorem dL_law_548 : decode cL_law 548 = .ok (.aload_n 1, 1) := by decide +kernel
theorem dL_law_549 : decode cL_law 549 = .ok (.aload_n 0, 1) := by decide +kernel
theorem dL_law_550 : decode cL_law 550 = .ok (.iload 4, 2) := by decide +kernel
theorem dL_law_552 : decode cL_law 552 = .ok (.iconst 1, 1) := by decide +kernel
theorem dL_law_553 : decode cL_law 553 = .ok (.iadd, 1) := by decide +kernel
theorem dL_law_554 : decode cL_law 554 = .ok (.iaload, 1) := by decide +kernel
theorem dL_law_555 : decode cL_law 555 = .ok (.aload_n 0, 1) := by decide +kernel
theorem dL_law_556 : decode cL_law 556 = .ok (.iload 4, 2) := by decide +kernel
theorem dL_law_558 : decode cL_law 558 = .ok (.iconst 2, 1) := by decide +kernel
theorem dL_law_559 : decode cL_law 559 = .ok (.iadd, 1) := by decide +kernel
theorem dL_law_560 : decode cL_law 560 = .ok (.iaload, 1) := by decide +kernel
theorem dL_law_561 : decode cL_law 561 = .ok (.aload_n 0, 1) := by decide +kernel
theorem dL_law_562 : decode cL_law 562 = .ok (.iload 4, 2) := by decide +kernel
theorem dL_law_564 : decode cL_law 564 = .ok (.iconst 3, 1) := by decide +kernel
theorem dL_law_565 : decode cL_law 565 = .ok (.iadd, 1) := by decide +kernel
theorem dL_law_566 : decode cL_law 566 = .ok (.iaload, 1) := by decide +kernel
theorem dL_law_567 : decode cL_law 567 = .ok (.aload_n 0, 1) := by decide +kernel
theorem dL_law_568 : decode cL_law 568 = .ok (.iload 4, 2) := by decide +kernel
theorem dL_law_570 : decode cL_law 570 = .ok (.iconst 4, 1) := by decide +kernel
theorem dL_law_571 : decode cL_law 571 = .ok (.iadd, 1) := by decide +kernel
theorem dL_law_572 : decode cL_law 572 = .ok (.iaload, 1) := by decide +kernel
theorem dL_law_573 : decode cL_law 573 = .ok (.aload_n 3, 1) := by decide +kernel
theorem dL_law_574 : decode cL_law 574 = .ok (.invokestatic 120, 3) := by decide +kernel
theorem dL_law_577 : decode cL_law 577 = .ok (.istore 5, 2) := by decide +kernel
theorem dL_law_579 : decode cL_law 579 = .ok (.aload_n 2, 1) := by decide +kernel
theorem dL_law_580 : decode cL_law 580 = .ok (.aload_n 0, 1) := by decide +kernel
theorem dL_law_581 : decode cL_law 581 = .ok (.iload 4, 2) := by decide +kernel
theorem dL_law_583 : decode cL_law 583 = .ok (.iconst 1, 1) := by decide +kernel
theorem dL_law_584 : decode cL_law 584 = .ok (.iadd, 1) := by decide +kernel
theorem dL_law_585 : decode cL_law 585 = .ok (.iaload, 1) := by decide +kernel
theorem dL_law_586 : decode cL_law 586 = .ok (.aload_n 0, 1) := by decide +kernel
theorem dL_law_587 : decode cL_law 587 = .ok (.iload 4, 2) := by decide +kernel
theorem dL_law_589 : decode cL_law 589 = .ok (.iconst 2, 1) := by decide +kernel
theorem dL_law_590 : decode cL_law 590 = .ok (.iadd, 1) := by decide +kernel
theorem dL_law_591 : decode cL_law 591 = .ok (.iaload, 1) := by decide +kernel
theorem dL_law_592 : decode cL_law 592 = .ok (.aload_n 0, 1) := by decide +kernel
theorem dL_law_593 : decode cL_law 593 = .ok (.iload 4, 2) := by decide +kernel
theorem dL_law_595 : decode cL_law 595 = .ok (.iconst 3, 1) := by decide +kernel
theorem dL_law_596 : decode cL_law 596 = .ok (.iadd, 1) := by decide +kernel
theorem dL_law_597 : decode cL_law 597 = .ok (.iaload, 1) := by decide +kernel
theorem dL_law_598 : decode cL_law 598 = .ok (.aload_n 0, 1) := by decide +kernel
theorem dL_law_599 : decode cL_law 599 = .ok (.iload 4, 2) := by decide +kernel
theorem dL_law_601 : decode cL_law 601 = .ok (.iconst 4, 1) := by decide +kernel
theorem dL_law_602 : decode cL_law 602 = .ok (.iadd, 1) := by decide +kernel
theorem dL_law_603 : decode cL_law 603 = .ok (.iaload, 1) := by decide +kernel
theorem dL_law_604 : decode cL_law 604 = .ok (.invokevirtual 123, 3) := by decide +kernel
theorem dL_law_607 : decode cL_law 607 = .ok (.istore 6, 2) := by decide +kernel
theorem dL_law_609 : decode cL_law 609 = .ok (.aload_n 2, 1) := by decide +kernel
theorem dL_law_610 : decode cL_law 610 = .ok (.invokevirtual 99, 3) := by decide +kernel
theorem dL_law_613 : decode cL_law 613 = .ok (.iload 5, 2) := by decide +kernel
theorem dL_law_615 : decode cL_law 615 = .ok (.if_icmp .eq 5, 3) := by decide +kernel
theorem dL_law_618 : decode cL_law 618 = .ok (.iconst 0, 1) := by decide +kernel
theorem dL_law_619 : decode cL_law 619 = .ok (.ireturn, 1) := by decide +kernel
theorem dL_law_620 : decode cL_law 620 = .ok (.iload 5, 2) := by decide +kernel
theorem dL_law_622 : decode cL_law 622 = .ok (.ifCond .ne 15, 3) := by decide +kernel
theorem dL_law_625 : decode cL_law 625 = .ok (.aload_n 3, 1) := by decide +kernel
theorem dL_law_626 : decode cL_law 626 = .ok (.iconst 0, 1) := by decide +kernel
theorem dL_law_627 : decode cL_law 627 = .ok (.laload, 1) := by decide +kernel
theorem dL_law_628 : decode cL_law 628 = .ok (.iload 6, 2) := by decide +kernel
theorem dL_law_630 : decode cL_law 630 = .ok (.i2l, 1) := by decide +kernel
theorem dL_law_631 : decode cL_law 631 = .ok (.lcmp, 1) := by decide +kernel
theorem dL_law_632 : decode cL_law 632 = .ok (.ifCond .eq 5, 3) := by decide +kernel
theorem dL_law_635 : decode cL_law 635 = .ok (.iconst 0, 1) := by decide +kernel
theorem dL_law_636 : decode cL_law 636 = .ok (.ireturn, 1) := by decide +kernel
theorem dL_law_637 : decode cL_law 637 = .ok (.goto 1137, 3) := by decide +kernel
theorem dL_law_640 : decode cL_law 640 = .ok (.aload_n 1, 1) := by decide +kernel
theorem dL_law_641 : decode cL_law 641 = .ok (.aload_n 0, 1) := by decide +kernel
theorem dL_law_642 : decode cL_law 642 = .ok (.iload 4, 2) := by decide +kernel
theorem dL_law_644 : decode cL_law 644 = .ok (.iconst 1, 1) := by decide +kernel
theorem dL_law_645 : decode cL_law 645 = .ok (.iadd, 1) := by decide +kernel
theorem dL_law_646 : decode cL_law 646 = .ok (.iaload, 1) := by decide +kernel
theorem dL_law_647 : decode cL_law 647 = .ok (.aload_n 3, 1) := by decide +kernel
theorem dL_law_648 : decode cL_law 648 = .ok (.invokestatic 124, 3) := by decide +kernel
theorem dL_law_651 : decode cL_law 651 = .ok (.istore 5, 2) := by decide +kernel
theorem dL_law_653 : decode cL_law 653 = .ok (.aload_n 2, 1) := by decide +kernel
theorem dL_law_654 : decode cL_law 654 = .ok (.aload_n 0, 1) := by decide +kernel
theorem dL_law_655 : decode cL_law 655 = .ok (.iload 4, 2) := by decide +kernel
theorem dL_law_657 : decode cL_law 657 = .ok (.iconst 1, 1) := by decide +kernel
theorem dL_law_658 : decode cL_law 658 = .ok (.iadd, 1) := by decide +kernel
theorem dL_law_659 : decode cL_law 659 = .ok (.iaload, 1) := by decide +kernel
theorem dL_law_660 : decode cL_law 660 = .ok (.invokevirtual 126, 3) := by decide +kernel
theorem dL_law_663 : decode cL_law 663 = .ok (.istore 6, 2) := by decide +kernel
theorem dL_law_665 : decode cL_law 665 = .ok (.aload_n 2, 1) := by decide +kernel
theorem dL_law_666 : decode cL_law 666 = .ok (.invokevirtual 99, 3) := by decide +kernel
theorem dL_law_669 : decode cL_law 669 = .ok (.iload 5, 2) := by decide +kernel
theorem dL_law_671 : decode cL_law 671 = .ok (.if_icmp .eq 5, 3) := by decide +kernel
theorem dL_law_674 : decode cL_law 674 = .ok (.iconst 0, 1) := by decide +kernel
theorem dL_law_675 : decode cL_law 675 = .ok (.ireturn, 1) := by decide +kernel
theorem dL_law_676 : decode cL_law 676 = .ok (.iload 5, 2) := by decide +kernel
theorem dL_law_678 : decode cL_law 678 = .ok (.ifCond .ne 15, 3) := by decide +kernel
theorem dL_law_681 : decode cL_law 681 = .ok (.aload_n 3, 1) := by decide +kernel
theorem dL_law_682 : decode cL_law 682 = .ok (.iconst 0, 1) := by decide +kernel
theorem dL_law_683 : decode cL_law 683 = .ok (.laload, 1) := by decide +kernel
theorem dL_law_684 : decode cL_law 684 = .ok (.iload 6, 2) := by decide +kernel
theorem dL_law_686 : decode cL_law 686 = .ok (.i2l, 1) := by decide +kernel
theorem dL_law_687 : decode cL_law 687 = .ok (.lcmp, 1) := by decide +kernel
theorem dL_law_688 : decode cL_law 688 = .ok (.ifCond .eq 5, 3) := by decide +kernel
theorem dL_law_691 : decode cL_law 691 = .ok (.iconst 0, 1) := by decide +kernel
theorem dL_law_692 : decode cL_law 692 = .ok (.ireturn, 1) := by decide +kernel
theorem dL_law_693 : decode cL_law 693 = .ok (.goto 1081, 3) := by decide +kernel
theorem dL_law_696 : decode cL_law 696 = .ok (.aload_n 1, 1) := by decide +kernel
theorem dL_law_697 : decode cL_law 697 = .ok (.aload_n 0, 1) := by decide +kernel
theorem dL_law_698 : decode cL_law 698 = .ok (.iload 4, 2) := by decide +kernel
theorem dL_law_700 : decode cL_law 700 = .ok (.iconst 1, 1) := by decide +kernel
theorem dL_law_701 : decode cL_law 701 = .ok (.iadd, 1) := by decide +kernel
theorem dL_law_702 : decode cL_law 702 = .ok (.iaload, 1) := by decide +kernel
theorem dL_law_703 : decode cL_law 703 = .ok (.aload_n 3, 1) := by decide +kernel
theorem dL_law_704 : decode cL_law 704 = .ok (.invokestatic 127, 3) := by decide +kernel
theorem dL_law_707 : decode cL_law 707 = .ok (.istore 5, 2) := by decide +kernel
theorem dL_law_709 : decode cL_law 709 = .ok (.aload_n 2, 1) := by decide +kernel
theorem dL_law_710 : decode cL_law 710 = .ok (.aload_n 0, 1) := by decide +kernel
theorem dL_law_711 : decode cL_law 711 = .ok (.iload 4, 2) := by decide +kernel
theorem dL_law_713 : decode cL_law 713 = .ok (.iconst 1, 1) := by decide +kernel
theorem dL_law_714 : decode cL_law 714 = .ok (.iadd, 1) := by decide +kernel
theorem dL_law_715 : decode cL_law 715 = .ok (.iaload, 1) := by decide +kernel
theorem dL_law_716 : decode cL_law 716 = .ok (.invokevirtual 129, 3) := by decide +kernel
theorem dL_law_719 : decode cL_law 719 = .ok (.istore 6, 2) := by decide +kernel
theorem dL_law_721 : decode cL_law 721 = .ok (.aload_n 2, 1) := by decide +kernel
theorem dL_law_722 : decode cL_law 722 = .ok (.invokevirtual 99, 3) := by decide +kernel
theorem dL_law_725 : decode cL_law 725 = .ok (.iload 5, 2) := by decide +kernel
theorem dL_law_727 : decode cL_law 727 = .ok (.if_icmp .eq 5, 3) := by decide +kernel
theorem dL_law_730 : decode cL_law 730 = .ok (.iconst 0, 1) := by decide +kernel
theorem dL_law_731 : decode cL_law 731 = .ok (.ireturn, 1) := by decide +kernel
theorem dL_law_732 : decode cL_law 732 = .ok (.iload 5, 2) := by decide +kernel
theorem dL_law_734 : decode cL_law 734 = .ok (.ifCond .ne 15, 3) := by decide +kernel
theorem dL_law_737 : decode cL_law 737 = .ok (.aload_n 3, 1) := by decide +kernel
theorem dL_law_738 : decode cL_law 738 = .ok (.iconst 0, 1) := by decide +kernel
theorem dL_law_739 : decode cL_law 739 = .ok (.laload, 1) := by decide +kernel
theorem dL_law_740 : decode cL_law 740 = .ok (.iload 6, 2) := by decide +kernel
theorem dL_law_742 : decode cL_law 742 = .ok (.i2l, 1) := by decide +kernel
theorem dL_law_743 : decode cL_law 743 = .ok (.lcmp, 1) := by decide +kernel
theorem dL_law_744 : decode cL_law 744 = .ok (.ifCond .eq 5, 3) := by decide +kernel
theorem dL_law_747 : decode cL_law 747 = .ok (.iconst 0, 1) := by decide +kernel
theorem dL_law_748 : decode cL_law 748 = .ok (.ireturn, 1) := by decide +kernel
theorem dL_law_749 : decode cL_law 749 = .ok (.goto 1025, 3) := by decide +kernel
theorem dL_law_752 : decode cL_law 752 = .ok (.aload_n 1, 1) := by decide +kernel
theorem dL_law_753 : decode cL_law 753 = .ok (.aload_n 0, 1) := by decide +kernel
theorem dL_law_754 : decode cL_law 754 = .ok (.iload 4, 2) := by decide +kernel
theorem dL_law_756 : decode cL_law 756 = .ok (.iconst 1, 1) := by decide +kernel
theorem dL_law_757 : decode cL_law 757 = .ok (.iadd, 1) := by decide +kernel
theorem dL_law_758 : decode cL_law 758 = .ok (.iaload, 1) := by decide +kernel
theorem dL_law_759 : decode cL_law 759 = .ok (.aload_n 0, 1) := by decide +kernel
theorem dL_law_760 : decode cL_law 760 = .ok (.iload 4, 2) := by decide +kernel
theorem dL_law_762 : decode cL_law 762 = .ok (.iconst 2, 1) := by decide +kernel
theorem dL_law_763 : decode cL_law 763 = .ok (.iadd, 1) := by decide +kernel
theorem dL_law_764 : decode cL_law 764 = .ok (.iaload, 1) := by decide +kernel
theorem dL_law_765 : decode cL_law 765 = .ok (.aload_n 3, 1) := by decide +kernel
theorem dL_law_766 : decode cL_law 766 = .ok (.invokestatic 130, 3) := by decide +kernel
theorem dL_law_769 : decode cL_law 769 = .ok (.istore 5, 2) := by decide +kernel
theorem dL_law_771 : decode cL_law 771 = .ok (.aload_n 2, 1) := by decide +kernel
theorem dL_law_772 : decode cL_law 772 = .ok (.aload_n 0, 1) := by decide +kernel
theorem dL_law_773 : decode cL_law 773 = .ok (.iload 4, 2) := by decide +kernel
theorem dL_law_775 : decode cL_law 775 = .ok (.iconst 1, 1) := by decide +kernel
theorem dL_law_776 : decode cL_law 776 = .ok (.iadd, 1) := by decide +kernel
theorem dL_law_777 : decode cL_law 777 = .ok (.iaload, 1) := by decide +kernel
theorem dL_law_778 : decode cL_law 778 = .ok (.aload_n 0, 1) := by decide +kernel
theorem dL_law_779 : decode cL_law 779 = .ok (.iload 4, 2) := by decide +kernel
theorem dL_law_781 : decode cL_law 781 = .ok (.iconst 2, 1) := by decide +kernel
theorem dL_law_782 : decode cL_law 782 = .ok (.iadd, 1) := by decide +kernel
theorem dL_law_783 : decode cL_law 783 = .ok (.iaload, 1) := by decide +kernel
theorem dL_law_784 : decode cL_law 784 = .ok (.invokevirtual 132, 3) := by decide +kernel
theorem dL_law_787 : decode cL_law 787 = .ok (.istore 6, 2) := by decide +kernel
theorem dL_law_789 : decode cL_law 789 = .ok (.aload_n 2, 1) := by decide +kernel
theorem dL_law_790 : decode cL_law 790 = .ok (.invokevirtual 99, 3) := by decide +kernel
theorem dL_law_793 : decode cL_law 793 = .ok (.iload 5, 2) := by decide +kernel
theorem dL_law_795 : decode cL_law 795 = .ok (.if_icmp .eq 5, 3) := by decide +kernel
theorem dL_law_798 : decode cL_law 798 = .ok (.iconst 0, 1) := by decide +kernel
theorem dL_law_799 : decode cL_law 799 = .ok (.ireturn, 1) := by decide +kernel
theorem dL_law_800 : decode cL_law 800 = .ok (.iload 5, 2) := by decide +kernel
theorem dL_law_802 : decode cL_law 802 = .ok (.ifCond .ne 15, 3) := by decide +kernel
theorem dL_law_805 : decode cL_law 805 = .ok (.aload_n 3, 1) := by decide +kernel
theorem dL_law_806 : decode cL_law 806 = .ok (.iconst 0, 1) := by decide +kernel
theorem dL_law_807 : decode cL_law 807 = .ok (.laload, 1) := by decide +kernel
theorem dL_law_808 : decode cL_law 808 = .ok (.iload 6, 2) := by decide +kernel
theorem dL_law_810 : decode cL_law 810 = .ok (.i2l, 1) := by decide +kernel
theorem dL_law_811 : decode cL_law 811 = .ok (.lcmp, 1) := by decide +kernel
theorem dL_law_812 : decode cL_law 812 = .ok (.ifCond .eq 5, 3) := by decide +kernel
theorem dL_law_815 : decode cL_law 815 = .ok (.iconst 0, 1) := by decide +kernel
theorem dL_law_816 : decode cL_law 816 = .ok (.ireturn, 1) := by decide +kernel
theorem dL_law_817 : decode cL_law 817 = .ok (.goto 957, 3) := by decide +kernel
theorem dL_law_820 : decode cL_law 820 = .ok (.aload_n 1, 1) := by decide +kernel
theorem dL_law_821 : decode cL_law 821 = .ok (.aload_n 0, 1) := by decide +kernel
theorem dL_law_822 : decode cL_law 822 = .ok (.iload 4, 2) := by decide +kernel
theorem dL_law_824 : decode cL_law 824 = .ok (.iconst 1, 1) := by decide +kernel
theorem dL_law_825 : decode cL_law 825 = .ok (.iadd, 1) := by decide +kernel
theorem dL_law_826 : decode cL_law 826 = .ok (.iaload, 1) := by decide +kernel
theorem dL_law_827 : decode cL_law 827 = .ok (.aload_n 3, 1) := by decide +kernel
theorem dL_law_828 : decode cL_law 828 = .ok (.invokestatic 133, 3) := by decide +kernel
theorem dL_law_831 : decode cL_law 831 = .ok (.istore 5, 2) := by decide +kernel
theorem dL_law_833 : decode cL_law 833 = .ok (.aload_n 2, 1) := by decide +kernel
theorem dL_law_834 : decode cL_law 834 = .ok (.aload_n 0, 1) := by decide +kernel
theorem dL_law_835 : decode cL_law 835 = .ok (.iload 4, 2) := by decide +kernel
theorem dL_law_837 : decode cL_law 837 = .ok (.iconst 1, 1) := by decide +kernel
theorem dL_law_838 : decode cL_law 838 = .ok (.iadd, 1) := by decide +kernel
theorem dL_law_839 : decode cL_law 839 = .ok (.iaload, 1) := by decide +kernel
theorem dL_law_840 : decode cL_law 840 = .ok (.invokevirtual 135, 3) := by decide +kernel
theorem dL_law_843 : decode cL_law 843 = .ok (.istore 6, 2) := by decide +kernel
theorem dL_law_845 : decode cL_law 845 = .ok (.aload_n 2, 1) := by decide +kernel
theorem dL_law_846 : decode cL_law 846 = .ok (.invokevirtual 99, 3) := by decide +kernel
theorem dL_law_849 : decode cL_law 849 = .ok (.iload 5, 2) := by decide +kernel
theorem dL_law_851 : decode cL_law 851 = .ok (.if_icmp .eq 5, 3) := by decide +kernel
theorem dL_law_854 : decode cL_law 854 = .ok (.iconst 0, 1) := by decide +kernel
theorem dL_law_855 : decode cL_law 855 = .ok (.ireturn, 1) := by decide +kernel
theorem dL_law_856 : decode cL_law 856 = .ok (.iload 5, 2) := by decide +kernel
theorem dL_law_858 : decode cL_law 858 = .ok (.ifCond .ne 15, 3) := by decide +kernel
theorem dL_law_861 : decode cL_law 861 = .ok (.aload_n 3, 1) := by decide +kernel
theorem dL_law_862 : decode cL_law 862 = .ok (.iconst 0, 1) := by decide +kernel
theorem dL_law_863 : decode cL_law 863 = .ok (.laload, 1) := by decide +kernel
theorem dL_law_864 : decode cL_law 864 = .ok (.iload 6, 2) := by decide +kernel
theorem dL_law_866 : decode cL_law 866 = .ok (.i2l, 1) := by decide +kernel
theorem dL_law_867 : decode cL_law 867 = .ok (.lcmp, 1) := by decide +kernel
theorem dL_law_868 : decode cL_law 868 = .ok (.ifCond .eq 5, 3) := by decide +kernel
theorem dL_law_871 : decode cL_law 871 = .ok (.iconst 0, 1) := by decide +kernel
theorem dL_law_872 : decode cL_law 872 = .ok (.ireturn, 1) := by decide +kernel
theorem dL_law_873 : decode cL_law 873 = .ok (.goto 901, 3) := by decide +kernel
theorem dL_law_876 : decode cL_law 876 = .ok (.aload_n 1, 1) := by decide +kernel
theorem dL_law_877 : decode cL_law 877 = .ok (.aload_n 0, 1) := by decide +kernel
theorem dL_law_878 : decode cL_law 878 = .ok (.iload 4, 2) := by decide +kernel
theorem dL_law_880 : decode cL_law 880 = .ok (.iconst 1, 1) := by decide +kernel
theorem dL_law_881 : decode cL_law 881 = .ok (.iadd, 1) := by decide +kernel
theorem dL_law_882 : decode cL_law 882 = .ok (.iaload, 1) := by decide +kernel
theorem dL_law_883 : decode cL_law 883 = .ok (.aload_n 3, 1) := by decide +kernel
theorem dL_law_884 : decode cL_law 884 = .ok (.invokestatic 136, 3) := by decide +kernel
theorem dL_law_887 : decode cL_law 887 = .ok (.istore 5, 2) := by decide +kernel
theorem dL_law_889 : decode cL_law 889 = .ok (.aload_n 2, 1) := by decide +kernel
theorem dL_law_890 : decode cL_law 890 = .ok (.aload_n 0, 1) := by decide +kernel
theorem dL_law_891 : decode cL_law 891 = .ok (.iload 4, 2) := by decide +kernel
theorem dL_law_893 : decode cL_law 893 = .ok (.iconst 1, 1) := by decide +kernel
theorem dL_law_894 : decode cL_law 894 = .ok (.iadd, 1) := by decide +kernel
theorem dL_law_895 : decode cL_law 895 = .ok (.iaload, 1) := by decide +kernel
theorem dL_law_896 : decode cL_law 896 = .ok (.invokevirtual 138, 3) := by decide +kernel
theorem dL_law_899 : decode cL_law 899 = .ok (.istore 6, 2) := by decide +kernel
theorem dL_law_901 : decode cL_law 901 = .ok (.aload_n 2, 1) := by decide +kernel
theorem dL_law_902 : decode cL_law 902 = .ok (.invokevirtual 99, 3) := by decide +kernel
theorem dL_law_905 : decode cL_law 905 = .ok (.iload 5, 2) := by decide +kernel
theorem dL_law_907 : decode cL_law 907 = .ok (.if_icmp .eq 5, 3) := by decide +kernel
theorem dL_law_910 : decode cL_law 910 = .ok (.iconst 0, 1) := by decide +kernel
theorem dL_law_911 : decode cL_law 911 = .ok (.ireturn, 1) := by decide +kernel
theorem dL_law_912 : decode cL_law 912 = .ok (.iload 5, 2) := by decide +kernel
theorem dL_law_914 : decode cL_law 914 = .ok (.ifCond .ne 15, 3) := by decide +kernel
theorem dL_law_917 : decode cL_law 917 = .ok (.aload_n 3, 1) := by decide +kernel
theorem dL_law_918 : decode cL_law 918 = .ok (.iconst 0, 1) := by decide +kernel
theorem dL_law_919 : decode cL_law 919 = .ok (.laload, 1) := by decide +kernel
theorem dL_law_920 : decode cL_law 920 = .ok (.iload 6, 2) := by decide +kernel
theorem dL_law_922 : decode cL_law 922 = .ok (.i2l, 1) := by decide +kernel
theorem dL_law_923 : decode cL_law 923 = .ok (.lcmp, 1) := by decide +kernel
theorem dL_law_924 : decode cL_law 924 = .ok (.ifCond .eq 5, 3) := by decide +kernel
theorem dL_law_927 : decode cL_law 927 = .ok (.iconst 0, 1) := by decide +kernel
theorem dL_law_928 : decode cL_law 928 = .ok (.ireturn, 1) := by decide +kernel
theorem dL_law_929 : decode cL_law 929 = .ok (.goto 845, 3) := by decide +kernel
theorem dL_law_932 : decode cL_law 932 = .ok (.aload_n 1, 1) := by decide +kernel
theorem dL_law_933 : decode cL_law 933 = .ok (.invokevirtual 139, 3) := by decide +kernel
theorem dL_law_936 : decode cL_law 936 = .ok (.aload_n 2, 1) := by decide +kernel
theorem dL_law_937 : decode cL_law 937 = .ok (.invokevirtual 142, 3) := by decide +kernel
theorem dL_law_940 : decode cL_law 940 = .ok (.if_icmp .eq 834, 3) := by decide +kernel
theorem dL_law_943 : decode cL_law 943 = .ok (.iconst 0, 1) := by decide +kernel
theorem dL_law_944 : decode cL_law 944 = .ok (.ireturn, 1) := by decide +kernel
theorem dL_law_945 : decode cL_law 945 = .ok (.aload_n 1, 1) := by decide +kernel
theorem dL_law_946 : decode cL_law 946 = .ok (.invokevirtual 143, 3) := by decide +kernel
theorem dL_law_949 : decode cL_law 949 = .ok (.aload_n 2, 1) := by decide +kernel
theorem dL_law_950 : decode cL_law 950 = .ok (.invokevirtual 146, 3) := by decide +kernel
theorem dL_law_953 : decode cL_law 953 = .ok (.if_icmp .eq 821, 3) := by decide +kernel
theorem dL_law_956 : decode cL_law 956 = .ok (.iconst 0, 1) := by decide +kernel
theorem dL_law_957 : decode cL_law 957 = .ok (.ireturn, 1) := by decide +kernel
theorem dL_law_958 : decode cL_law 958 = .ok (.aload_n 1, 1) := by decide +kernel
theorem dL_law_959 : decode cL_law 959 = .ok (.aload_n 3, 1) := by decide +kernel
theorem dL_law_960 : decode cL_law 960 = .ok (.invokestatic 147, 3) := by decide +kernel
theorem dL_law_963 : decode cL_law 963 = .ok (.istore 5, 2) := by decide +kernel
theorem dL_law_965 : decode cL_law 965 = .ok (.aload_n 2, 1) := by decide +kernel
theorem dL_law_966 : decode cL_law 966 = .ok (.invokevirtual 149, 3) := by decide +kernel
theorem dL_law_969 : decode cL_law 969 = .ok (.istore 6, 2) := by decide +kernel
theorem dL_law_971 : decode cL_law 971 = .ok (.aload_n 2, 1) := by decide +kernel
theorem dL_law_972 : decode cL_law 972 = .ok (.invokevirtual 99, 3) := by decide +kernel
theorem dL_law_975 : decode cL_law 975 = .ok (.iload 5, 2) := by decide +kernel
theorem dL_law_977 : decode cL_law 977 = .ok (.if_icmp .eq 5, 3) := by decide +kernel
theorem dL_law_980 : decode cL_law 980 = .ok (.iconst 0, 1) := by decide +kernel
theorem dL_law_981 : decode cL_law 981 = .ok (.ireturn, 1) := by decide +kernel
theorem dL_law_982 : decode cL_law 982 = .ok (.iload 5, 2) := by decide +kernel
theorem dL_law_984 : decode cL_law 984 = .ok (.ifCond .ne 15, 3) := by decide +kernel
theorem dL_law_987 : decode cL_law 987 = .ok (.aload_n 3, 1) := by decide +kernel
theorem dL_law_988 : decode cL_law 988 = .ok (.iconst 0, 1) := by decide +kernel
theorem dL_law_989 : decode cL_law 989 = .ok (.laload, 1) := by decide +kernel
theorem dL_law_990 : decode cL_law 990 = .ok (.iload 6, 2) := by decide +kernel
theorem dL_law_992 : decode cL_law 992 = .ok (.i2l, 1) := by decide +kernel
theorem dL_law_993 : decode cL_law 993 = .ok (.lcmp, 1) := by decide +kernel
theorem dL_law_994 : decode cL_law 994 = .ok (.ifCond .eq 5, 3) := by decide +kernel
theorem dL_law_997 : decode cL_law 997 = .ok (.iconst 0, 1) := by decide +kernel
theorem dL_law_998 : decode cL_law 998 = .ok (.ireturn, 1) := by decide +kernel
theorem dL_law_999 : decode cL_law 999 = .ok (.goto 775, 3) := by decide +kernel
theorem dL_law_1002 : decode cL_law 1002 = .ok (.aload_n 1, 1) := by decide +kernel
theorem dL_law_1003 : decode cL_law 1003 = .ok (.aload_n 3, 1) := by decide +kernel
theorem dL_law_1004 : decode cL_law 1004 = .ok (.invokestatic 150, 3) := by decide +kernel
theorem dL_law_1007 : decode cL_law 1007 = .ok (.istore 5, 2) := by decide +kernel
theorem dL_law_1009 : decode cL_law 1009 = .ok (.aload_n 2, 1) := by decide +kernel
theorem dL_law_1010 : decode cL_law 1010 = .ok (.invokevirtual 152, 3) := by decide +kernel
theorem dL_law_1013 : decode cL_law 1013 = .ok (.istore 6, 2) := by decide +kernel
theorem dL_law_1015 : decode cL_law 1015 = .ok (.aload_n 2, 1) := by decide +kernel
theorem dL_law_1016 : decode cL_law 1016 = .ok (.invokevirtual 99, 3) := by decide +kernel
theorem dL_law_1019 : decode cL_law 1019 = .ok (.iload 5, 2) := by decide +kernel
theorem dL_law_1021 : decode cL_law 1021 = .ok (.if_icmp .eq 5, 3) := by decide +kernel
theorem dL_law_1024 : decode cL_law 1024 = .ok (.iconst 0, 1) := by decide +kernel
theorem dL_law_1025 : decode cL_law 1025 = .ok (.ireturn, 1) := by decide +kernel
theorem dL_law_1026 : decode cL_law 1026 = .ok (.iload 5, 2) := by decide +kernel
theorem dL_law_1028 : decode cL_law 1028 = .ok (.ifCond .ne 15, 3) := by decide +kernel
theorem dL_law_1031 : decode cL_law 1031 = .ok (.aload_n 3, 1) := by decide +kernel
theorem dL_law_1032 : decode cL_law 1032 = .ok (.iconst 0, 1) := by decide +kernel
theorem dL_law_1033 : decode cL_law 1033 = .ok (.laload, 1) := by decide +kernel
theorem dL_law_1034 : decode cL_law 1034 = .ok (.iload 6, 2) := by decide +kernel
theorem dL_law_1036 : decode cL_law 1036 = .ok (.i2l, 1) := by decide +kernel
theorem dL_law_1037 : decode cL_law 1037 = .ok (.lcmp, 1) := by decide +kernel
theorem dL_law_1038 : decode cL_law 1038 = .ok (.ifCond .eq 5, 3) := by decide +kernel
theorem dL_law_1041 : decode cL_law 1041 = .ok (.iconst 0, 1) := by decide +kernel
theorem dL_law_1042 : decode cL_law 1042 = .ok (.ireturn, 1) := by decide +kernel
theorem dL_law_1043 : decode cL_law 1043 = .ok (.goto 731, 3) := by decide +kernel
theorem dL_law_1046 : decode cL_law 1046 = .ok (.aload_n 1, 1) := by decide +kernel
theorem dL_law_1047 : decode cL_law 1047 = .ok (.aload_n 0, 1) := by decide +kernel
theorem dL_law_1048 : decode cL_law 1048 = .ok (.iload 4, 2) := by decide +kernel
theorem dL_law_1050 : decode cL_law 1050 = .ok (.iconst 1, 1) := by decide +kernel
theorem dL_law_1051 : decode cL_law 1051 = .ok (.iadd, 1) := by decide +kernel
theorem dL_law_1052 : decode cL_law 1052 = .ok (.iaload, 1) := by decide +kernel
theorem dL_law_1053 : decode cL_law 1053 = .ok (.aload_n 0, 1) := by decide +kernel
theorem dL_law_1054 : decode cL_law 1054 = .ok (.iload 4, 2) := by decide +kernel
theorem dL_law_1056 : decode cL_law 1056 = .ok (.iconst 2, 1) := by decide +kernel
theorem dL_law_1057 : decode cL_law 1057 = .ok (.iadd, 1) := by decide +kernel
theorem dL_law_1058 : decode cL_law 1058 = .ok (.iaload, 1) := by decide +kernel
theorem dL_law_1059 : decode cL_law 1059 = .ok (.aload_n 0, 1) := by decide +kernel
theorem dL_law_1060 : decode cL_law 1060 = .ok (.iload 4, 2) := by decide +kernel
theorem dL_law_1062 : decode cL_law 1062 = .ok (.iconst 3, 1) := by decide +kernel
theorem dL_law_1063 : decode cL_law 1063 = .ok (.iadd, 1) := by decide +kernel
theorem dL_law_1064 : decode cL_law 1064 = .ok (.iaload, 1) := by decide +kernel
theorem dL_law_1065 : decode cL_law 1065 = .ok (.aload_n 3, 1) := by decide +kernel
theorem dL_law_1066 : decode cL_law 1066 = .ok (.invokestatic 153, 3) := by decide +kernel
theorem dL_law_1069 : decode cL_law 1069 = .ok (.istore 5, 2) := by decide +kernel
theorem dL_law_1071 : decode cL_law 1071 = .ok (.aload_n 2, 1) := by decide +kernel
theorem dL_law_1072 : decode cL_law 1072 = .ok (.aload_n 0, 1) := by decide +kernel
theorem dL_law_1073 : decode cL_law 1073 = .ok (.iload 4, 2) := by decide +kernel
theorem dL_law_1075 : decode cL_law 1075 = .ok (.iconst 1, 1) := by decide +kernel
theorem dL_law_1076 : decode cL_law 1076 = .ok (.iadd, 1) := by decide +kernel
theorem dL_law_1077 : decode cL_law 1077 = .ok (.iaload, 1) := by decide +kernel
theorem dL_law_1078 : decode cL_law 1078 = .ok (.aload_n 0, 1) := by decide +kernel
theorem dL_law_1079 : decode cL_law 1079 = .ok (.iload 4, 2) := by decide +kernel
theorem dL_law_1081 : decode cL_law 1081 = .ok (.iconst 2, 1) := by decide +kernel
theorem dL_law_1082 : decode cL_law 1082 = .ok (.iadd, 1) := by decide +kernel
theorem dL_law_1083 : decode cL_law 1083 = .ok (.iaload, 1) := by decide +kernel
theorem dL_law_1084 : decode cL_law 1084 = .ok (.aload_n 0, 1) := by decide +kernel
theorem dL_law_1085 : decode cL_law 1085 = .ok (.iload 4, 2) := by decide +kernel
theorem dL_law_1087 : decode cL_law 1087 = .ok (.iconst 3, 1) := by decide +kernel
theorem dL_law_1088 : decode cL_law 1088 = .ok (.iadd, 1) := by decide +kernel
theorem dL_law_1089 : decode cL_law 1089 = .ok (.iaload, 1) := by decide +kernel
theorem dL_law_1090 : decode cL_law 1090 = .ok (.invokevirtual 155, 3) := by decide +kernel
theorem dL_law_1093 : decode cL_law 1093 = .ok (.istore 6, 2) := by decide +kernel
theorem dL_law_1095 : decode cL_law 1095 = .ok (.aload_n 2, 1) := by decide +kernel
theorem dL_law_1096 : decode cL_law 1096 = .ok (.invokevirtual 99, 3) := by decide +kernel
theorem dL_law_1099 : decode cL_law 1099 = .ok (.iload 5, 2) := by decide +kernel
theorem dL_law_1101 : decode cL_law 1101 = .ok (.if_icmp .eq 5, 3) := by decide +kernel
theorem dL_law_1104 : decode cL_law 1104 = .ok (.iconst 0, 1) := by decide +kernel
theorem dL_law_1105 : decode cL_law 1105 = .ok (.ireturn, 1) := by decide +kernel
theorem dL_law_1106 : decode cL_law 1106 = .ok (.iload 5, 2) := by decide +kernel
theorem dL_law_1108 : decode cL_law 1108 = .ok (.ifCond .ne 15, 3) := by decide +kernel
theorem dL_law_1111 : decode cL_law 1111 = .ok (.aload_n 3, 1) := by decide +kernel
theorem dL_law_1112 : decode cL_law 1112 = .ok (.iconst 0, 1) := by decide +kernel
theorem dL_law_1113 : decode cL_law 1113 = .ok (.laload, 1) := by decide +kernel
theorem dL_law_1114 : decode cL_law 1114 = .ok (.iload 6, 2) := by decide +kernel
theorem dL_law_1116 : decode cL_law 1116 = .ok (.i2l, 1) := by decide +kernel
theorem dL_law_1117 : decode cL_law 1117 = .ok (.lcmp, 1) := by decide +kernel
theorem dL_law_1118 : decode cL_law 1118 = .ok (.ifCond .eq 5, 3) := by decide +kernel
theorem dL_law_1121 : decode cL_law 1121 = .ok (.iconst 0, 1) := by decide +kernel
theorem dL_law_1122 : decode cL_law 1122 = .ok (.ireturn, 1) := by decide +kernel
theorem dL_law_1123 : decode cL_law 1123 = .ok (.goto 651, 3) := by decide +kernel
theorem dL_law_1126 : decode cL_law 1126 = .ok (.aload_n 1, 1) := by decide +kernel
theorem dL_law_1127 : decode cL_law 1127 = .ok (.aload_n 0, 1) := by decide +kernel
theorem dL_law_1128 : decode cL_law 1128 = .ok (.iload 4, 2) := by decide +kernel
theorem dL_law_1130 : decode cL_law 1130 = .ok (.iconst 1, 1) := by decide +kernel
theorem dL_law_1131 : decode cL_law 1131 = .ok (.iadd, 1) := by decide +kernel
theorem dL_law_1132 : decode cL_law 1132 = .ok (.iaload, 1) := by decide +kernel
theorem dL_law_1133 : decode cL_law 1133 = .ok (.aload_n 0, 1) := by decide +kernel
theorem dL_law_1134 : decode cL_law 1134 = .ok (.iload 4, 2) := by decide +kernel
theorem dL_law_1136 : decode cL_law 1136 = .ok (.iconst 2, 1) := by decide +kernel
theorem dL_law_1137 : decode cL_law 1137 = .ok (.iadd, 1) := by decide +kernel
theorem dL_law_1138 : decode cL_law 1138 = .ok (.iaload, 1) := by decide +kernel
theorem dL_law_1139 : decode cL_law 1139 = .ok (.aload_n 0, 1) := by decide +kernel
theorem dL_law_1140 : decode cL_law 1140 = .ok (.iload 4, 2) := by decide +kernel
theorem dL_law_1142 : decode cL_law 1142 = .ok (.iconst 3, 1) := by decide +kernel
theorem dL_law_1143 : decode cL_law 1143 = .ok (.iadd, 1) := by decide +kernel
theorem dL_law_1144 : decode cL_law 1144 = .ok (.iaload, 1) := by decide +kernel
theorem dL_law_1145 : decode cL_law 1145 = .ok (.aload_n 3, 1) := by decide +kernel
theorem dL_law_1146 : decode cL_law 1146 = .ok (.invokestatic 156, 3) := by decide +kernel
theorem dL_law_1149 : decode cL_law 1149 = .ok (.istore 5, 2) := by decide +kernel
theorem dL_law_1151 : decode cL_law 1151 = .ok (.aload_n 2, 1) := by decide +kernel
theorem dL_law_1152 : decode cL_law 1152 = .ok (.aload_n 0, 1) := by decide +kernel
theorem dL_law_1153 : decode cL_law 1153 = .ok (.iload 4, 2) := by decide +kernel
theorem dL_law_1155 : decode cL_law 1155 = .ok (.iconst 1, 1) := by decide +kernel
theorem dL_law_1156 : decode cL_law 1156 = .ok (.iadd, 1) := by decide +kernel
theorem dL_law_1157 : decode cL_law 1157 = .ok (.iaload, 1) := by decide +kernel
theorem dL_law_1158 : decode cL_law 1158 = .ok (.aload_n 0, 1) := by decide +kernel
theorem dL_law_1159 : decode cL_law 1159 = .ok (.iload 4, 2) := by decide +kernel
theorem dL_law_1161 : decode cL_law 1161 = .ok (.iconst 2, 1) := by decide +kernel
theorem dL_law_1162 : decode cL_law 1162 = .ok (.iadd, 1) := by decide +kernel
theorem dL_law_1163 : decode cL_law 1163 = .ok (.iaload, 1) := by decide +kernel
theorem dL_law_1164 : decode cL_law 1164 = .ok (.aload_n 0, 1) := by decide +kernel
theorem dL_law_1165 : decode cL_law 1165 = .ok (.iload 4, 2) := by decide +kernel
theorem dL_law_1167 : decode cL_law 1167 = .ok (.iconst 3, 1) := by decide +kernel
theorem dL_law_1168 : decode cL_law 1168 = .ok (.iadd, 1) := by decide +kernel
theorem dL_law_1169 : decode cL_law 1169 = .ok (.iaload, 1) := by decide +kernel
theorem dL_law_1170 : decode cL_law 1170 = .ok (.invokevirtual 158, 3) := by decide +kernel
theorem dL_law_1173 : decode cL_law 1173 = .ok (.istore 6, 2) := by decide +kernel
theorem dL_law_1175 : decode cL_law 1175 = .ok (.aload_n 2, 1) := by decide +kernel
theorem dL_law_1176 : decode cL_law 1176 = .ok (.invokevirtual 99, 3) := by decide +kernel
theorem dL_law_1179 : decode cL_law 1179 = .ok (.iload 5, 2) := by decide +kernel
theorem dL_law_1181 : decode cL_law 1181 = .ok (.if_icmp .eq 5, 3) := by decide +kernel
theorem dL_law_1184 : decode cL_law 1184 = .ok (.iconst 0, 1) := by decide +kernel
theorem dL_law_1185 : decode cL_law 1185 = .ok (.ireturn, 1) := by decide +kernel
theorem dL_law_1186 : decode cL_law 1186 = .ok (.iload 5, 2) := by decide +kernel
theorem dL_law_1188 : decode cL_law 1188 = .ok (.ifCond .ne 15, 3) := by decide +kernel
theorem dL_law_1191 : decode cL_law 1191 = .ok (.aload_n 3, 1) := by decide +kernel
theorem dL_law_1192 : decode cL_law 1192 = .ok (.iconst 0, 1) := by decide +kernel
theorem dL_law_1193 : decode cL_law 1193 = .ok (.laload, 1) := by decide +kernel
theorem dL_law_1194 : decode cL_law 1194 = .ok (.iload 6, 2) := by decide +kernel
theorem dL_law_1196 : decode cL_law 1196 = .ok (.i2l, 1) := by decide +kernel
theorem dL_law_1197 : decode cL_law 1197 = .ok (.lcmp, 1) := by decide +kernel
theorem dL_law_1198 : decode cL_law 1198 = .ok (.ifCond .eq 5, 3) := by decide +kernel
theorem dL_law_1201 : decode cL_law 1201 = .ok (.iconst 0, 1) := by decide +kernel
theorem dL_law_1202 : decode cL_law 1202 = .ok (.ireturn, 1) := by decide +kernel
theorem dL_law_1203 : decode cL_law 1203 = .ok (.goto 571, 3) := by decide +kernel
theorem dL_law_1206 : decode cL_law 1206 = .ok (.aload_n 1, 1) := by decide +kernel
theorem dL_law_1207 : decode cL_law 1207 = .ok (.aload_n 0, 1) := by decide +kernel
theorem dL_law_1208 : decode cL_law 1208 = .ok (.iload 4, 2) := by decide +kernel
theorem dL_law_1210 : decode cL_law 1210 = .ok (.iconst 1, 1) := by decide +kernel
theorem dL_law_1211 : decode cL_law 1211 = .ok (.iadd, 1) := by decide +kernel
theorem dL_law_1212 : decode cL_law 1212 = .ok (.iaload, 1) := by decide +kernel
theorem dL_law_1213 : decode cL_law 1213 = .ok (.aload_n 0, 1) := by decide +kernel
theorem dL_law_1214 : decode cL_law 1214 = .ok (.iload 4, 2) := by decide +kernel
theorem dL_law_1216 : decode cL_law 1216 = .ok (.iconst 2, 1) := by decide +kernel
theorem dL_law_1217 : decode cL_law 1217 = .ok (.iadd, 1) := by decide +kernel
theorem dL_law_1218 : decode cL_law 1218 = .ok (.iaload, 1) := by decide +kernel
theorem dL_law_1219 : decode cL_law 1219 = .ok (.aload_n 0, 1) := by decide +kernel
theorem dL_law_1220 : decode cL_law 1220 = .ok (.iload 4, 2) := by decide +kernel
theorem dL_law_1222 : decode cL_law 1222 = .ok (.iconst 3, 1) := by decide +kernel
theorem dL_law_1223 : decode cL_law 1223 = .ok (.iadd, 1) := by decide +kernel
theorem dL_law_1224 : decode cL_law 1224 = .ok (.iaload, 1) := by decide +kernel
theorem dL_law_1225 : decode cL_law 1225 = .ok (.aload_n 3, 1) := by decide +kernel
theorem dL_law_1226 : decode cL_law 1226 = .ok (.invokestatic 159, 3) := by decide +kernel
theorem dL_law_1229 : decode cL_law 1229 = .ok (.istore 5, 2) := by decide +kernel
theorem dL_law_1231 : decode cL_law 1231 = .ok (.aload_n 2, 1) := by decide +kernel
theorem dL_law_1232 : decode cL_law 1232 = .ok (.aload_n 0, 1) := by decide +kernel
theorem dL_law_1233 : decode cL_law 1233 = .ok (.iload 4, 2) := by decide +kernel
theorem dL_law_1235 : decode cL_law 1235 = .ok (.iconst 1, 1) := by decide +kernel
theorem dL_law_1236 : decode cL_law 1236 = .ok (.iadd, 1) := by decide +kernel
theorem dL_law_1237 : decode cL_law 1237 = .ok (.iaload, 1) := by decide +kernel
theorem dL_law_1238 : decode cL_law 1238 = .ok (.aload_n 0, 1) := by decide +kernel
theorem dL_law_1239 : decode cL_law 1239 = .ok (.iload 4, 2) := by decide +kernel
theorem dL_law_1241 : decode cL_law 1241 = .ok (.iconst 2, 1) := by decide +kernel
theorem dL_law_1242 : decode cL_law 1242 = .ok (.iadd, 1) := by decide +kernel
theorem dL_law_1243 : decode cL_law 1243 = .ok (.iaload, 1) := by decide +kernel
theorem dL_law_1244 : decode cL_law 1244 = .ok (.aload_n 0, 1) := by decide +kernel
theorem dL_law_1245 : decode cL_law 1245 = .ok (.iload 4, 2) := by decide +kernel
theorem dL_law_1247 : decode cL_law 1247 = .ok (.iconst 3, 1) := by decide +kernel
theorem dL_law_1248 : decode cL_law 1248 = .ok (.iadd, 1) := by decide +kernel
theorem dL_law_1249 : decode cL_law 1249 = .ok (.iaload, 1) := by decide +kernel
theorem dL_law_1250 : decode cL_law 1250 = .ok (.invokevirtual 161, 3) := by decide +kernel
theorem dL_law_1253 : decode cL_law 1253 = .ok (.istore 6, 2) := by decide +kernel
theorem dL_law_1255 : decode cL_law 1255 = .ok (.aload_n 2, 1) := by decide +kernel
theorem dL_law_1256 : decode cL_law 1256 = .ok (.invokevirtual 99, 3) := by decide +kernel
theorem dL_law_1259 : decode cL_law 1259 = .ok (.iload 5, 2) := by decide +kernel
theorem dL_law_1261 : decode cL_law 1261 = .ok (.if_icmp .eq 5, 3) := by decide +kernel
theorem dL_law_1264 : decode cL_law 1264 = .ok (.iconst 0, 1) := by decide +kernel
theorem dL_law_1265 : decode cL_law 1265 = .ok (.ireturn, 1) := by decide +kernel
theorem dL_law_1266 : decode cL_law 1266 = .ok (.iload 5, 2) := by decide +kernel
theorem dL_law_1268 : decode cL_law 1268 = .ok (.ifCond .ne 15, 3) := by decide +kernel
theorem dL_law_1271 : decode cL_law 1271 = .ok (.aload_n 3, 1) := by decide +kernel
theorem dL_law_1272 : decode cL_law 1272 = .ok (.iconst 0, 1) := by decide +kernel
theorem dL_law_1273 : decode cL_law 1273 = .ok (.laload, 1) := by decide +kernel
theorem dL_law_1274 : decode cL_law 1274 = .ok (.iload 6, 2) := by decide +kernel
theorem dL_law_1276 : decode cL_law 1276 = .ok (.i2l, 1) := by decide +kernel
theorem dL_law_1277 : decode cL_law 1277 = .ok (.lcmp, 1) := by decide +kernel
theorem dL_law_1278 : decode cL_law 1278 = .ok (.ifCond .eq 5, 3) := by decide +kernel
theorem dL_law_1281 : decode cL_law 1281 = .ok (.iconst 0, 1) := by decide +kernel
theorem dL_law_1282 : decode cL_law 1282 = .ok (.ireturn, 1) := by decide +kernel
theorem dL_law_1283 : decode cL_law 1283 = .ok (.goto 491, 3) := by decide +kernel
theorem dL_law_1286 : decode cL_law 1286 = .ok (.aload_n 1, 1) := by decide +kernel
theorem dL_law_1287 : decode cL_law 1287 = .ok (.aload_n 0, 1) := by decide +kernel
theorem dL_law_1288 : decode cL_law 1288 = .ok (.iload 4, 2) := by decide +kernel
theorem dL_law_1290 : decode cL_law 1290 = .ok (.iconst 1, 1) := by decide +kernel
theorem dL_law_1291 : decode cL_law 1291 = .ok (.iadd, 1) := by decide +kernel
theorem dL_law_1292 : decode cL_law 1292 = .ok (.iaload, 1) := by decide +kernel
theorem dL_law_1293 : decode cL_law 1293 = .ok (.aload_n 0, 1) := by decide +kernel
theorem dL_law_1294 : decode cL_law 1294 = .ok (.iload 4, 2) := by decide +kernel
theorem dL_law_1296 : decode cL_law 1296 = .ok (.iconst 2, 1) := by decide +kernel
theorem dL_law_1297 : decode cL_law 1297 = .ok (.iadd, 1) := by decide +kernel
theorem dL_law_1298 : decode cL_law 1298 = .ok (.iaload, 1) := by decide +kernel
theorem dL_law_1299 : decode cL_law 1299 = .ok (.aload_n 3, 1) := by decide +kernel
theorem dL_law_1300 : decode cL_law 1300 = .ok (.invokestatic 162, 3) := by decide +kernel
theorem dL_law_1303 : decode cL_law 1303 = .ok (.istore 5, 2) := by decide +kernel
theorem dL_law_1305 : decode cL_law 1305 = .ok (.aload_n 2, 1) := by decide +kernel
theorem dL_law_1306 : decode cL_law 1306 = .ok (.aload_n 0, 1) := by decide +kernel
theorem dL_law_1307 : decode cL_law 1307 = .ok (.iload 4, 2) := by decide +kernel
theorem dL_law_1309 : decode cL_law 1309 = .ok (.iconst 1, 1) := by decide +kernel
theorem dL_law_1310 : decode cL_law 1310 = .ok (.iadd, 1) := by decide +kernel
theorem dL_law_1311 : decode cL_law 1311 = .ok (.iaload, 1) := by decide +kernel
theorem dL_law_1312 : decode cL_law 1312 = .ok (.aload_n 0, 1) := by decide +kernel
theorem dL_law_1313 : decode cL_law 1313 = .ok (.iload 4, 2) := by decide +kernel
theorem dL_law_1315 : decode cL_law 1315 = .ok (.iconst 2, 1) := by decide +kernel
theorem dL_law_1316 : decode cL_law 1316 = .ok (.iadd, 1) := by decide +kernel
theorem dL_law_1317 : decode cL_law 1317 = .ok (.iaload, 1) := by decide +kernel
theorem dL_law_1318 : decode cL_law 1318 = .ok (.invokevirtual 164, 3) := by decide +kernel
theorem dL_law_1321 : decode cL_law 1321 = .ok (.istore 6, 2) := by decide +kernel
theorem dL_law_1323 : decode cL_law 1323 = .ok (.aload_n 2, 1) := by decide +kernel
theorem dL_law_1324 : decode cL_law 1324 = .ok (.invokevirtual 99, 3) := by decide +kernel
theorem dL_law_1327 : decode cL_law 1327 = .ok (.iload 5, 2) := by decide +kernel
theorem dL_law_1329 : decode cL_law 1329 = .ok (.if_icmp .eq 5, 3) := by decide +kernel
theorem dL_law_1332 : decode cL_law 1332 = .ok (.iconst 0, 1) := by decide +kernel
theorem dL_law_1333 : decode cL_law 1333 = .ok (.ireturn, 1) := by decide +kernel
theorem dL_law_1334 : decode cL_law 1334 = .ok (.iload 5, 2) := by decide +kernel
theorem dL_law_1336 : decode cL_law 1336 = .ok (.ifCond .ne 15, 3) := by decide +kernel
theorem dL_law_1339 : decode cL_law 1339 = .ok (.aload_n 3, 1) := by decide +kernel
theorem dL_law_1340 : decode cL_law 1340 = .ok (.iconst 0, 1) := by decide +kernel
theorem dL_law_1341 : decode cL_law 1341 = .ok (.laload, 1) := by decide +kernel
theorem dL_law_1342 : decode cL_law 1342 = .ok (.iload 6, 2) := by decide +kernel
theorem dL_law_1344 : decode cL_law 1344 = .ok (.i2l, 1) := by decide +kernel
theorem dL_law_1345 : decode cL_law 1345 = .ok (.lcmp, 1) := by decide +kernel
theorem dL_law_1346 : decode cL_law 1346 = .ok (.ifCond .eq 5, 3) := by decide +kernel
theorem dL_law_1349 : decode cL_law 1349 = .ok (.iconst 0, 1) := by decide +kernel
theorem dL_law_1350 : decode cL_law 1350 = .ok (.ireturn, 1) := by decide +kernel
theorem dL_law_1351 : decode cL_law 1351 = .ok (.goto 423, 3) := by decide +kernel
theorem dL_law_1354 : decode cL_law 1354 = .ok (.aload_n 1, 1) := by decide +kernel
theorem dL_law_1355 : decode cL_law 1355 = .ok (.aload_n 0, 1) := by decide +kernel
theorem dL_law_1356 : decode cL_law 1356 = .ok (.iload 4, 2) := by decide +kernel
theorem dL_law_1358 : decode cL_law 1358 = .ok (.iconst 1, 1) := by decide +kernel
theorem dL_law_1359 : decode cL_law 1359 = .ok (.iadd, 1) := by decide +kernel
theorem dL_law_1360 : decode cL_law 1360 = .ok (.iaload, 1) := by decide +kernel
theorem dL_law_1361 : decode cL_law 1361 = .ok (.aload_n 0, 1) := by decide +kernel
theorem dL_law_1362 : decode cL_law 1362 = .ok (.iload 4, 2) := by decide +kernel
theorem dL_law_1364 : decode cL_law 1364 = .ok (.iconst 2, 1) := by decide +kernel
theorem dL_law_1365 : decode cL_law 1365 = .ok (.iadd, 1) := by decide +kernel
theorem dL_law_1366 : decode cL_law 1366 = .ok (.iaload, 1) := by decide +kernel
theorem dL_law_1367 : decode cL_law 1367 = .ok (.aload_n 3, 1) := by decide +kernel
theorem dL_law_1368 : decode cL_law 1368 = .ok (.invokestatic 165, 3) := by decide +kernel
theorem dL_law_1371 : decode cL_law 1371 = .ok (.istore 5, 2) := by decide +kernel
theorem dL_law_1373 : decode cL_law 1373 = .ok (.aload_n 2, 1) := by decide +kernel
theorem dL_law_1374 : decode cL_law 1374 = .ok (.aload_n 0, 1) := by decide +kernel
theorem dL_law_1375 : decode cL_law 1375 = .ok (.iload 4, 2) := by decide +kernel
theorem dL_law_1377 : decode cL_law 1377 = .ok (.iconst 1, 1) := by decide +kernel
theorem dL_law_1378 : decode cL_law 1378 = .ok (.iadd, 1) := by decide +kernel
theorem dL_law_1379 : decode cL_law 1379 = .ok (.iaload, 1) := by decide +kernel
theorem dL_law_1380 : decode cL_law 1380 = .ok (.aload_n 0, 1) := by decide +kernel
theorem dL_law_1381 : decode cL_law 1381 = .ok (.iload 4, 2) := by decide +kernel
theorem dL_law_1383 : decode cL_law 1383 = .ok (.iconst 2, 1) := by decide +kernel
theorem dL_law_1384 : decode cL_law 1384 = .ok (.iadd, 1) := by decide +kernel
theorem dL_law_1385 : decode cL_law 1385 = .ok (.iaload, 1) := by decide +kernel
theorem dL_law_1386 : decode cL_law 1386 = .ok (.invokevirtual 167, 3) := by decide +kernel
theorem dL_law_1389 : decode cL_law 1389 = .ok (.istore 6, 2) := by decide +kernel
theorem dL_law_1391 : decode cL_law 1391 = .ok (.aload_n 2, 1) := by decide +kernel
theorem dL_law_1392 : decode cL_law 1392 = .ok (.invokevirtual 99, 3) := by decide +kernel
theorem dL_law_1395 : decode cL_law 1395 = .ok (.iload 5, 2) := by decide +kernel
theorem dL_law_1397 : decode cL_law 1397 = .ok (.if_icmp .eq 5, 3) := by decide +kernel
theorem dL_law_1400 : decode cL_law 1400 = .ok (.iconst 0, 1) := by decide +kernel
theorem dL_law_1401 : decode cL_law 1401 = .ok (.ireturn, 1) := by decide +kernel
theorem dL_law_1402 : decode cL_law 1402 = .ok (.iload 5, 2) := by decide +kernel
theorem dL_law_1404 : decode cL_law 1404 = .ok (.ifCond .ne 15, 3) := by decide +kernel
theorem dL_law_1407 : decode cL_law 1407 = .ok (.aload_n 3, 1) := by decide +kernel
theorem dL_law_1408 : decode cL_law 1408 = .ok (.iconst 0, 1) := by decide +kernel
theorem dL_law_1409 : decode cL_law 1409 = .ok (.laload, 1) := by decide +kernel
theorem dL_law_1410 : decode cL_law 1410 = .ok (.iload 6, 2) := by decide +kernel
theorem dL_law_1412 : decode cL_law 1412 = .ok (.i2l, 1) := by decide +kernel
theorem dL_law_1413 : decode cL_law 1413 = .ok (.lcmp, 1) := by decide +kernel
theorem dL_law_1414 : decode cL_law 1414 = .ok (.ifCond .eq 5, 3) := by decide +kernel
theorem dL_law_1417 : decode cL_law 1417 = .ok (.iconst 0, 1) := by decide +kernel
theorem dL_law_1418 : decode cL_law 1418 = .ok (.ireturn, 1) := by decide +kernel
theorem dL_law_1419 : decode cL_law 1419 = .ok (.goto 355, 3) := by decide +kernel
theorem dL_law_1422 : decode cL_law 1422 = .ok (.aload_n 1, 1) := by decide +kernel
theorem dL_law_1423 : decode cL_law 1423 = .ok (.aload_n 0, 1) := by decide +kernel
theorem dL_law_1424 : decode cL_law 1424 = .ok (.iload 4, 2) := by decide +kernel
theorem dL_law_1426 : decode cL_law 1426 = .ok (.iconst 1, 1) := by decide +kernel
theorem dL_law_1427 : decode cL_law 1427 = .ok (.iadd, 1) := by decide +kernel
theorem dL_law_1428 : decode cL_law 1428 = .ok (.iaload, 1) := by decide +kernel
theorem dL_law_1429 : decode cL_law 1429 = .ok (.aload_n 3, 1) := by decide +kernel
theorem dL_law_1430 : decode cL_law 1430 = .ok (.invokestatic 168, 3) := by decide +kernel
theorem dL_law_1433 : decode cL_law 1433 = .ok (.istore 5, 2) := by decide +kernel
theorem dL_law_1435 : decode cL_law 1435 = .ok (.aload_n 2, 1) := by decide +kernel
theorem dL_law_1436 : decode cL_law 1436 = .ok (.aload_n 0, 1) := by decide +kernel
theorem dL_law_1437 : decode cL_law 1437 = .ok (.iload 4, 2) := by decide +kernel
theorem dL_law_1439 : decode cL_law 1439 = .ok (.iconst 1, 1) := by decide +kernel
theorem dL_law_1440 : decode cL_law 1440 = .ok (.iadd, 1) := by decide +kernel
theorem dL_law_1441 : decode cL_law 1441 = .ok (.iaload, 1) := by decide +kernel
theorem dL_law_1442 : decode cL_law 1442 = .ok (.invokevirtual 170, 3) := by decide +kernel
theorem dL_law_1445 : decode cL_law 1445 = .ok (.istore 6, 2) := by decide +kernel
theorem dL_law_1447 : decode cL_law 1447 = .ok (.aload_n 2, 1) := by decide +kernel
theorem dL_law_1448 : decode cL_law 1448 = .ok (.invokevirtual 99, 3) := by decide +kernel
theorem dL_law_1451 : decode cL_law 1451 = .ok (.iload 5, 2) := by decide +kernel
theorem dL_law_1453 : decode cL_law 1453 = .ok (.if_icmp .eq 5, 3) := by decide +kernel
theorem dL_law_1456 : decode cL_law 1456 = .ok (.iconst 0, 1) := by decide +kernel
theorem dL_law_1457 : decode cL_law 1457 = .ok (.ireturn, 1) := by decide +kernel
theorem dL_law_1458 : decode cL_law 1458 = .ok (.iload 5, 2) := by decide +kernel
theorem dL_law_1460 : decode cL_law 1460 = .ok (.ifCond .ne 15, 3) := by decide +kernel
theorem dL_law_1463 : decode cL_law 1463 = .ok (.aload_n 3, 1) := by decide +kernel
theorem dL_law_1464 : decode cL_law 1464 = .ok (.iconst 0, 1) := by decide +kernel
theorem dL_law_1465 : decode cL_law 1465 = .ok (.laload, 1) := by decide +kernel
theorem dL_law_1466 : decode cL_law 1466 = .ok (.iload 6, 2) := by decide +kernel
theorem dL_law_1468 : decode cL_law 1468 = .ok (.i2l, 1) := by decide +kernel
theorem dL_law_1469 : decode cL_law 1469 = .ok (.lcmp, 1) := by decide +kernel
theorem dL_law_1470 : decode cL_law 1470 = .ok (.ifCond .eq 5, 3) := by decide +kernel
theorem dL_law_1473 : decode cL_law 1473 = .ok (.iconst 0, 1) := by decide +kernel
theorem dL_law_1474 : decode cL_law 1474 = .ok (.ireturn, 1) := by decide +kernel
theorem dL_law_1475 : decode cL_law 1475 = .ok (.goto 299, 3) := by decide +kernel
theorem dL_law_1478 : decode cL_law 1478 = .ok (.aload_n 1, 1) := by decide +kernel
theorem dL_law_1479 : decode cL_law 1479 = .ok (.aload_n 0, 1) := by decide +kernel
theorem dL_law_1480 : decode cL_law 1480 = .ok (.iload 4, 2) := by decide +kernel
theorem dL_law_1482 : decode cL_law 1482 = .ok (.iconst 1, 1) := by decide +kernel
theorem dL_law_1483 : decode cL_law 1483 = .ok (.iadd, 1) := by decide +kernel
theorem dL_law_1484 : decode cL_law 1484 = .ok (.iaload, 1) := by decide +kernel
theorem dL_law_1485 : decode cL_law 1485 = .ok (.aload_n 0, 1) := by decide +kernel
theorem dL_law_1486 : decode cL_law 1486 = .ok (.iload 4, 2) := by decide +kernel
theorem dL_law_1488 : decode cL_law 1488 = .ok (.iconst 2, 1) := by decide +kernel
theorem dL_law_1489 : decode cL_law 1489 = .ok (.iadd, 1) := by decide +kernel
theorem dL_law_1490 : decode cL_law 1490 = .ok (.iaload, 1) := by decide +kernel
theorem dL_law_1491 : decode cL_law 1491 = .ok (.aload_n 3, 1) := by decide +kernel
theorem dL_law_1492 : decode cL_law 1492 = .ok (.invokestatic 171, 3) := by decide +kernel
theorem dL_law_1495 : decode cL_law 1495 = .ok (.istore 5, 2) := by decide +kernel
theorem dL_law_1497 : decode cL_law 1497 = .ok (.aload_n 2, 1) := by decide +kernel
theorem dL_law_1498 : decode cL_law 1498 = .ok (.aload_n 0, 1) := by decide +kernel
theorem dL_law_1499 : decode cL_law 1499 = .ok (.iload 4, 2) := by decide +kernel
theorem dL_law_1501 : decode cL_law 1501 = .ok (.iconst 1, 1) := by decide +kernel
theorem dL_law_1502 : decode cL_law 1502 = .ok (.iadd, 1) := by decide +kernel
theorem dL_law_1503 : decode cL_law 1503 = .ok (.iaload, 1) := by decide +kernel
theorem dL_law_1504 : decode cL_law 1504 = .ok (.aload_n 0, 1) := by decide +kernel
theorem dL_law_1505 : decode cL_law 1505 = .ok (.iload 4, 2) := by decide +kernel
theorem dL_law_1507 : decode cL_law 1507 = .ok (.iconst 2, 1) := by decide +kernel
theorem dL_law_1508 : decode cL_law 1508 = .ok (.iadd, 1) := by decide +kernel
theorem dL_law_1509 : decode cL_law 1509 = .ok (.iaload, 1) := by decide +kernel
theorem dL_law_1510 : decode cL_law 1510 = .ok (.invokevirtual 173, 3) := by decide +kernel
theorem dL_law_1513 : decode cL_law 1513 = .ok (.istore 6, 2) := by decide +kernel
theorem dL_law_1515 : decode cL_law 1515 = .ok (.aload_n 2, 1) := by decide +kernel
theorem dL_law_1516 : decode cL_law 1516 = .ok (.invokevirtual 99, 3) := by decide +kernel
theorem dL_law_1519 : decode cL_law 1519 = .ok (.iload 5, 2) := by decide +kernel
theorem dL_law_1521 : decode cL_law 1521 = .ok (.if_icmp .eq 5, 3) := by decide +kernel
theorem dL_law_1524 : decode cL_law 1524 = .ok (.iconst 0, 1) := by decide +kernel
theorem dL_law_1525 : decode cL_law 1525 = .ok (.ireturn, 1) := by decide +kernel
theorem dL_law_1526 : decode cL_law 1526 = .ok (.iload 5, 2) := by decide +kernel
theorem dL_law_1528 : decode cL_law 1528 = .ok (.ifCond .ne 15, 3) := by decide +kernel
theorem dL_law_1531 : decode cL_law 1531 = .ok (.aload_n 3, 1) := by decide +kernel
theorem dL_law_1532 : decode cL_law 1532 = .ok (.iconst 0, 1) := by decide +kernel
theorem dL_law_1533 : decode cL_law 1533 = .ok (.laload, 1) := by decide +kernel
theorem dL_law_1534 : decode cL_law 1534 = .ok (.iload 6, 2) := by decide +kernel
theorem dL_law_1536 : decode cL_law 1536 = .ok (.i2l, 1) := by decide +kernel
theorem dL_law_1537 : decode cL_law 1537 = .ok (.lcmp, 1) := by decide +kernel
theorem dL_law_1538 : decode cL_law 1538 = .ok (.ifCond .eq 5, 3) := by decide +kernel
theorem dL_law_1541 : decode cL_law 1541 = .ok (.iconst 0, 1) := by decide +kernel
theorem dL_law_1542 : decode cL_law 1542 = .ok (.ireturn, 1) := by decide +kernel
theorem dL_law_1543 : decode cL_law 1543 = .ok (.goto 231, 3) := by decide +kernel
theorem dL_law_1546 : decode cL_law 1546 = .ok (.aload_n 1, 1) := by decide +kernel
theorem dL_law_1547 : decode cL_law 1547 = .ok (.aload_n 0, 1) := by decide +kernel
theorem dL_law_1548 : decode cL_law 1548 = .ok (.iload 4, 2) := by decide +kernel
theorem dL_law_1550 : decode cL_law 1550 = .ok (.iconst 1, 1) := by decide +kernel
theorem dL_law_1551 : decode cL_law 1551 = .ok (.iadd, 1) := by decide +kernel
theorem dL_law_1552 : decode cL_law 1552 = .ok (.iaload, 1) := by decide +kernel
theorem dL_law_1553 : decode cL_law 1553 = .ok (.aload_n 0, 1) := by decide +kernel
theorem dL_law_1554 : decode cL_law 1554 = .ok (.iload 4, 2) := by decide +kernel
theorem dL_law_1556 : decode cL_law 1556 = .ok (.iconst 2, 1) := by decide +kernel
theorem dL_law_1557 : decode cL_law 1557 = .ok (.iadd, 1) := by decide +kernel
theorem dL_law_1558 : decode cL_law 1558 = .ok (.iaload, 1) := by decide +kernel
theorem dL_law_1559 : decode cL_law 1559 = .ok (.aload_n 0, 1) := by decide +kernel
theorem dL_law_1560 : decode cL_law 1560 = .ok (.iload 4, 2) := by decide +kernel
theorem dL_law_1562 : decode cL_law 1562 = .ok (.iconst 3, 1) := by decide +kernel
theorem dL_law_1563 : decode cL_law 1563 = .ok (.iadd, 1) := by decide +kernel
theorem dL_law_1564 : decode cL_law 1564 = .ok (.iaload, 1) := by decide +kernel
theorem dL_law_1565 : decode cL_law 1565 = .ok (.aload_n 3, 1) := by decide +kernel
theorem dL_law_1566 : decode cL_law 1566 = .ok (.invokestatic 174, 3) := by decide +kernel
theorem dL_law_1569 : decode cL_law 1569 = .ok (.istore 5, 2) := by decide +kernel
theorem dL_law_1571 : decode cL_law 1571 = .ok (.aload_n 2, 1) := by decide +kernel
theorem dL_law_1572 : decode cL_law 1572 = .ok (.aload_n 0, 1) := by decide +kernel
theorem dL_law_1573 : decode cL_law 1573 = .ok (.iload 4, 2) := by decide +kernel
theorem dL_law_1575 : decode cL_law 1575 = .ok (.iconst 1, 1) := by decide +kernel
theorem dL_law_1576 : decode cL_law 1576 = .ok (.iadd, 1) := by decide +kernel
theorem dL_law_1577 : decode cL_law 1577 = .ok (.iaload, 1) := by decide +kernel
theorem dL_law_1578 : decode cL_law 1578 = .ok (.aload_n 0, 1) := by decide +kernel
theorem dL_law_1579 : decode cL_law 1579 = .ok (.iload 4, 2) := by decide +kernel
theorem dL_law_1581 : decode cL_law 1581 = .ok (.iconst 2, 1) := by decide +kernel
theorem dL_law_1582 : decode cL_law 1582 = .ok (.iadd, 1) := by decide +kernel
theorem dL_law_1583 : decode cL_law 1583 = .ok (.iaload, 1) := by decide +kernel
theorem dL_law_1584 : decode cL_law 1584 = .ok (.aload_n 0, 1) := by decide +kernel
theorem dL_law_1585 : decode cL_law 1585 = .ok (.iload 4, 2) := by decide +kernel
theorem dL_law_1587 : decode cL_law 1587 = .ok (.iconst 3, 1) := by decide +kernel
theorem dL_law_1588 : decode cL_law 1588 = .ok (.iadd, 1) := by decide +kernel
theorem dL_law_1589 : decode cL_law 1589 = .ok (.iaload, 1) := by decide +kernel
theorem dL_law_1590 : decode cL_law 1590 = .ok (.invokevirtual 176, 3) := by decide +kernel
theorem dL_law_1593 : decode cL_law 1593 = .ok (.istore 6, 2) := by decide +kernel
theorem dL_law_1595 : decode cL_law 1595 = .ok (.aload_n 2, 1) := by decide +kernel
theorem dL_law_1596 : decode cL_law 1596 = .ok (.invokevirtual 99, 3) := by decide +kernel
theorem dL_law_1599 : decode cL_law 1599 = .ok (.iload 5, 2) := by decide +kernel
theorem dL_law_1601 : decode cL_law 1601 = .ok (.if_icmp .eq 5, 3) := by decide +kernel
theorem dL_law_1604 : decode cL_law 1604 = .ok (.iconst 0, 1) := by decide +kernel
theorem dL_law_1605 : decode cL_law 1605 = .ok (.ireturn, 1) := by decide +kernel
theorem dL_law_1606 : decode cL_law 1606 = .ok (.iload 5, 2) := by decide +kernel
theorem dL_law_1608 : decode cL_law 1608 = .ok (.ifCond .ne 15, 3) := by decide +kernel
theorem dL_law_1611 : decode cL_law 1611 = .ok (.aload_n 3, 1) := by decide +kernel
theorem dL_law_1612 : decode cL_law 1612 = .ok (.iconst 0, 1) := by decide +kernel
theorem dL_law_1613 : decode cL_law 1613 = .ok (.laload, 1) := by decide +kernel
theorem dL_law_1614 : decode cL_law 1614 = .ok (.iload 6, 2) := by decide +kernel
theorem dL_law_1616 : decode cL_law 1616 = .ok (.i2l, 1) := by decide +kernel
theorem dL_law_1617 : decode cL_law 1617 = .ok (.lcmp, 1) := by decide +kernel
theorem dL_law_1618 : decode cL_law 1618 = .ok (.ifCond .eq 5, 3) := by decide +kernel
theorem dL_law_1621 : decode cL_law 1621 = .ok (.iconst 0, 1) := by decide +kernel
theorem dL_law_1622 : decode cL_law 1622 = .ok (.ireturn, 1) := by decide +kernel
theorem dL_law_1623 : decode cL_law 1623 = .ok (.goto 151, 3) := by decide +kernel
theorem dL_law_1626 : decode cL_law 1626 = .ok (.aload_n 1, 1) := by decide +kernel
theorem dL_law_1627 : decode cL_law 1627 = .ok (.invokevirtual 177, 3) := by decide +kernel
theorem dL_law_1630 : decode cL_law 1630 = .ok (.aload_n 2, 1) := by decide +kernel
theorem dL_law_1631 : decode cL_law 1631 = .ok (.invokevirtual 180, 3) := by decide +kernel
theorem dL_law_1634 : decode cL_law 1634 = .ok (.if_icmp .eq 140, 3) := by decide +kernel
theorem dL_law_1637 : decode cL_law 1637 = .ok (.iconst 0, 1) := by decide +kernel
theorem dL_law_1638 : decode cL_law 1638 = .ok (.ireturn, 1) := by decide +kernel
theorem dL_law_1639 : decode cL_law 1639 = .ok (.aload_n 1, 1) := by decide +kernel
theorem dL_law_1640 : decode cL_law 1640 = .ok (.aload_n 0, 1) := by decide +kernel
theorem dL_law_1641 : decode cL_law 1641 = .ok (.iload 4, 2) := by decide +kernel
theorem dL_law_1643 : decode cL_law 1643 = .ok (.iconst 1, 1) := by decide +kernel
theorem dL_law_1644 : decode cL_law 1644 = .ok (.iadd, 1) := by decide +kernel
theorem dL_law_1645 : decode cL_law 1645 = .ok (.iaload, 1) := by decide +kernel
theorem dL_law_1646 : decode cL_law 1646 = .ok (.aload_n 0, 1) := by decide +kernel
theorem dL_law_1647 : decode cL_law 1647 = .ok (.iload 4, 2) := by decide +kernel
theorem dL_law_1649 : decode cL_law 1649 = .ok (.iconst 2, 1) := by decide +kernel
theorem dL_law_1650 : decode cL_law 1650 = .ok (.iadd, 1) := by decide +kernel
theorem dL_law_1651 : decode cL_law 1651 = .ok (.iaload, 1) := by decide +kernel
theorem dL_law_1652 : decode cL_law 1652 = .ok (.aload_n 0, 1) := by decide +kernel
theorem dL_law_1653 : decode cL_law 1653 = .ok (.iload 4, 2) := by decide +kernel
theorem dL_law_1655 : decode cL_law 1655 = .ok (.iconst 3, 1) := by decide +kernel
theorem dL_law_1656 : decode cL_law 1656 = .ok (.iadd, 1) := by decide +kernel
theorem dL_law_1657 : decode cL_law 1657 = .ok (.iaload, 1) := by decide +kernel
theorem dL_law_1658 : decode cL_law 1658 = .ok (.aload_n 3, 1) := by decide +kernel
theorem dL_law_1659 : decode cL_law 1659 = .ok (.invokestatic 181, 3) := by decide +kernel
theorem dL_law_1662 : decode cL_law 1662 = .ok (.istore 5, 2) := by decide +kernel
theorem dL_law_1664 : decode cL_law 1664 = .ok (.aload_n 2, 1) := by decide +kernel
theorem dL_law_1665 : decode cL_law 1665 = .ok (.aload_n 0, 1) := by decide +kernel
theorem dL_law_1666 : decode cL_law 1666 = .ok (.iload 4, 2) := by decide +kernel
theorem dL_law_1668 : decode cL_law 1668 = .ok (.iconst 1, 1) := by decide +kernel
theorem dL_law_1669 : decode cL_law 1669 = .ok (.iadd, 1) := by decide +kernel
theorem dL_law_1670 : decode cL_law 1670 = .ok (.iaload, 1) := by decide +kernel
theorem dL_law_1671 : decode cL_law 1671 = .ok (.aload_n 0, 1) := by decide +kernel
theorem dL_law_1672 : decode cL_law 1672 = .ok (.iload 4, 2) := by decide +kernel
theorem dL_law_1674 : decode cL_law 1674 = .ok (.iconst 2, 1) := by decide +kernel
theorem dL_law_1675 : decode cL_law 1675 = .ok (.iadd, 1) := by decide +kernel
theorem dL_law_1676 : decode cL_law 1676 = .ok (.iaload, 1) := by decide +kernel
theorem dL_law_1677 : decode cL_law 1677 = .ok (.aload_n 0, 1) := by decide +kernel
theorem dL_law_1678 : decode cL_law 1678 = .ok (.iload 4, 2) := by decide +kernel
theorem dL_law_1680 : decode cL_law 1680 = .ok (.iconst 3, 1) := by decide +kernel
theorem dL_law_1681 : decode cL_law 1681 = .ok (.iadd, 1) := by decide +kernel
theorem dL_law_1682 : decode cL_law 1682 = .ok (.iaload, 1) := by decide +kernel
theorem dL_law_1683 : decode cL_law 1683 = .ok (.invokevirtual 183, 3) := by decide +kernel
theorem dL_law_1686 : decode cL_law 1686 = .ok (.istore 6, 2) := by decide +kernel
theorem dL_law_1688 : decode cL_law 1688 = .ok (.aload_n 2, 1) := by decide +kernel
theorem dL_law_1689 : decode cL_law 1689 = .ok (.invokevirtual 99, 3) := by decide +kernel
theorem dL_law_1692 : decode cL_law 1692 = .ok (.iload 5, 2) := by decide +kernel
theorem dL_law_1694 : decode cL_law 1694 = .ok (.if_icmp .eq 5, 3) := by decide +kernel
theorem dL_law_1697 : decode cL_law 1697 = .ok (.iconst 0, 1) := by decide +kernel
theorem dL_law_1698 : decode cL_law 1698 = .ok (.ireturn, 1) := by decide +kernel
theorem dL_law_1699 : decode cL_law 1699 = .ok (.iload 5, 2) := by decide +kernel
theorem dL_law_1701 : decode cL_law 1701 = .ok (.ifCond .ne 15, 3) := by decide +kernel
theorem dL_law_1704 : decode cL_law 1704 = .ok (.aload_n 3, 1) := by decide +kernel
theorem dL_law_1705 : decode cL_law 1705 = .ok (.iconst 0, 1) := by decide +kernel
theorem dL_law_1706 : decode cL_law 1706 = .ok (.laload, 1) := by decide +kernel
theorem dL_law_1707 : decode cL_law 1707 = .ok (.iload 6, 2) := by decide +kernel
theorem dL_law_1709 : decode cL_law 1709 = .ok (.i2l, 1) := by decide +kernel
theorem dL_law_1710 : decode cL_law 1710 = .ok (.lcmp, 1) := by decide +kernel
theorem dL_law_1711 : decode cL_law 1711 = .ok (.ifCond .eq 5, 3) := by decide +kernel
theorem dL_law_1714 : decode cL_law 1714 = .ok (.iconst 0, 1) := by decide +kernel
theorem dL_law_1715 : decode cL_law 1715 = .ok (.ireturn, 1) := by decide +kernel
theorem dL_law_1716 : decode cL_law 1716 = .ok (.goto 58, 3) := by decide +kernel
theorem dL_law_1719 : decode cL_law 1719 = .ok (.aload_n 1, 1) := by decide +kernel
theorem dL_law_1720 : decode cL_law 1720 = .ok (.invokevirtual 184, 3) := by decide +kernel
theorem dL_law_1723 : decode cL_law 1723 = .ok (.dstore 5, 2) := by decide +kernel
theorem dL_law_1725 : decode cL_law 1725 = .ok (.aload_n 2, 1) := by decide +kernel
theorem dL_law_1726 : decode cL_law 1726 = .ok (.invokevirtual 188, 3) := by decide +kernel
theorem dL_law_1729 : decode cL_law 1729 = .ok (.dstore 7, 2) := by decide +kernel
theorem dL_law_1731 : decode cL_law 1731 = .ok (.dload 5, 2) := by decide +kernel
theorem dL_law_1733 : decode cL_law 1733 = .ok (.dload 7, 2) := by decide +kernel
theorem dL_law_1735 : decode cL_law 1735 = .ok (.dcmp .l, 1) := by decide +kernel
theorem dL_law_1736 : decode cL_law 1736 = .ok (.ifCond .eq 21, 3) := by decide +kernel
theorem dL_law_1739 : decode cL_law 1739 = .ok (.dload 5, 2) := by decide +kernel
theorem dL_law_1741 : decode cL_law 1741 = .ok (.dload 5, 2) := by decide +kernel
theorem dL_law_1743 : decode cL_law 1743 = .ok (.dcmp .l, 1) := by decide +kernel
theorem dL_law_1744 : decode cL_law 1744 = .ok (.ifCond .eq 11, 3) := by decide +kernel
theorem dL_law_1747 : decode cL_law 1747 = .ok (.dload 7, 2) := by decide +kernel
theorem dL_law_1749 : decode cL_law 1749 = .ok (.dload 7, 2) := by decide +kernel
theorem dL_law_1751 : decode cL_law 1751 = .ok (.dcmp .l, 1) := by decide +kernel
theorem dL_law_1752 : decode cL_law 1752 = .ok (.ifCond .ne 5, 3) := by decide +kernel
theorem dL_law_1755 : decode cL_law 1755 = .ok (.iconst 0, 1) := by decide +kernel
theorem dL_law_1756 : decode cL_law 1756 = .ok (.ireturn, 1) := by decide +kernel
theorem dL_law_1757 : decode cL_law 1757 = .ok (.goto 17, 3) := by decide +kernel
theorem dL_law_1760 : decode cL_law 1760 = .ok (.aload_n 1, 1) := by decide +kernel
theorem dL_law_1761 : decode cL_law 1761 = .ok (.invokevirtual 189, 3) := by decide +kernel
theorem dL_law_1764 : decode cL_law 1764 = .ok (.aload_n 2, 1) := by decide +kernel
theorem dL_law_1765 : decode cL_law 1765 = .ok (.invokevirtual 193, 3) := by decide +kernel
theorem dL_law_1768 : decode cL_law 1768 = .ok (.lcmp, 1) := by decide +kernel
theorem dL_law_1769 : decode cL_law 1769 = .ok (.ifCond .eq 5, 3) := by decide +kernel
theorem dL_law_1772 : decode cL_law 1772 = .ok (.iconst 0, 1) := by decide +kernel
theorem dL_law_1773 : decode cL_law 1773 = .ok (.ireturn, 1) := by decide +kernel
theorem dL_law_1774 : decode cL_law 1774 = .ok (.iinc 4 5, 3) := by decide +kernel
theorem dL_law_1777 : decode cL_law 1777 = .ok (.goto (-1754), 3) := by decide +kernel
theorem dL_law_1780 : decode cL_law 1780 = .ok (.iconst 1, 1) := by decide +kernel
theorem dL_law_1781 : decode cL_law 1781 = .ok (.ireturn, 1) := by decide +kernel
end
section
/-! numbers: ints and longs as images of Int -/
def iI (z : Int) : Int32 := Int32.ofInt z
def jJ (z : Int) : Int64 := Int64.ofInt z
def inR (z : Int) : Prop := -2147483648 ≤ z ∧ z < 2147483648
theorem iI_of (x : Int32) : iI x.toInt = x := by unfold iI; exact Int32.ofInt_toInt x
theorem jJ_of (x : Int64) : jJ x.toInt = x := by unfold jJ; exact Int64.ofInt_toInt x
theorem iI_toInt {a : Int} (h : inR a) : (iI a).toInt = a := by
  unfold iI; obtain ⟨h1, h2⟩ := h
  rw [Int32.toInt_ofInt]
  exact Int.bmod_eq_of_le (by show -(((4294967296 : Nat) : Int) / 2) ≤ a; omega) (by show a < (((4294967296 : Nat) : Int) + 1) / 2; omega)
theorem jJ_toInt {a : Int} (h1 : -9223372036854775808 ≤ a) (h2 : a < 9223372036854775808) : (jJ a).toInt = a := by
  unfold jJ
  rw [Int64.toInt_ofInt]
  exact Int.bmod_eq_of_le (by show -(((18446744073709551616 : Nat) : Int) / 2) ≤ a; omega) (by show a < (((18446744073709551616 : Nat) : Int) + 1) / 2; omega)
theorem inR_of (x : Int32) : inR x.toInt := by
  have h1 := Int32.le_toInt x
  have h2 := Int32.toInt_lt x
  constructor <;> omega
theorem iI_add (a b : Int) : iI (a + b) = iI a + iI b := by unfold iI; exact Int32.ofInt_add a b
theorem iI_sub (a b : Int) : iI (a - b) = iI a - iI b := by unfold iI; exact Int32.ofInt_sub a b
theorem iI_mul (a b : Int) : iI (a * b) = iI a * iI b := by unfold iI; exact Int32.ofInt_mul a b
theorem iI_neg (a : Int) : iI (-a) = - iI a := by unfold iI; exact Int32.ofInt_neg a
theorem jJ_add (a b : Int) : jJ (a + b) = jJ a + jJ b := by unfold jJ; exact Int64.ofInt_add a b
theorem jJ_sub (a b : Int) : jJ (a - b) = jJ a - jJ b := by unfold jJ; exact Int64.ofInt_sub a b
theorem jJ_mul (a b : Int) : jJ (a * b) = jJ a * jJ b := by unfold jJ; exact Int64.ofInt_mul a b
theorem iI_lt {a b : Int} (ha : inR a) (hb : inR b) : iI a < iI b ↔ a < b := by rw [Int32.lt_iff_toInt_lt, iI_toInt ha, iI_toInt hb]
theorem iI_le {a b : Int} (ha : inR a) (hb : inR b) : iI a ≤ iI b ↔ a ≤ b := by rw [Int32.le_iff_toInt_le, iI_toInt ha, iI_toInt hb]
theorem iI_eq {a b : Int} (ha : inR a) (hb : inR b) : iI a = iI b ↔ a = b := ⟨fun h => by rw [← iI_toInt ha, ← iI_toInt hb, h], fun h => by rw [h]⟩
theorem iI_0 : iI 0 = 0 := by decide
theorem inR_0 : inR 0 := ⟨by decide, by decide⟩
theorem iI_lt0 {a : Int} (ha : inR a) : iI a < 0 ↔ a < 0 := by rw [← iI_0, iI_lt ha inR_0]
theorem iI_le0 {a : Int} (ha : inR a) : iI a ≤ 0 ↔ a ≤ 0 := by rw [← iI_0, iI_le ha inR_0]
theorem iI_eq0 {a : Int} (ha : inR a) : iI a = 0 ↔ a = 0 := by rw [← iI_0, iI_eq ha inR_0]
theorem inR_nat {k : Nat} (h : k < 2147483648) : inR (k : Int) := ⟨by omega, by omega⟩
theorem iI_nI (k : Nat) : iI (k : Int) = nI k := by unfold iI nI; rfl
theorem iI_clamp {k : Nat} (h : k < 2147483648) : (iI (k : Int)).toNatClampNeg = k := by rw [iI_nI]; exact nI_clamp (by omega)
theorem iI_in {k n : Nat} (h : k < n) (hn : n < 2147483648) : vp_in (iI (k : Int)) n := by rw [iI_nI]; exact vp_in_nI h (by omega)
theorem iI_toLong {a : Int} (h : inR a) : (iI a).toInt64 = jJ a := by
  apply Int64.toInt_inj.mp
  obtain ⟨h1, h2⟩ := id h
  rw [Int32.toInt_toInt64, iI_toInt h, jJ_toInt (by omega) (by omega)]
end
section
def tg : Nat → List Nat
  | 0 => [2, 0]
  | 1 => [0, 0, 0, 0, 2, 2, 2]
  | 2 => [0, 0, 2, 2, 2, 2, 2, 2, 2]
  | 3 => [2, 2, 2, 2]
  | 4 => [2, 0]
  | 5 => [2, 2, 2]
  | 6 => [0, 2, 2, 0, 2, 0, 2, 0, 0, 0, 2, 0, 1]
  | _ => []
def NL : List (String × Nat × MethodName × String) := [("ShapedRows", 25, ⟨"ShapedRows$Text", "<init>", "()V"⟩, "ShapedRows"), ("ShapedRows", 9, ⟨"ShapedRows$State", "<init>", "()V"⟩, "ShapedRows"), ("ShapedRows$History", 21, ⟨"ShapedRows$State", "<init>", "()V"⟩, "ShapedRows"), ("ShapedRows$Rows", 34, ⟨"ShapedRows", "at", "([II)I"⟩, "ShapedRows"), ("ShapedRows$Rows", 38, ⟨"ShapedRows", "put", "([III)V"⟩, "ShapedRows"), ("ShapedRows$Rows", 54, ⟨"ShapedRows", "copyAll", "([I[I)V"⟩, "ShapedRows"), ("ShapedRows$Shapes", 102, ⟨"ShapedRows", "copyAll", "([I[I)V"⟩, "ShapedRows"), ("ShapedRows$Shapes", 47, ⟨"ShapedRows", "at", "([II)I"⟩, "ShapedRows"), ("ShapedRows$Shapes", 82, ⟨"ShapedRows", "put", "([III)V"⟩, "ShapedRows"), ("ShapedRows$State", 11, ⟨"ShapedRows$Shapes", "<init>", "()V"⟩, "ShapedRows"), ("ShapedRows$State", 143, ⟨"ShapedRows", "copyAll", "([I[I)V"⟩, "ShapedRows"), ("ShapedRows$State", 20, ⟨"ShapedRows$Rows", "<init>", "()V"⟩, "ShapedRows"), ("ShapedRows$State", 32, ⟨"ShapedRows", "at", "([II)I"⟩, "ShapedRows"), ("ShapedRows$State", 40, ⟨"ShapedRows", "put", "([III)V"⟩, "ShapedRows"), ("ShapedRows$Text", 19, ⟨"ShapedRows", "put", "([III)V"⟩, "ShapedRows"), ("ShapedRows$Text", 23, ⟨"ShapedRows", "at", "([II)I"⟩, "ShapedRows")]
def SL : List (String × Nat × String) := [("ShapedRows", 106, "there are too many rows"), ("ShapedRows", 121, "no such shape, or it is retired"), ("ShapedRows", 127, "no such row or shape, or the shape is retired"), ("ShapedRows", 132, "letter or value is out of range"), ("ShapedRows", 137, "no such letter, or the write is refused"), ("ShapedRows", 143, "no such row"), ("ShapedRows", 148, "rows is out of range"), ("ShapedRows", 156, "no such reader or shape, or the shape is retired"), ("ShapedRows", 164, "a row has an older shape, or a reader holds one"), ("ShapedRows", 169, "the code is out of range"), ("ShapedRows", 172, "the buffer is full"), ("ShapedRows", 186, "the buffer is not complete orders"), ("ShapedRows", 200, "there is no saved state"), ("ShapedRows", 206, "letter is out of range"), ("ShapedRows", 211, "no such reader or row"), ("ShapedRows", 217, "no such shape"), ("ShapedRows", 219, "place or what is out of range"), ("ShapedRows", 224, "what is out of range"), ("ShapedRows", 39, "letter or number is out of range"), ("ShapedRows", 55, "the letter is taken, or there are too many shapes"), ("ShapedRows", 69, "a letter is out of range"), ("ShapedRows", 75, "the letters do not fit, or there are too many shapes"), ("ShapedRows", 84, "the letter is missing, or there are too many shapes")]
/-! the little machine: memory by places, contracts and walks over it -/
def TBg : List Cond := lw_tbl.filter goodWord
theorem tb_in {w : Cond} (i : Nat) (h : lw_tbl[i]? = some w) (hg : goodWord w = true) : w ∈ TBg := List.mem_filter.mpr ⟨List.mem_of_getElem? h, hg⟩
abbrev GG : Type := Nat × va_G × ClassId × ClassId × ClassId × Nat × Nat × (Nat → Int32)
abbrev MI : Type := MethodName × ByteArray × Nat × Option FieldType
abbrev KT : Type := Nat → Nat × Nat
abbrev ST : Type := Nat → Nat → Int
abbrev RT : Type := Nat → Nat → Option Nat
abbrev KK : Type := Option Value → Nat → KT → ST → ST → RT → Prop
def fval (t : Nat) (a g : Int) (r : Option Nat) : Value := match t with
  | 0 => .int (iI a)
  | 1 => .long (jJ g)
  | _ => va_rf r
def objF (ad : Nat → Nat) (ts : List Nat) (f g : Nat → Int) (r : Nat → Option Nat) : List Value := (List.range ts.length).map (fun k => fval (ts.getD k 0) (f k) (g k) ((r k).map ad))
theorem objF_len (ad : Nat → Nat) (ts : List Nat) (f g : Nat → Int) (r : Nat → Option Nat) : (objF ad ts f g r).length = ts.length := by unfold objF; simp
theorem objF_get {ad : Nat → Nat} {ts : List Nat} {f g : Nat → Int} {r : Nat → Option Nat} {k t : Nat} (h : ts[k]? = some t) : (objF ad ts f g r)[k]? = some (fval t (f k) (g k) ((r k).map ad)) := by
  have hk : k < ts.length := (List.getElem?_eq_some_iff.mp h).1
  unfold objF
  rw [List.getElem?_map, List.getElem?_range hk]
  simp [List.getD, h]
theorem objF_set {ad : Nat → Nat} {ts : List Nat} {f g f' g' : Nat → Int} {r r' : Nat → Option Nat} {k t : Nat} (h : ts[k]? = some t) (ho : ∀ j, j ≠ k → f' j = f j ∧ g' j = g j ∧ r' j = r j) : (objF ad ts f g r).set k (fval t (f' k) (g' k) ((r' k).map ad)) = objF ad ts f' g' r' := by
  have hk : k < ts.length := (List.getElem?_eq_some_iff.mp h).1
  apply List.ext_getElem?
  intro j
  rw [List.getElem?_set]
  by_cases e : k = j
  · subst e
    rw [if_pos rfl, if_pos (by rw [objF_len]; exact hk), objF_get h]
  · rw [if_neg e]
    obtain ⟨h1, h2, h3⟩ := ho j (fun q => e q.symm)
    unfold objF
    rw [List.getElem?_map, List.getElem?_map]
    by_cases hj : j < ts.length
    · rw [List.getElem?_range hj]
      simp only [Option.map_some]
      rw [h1, h2, h3]
    · rw [List.getElem?_eq_none (by simp; omega)]
      rfl
def ce (G : GG) (ad : Nat → Nat) (kp : Nat × Nat) (f g : Nat → Int) (r : Nat → Option Nat) : va_E := match kp.1 with
  | 0 => .inr (kp.2, objF ad (tg kp.2) f g r)
  | 1 => .inl (G.2.2.1, kp.2, .inl (fun j => iI (f j)))
  | 2 => .inl (G.2.2.2.1, kp.2, .inr (.inl (fun j => jJ (g j))))
  | _ => .inl (G.2.2.2.2.1, kp.2, .inr (.inr (.inr (.inr (fun j => (r j).map ad)))))
def wl (G : GG) (ad : Nat → Nat) (n : Nat) (kd : KT) (σ τ : ST) (ρ : RT) : va_W := (List.range n).map (fun p => (ad p, ce G ad (kd p) (σ p) (τ p) (ρ p)))
theorem wl_get {G : GG} {ad : Nat → Nat} {n : Nat} {kd : KT} {σ τ : ST} {ρ : RT} {p : Nat} (h : p < n) : (wl G ad n kd σ τ ρ)[p]? = some (ad p, ce G ad (kd p) (σ p) (τ p) (ρ p)) := by
  unfold wl
  rw [List.getElem?_map, List.getElem?_range h]
  rfl
theorem wl_set {G : GG} {ad : Nat → Nat} {n : Nat} {kd : KT} {σ τ σ' τ' : ST} {ρ ρ' : RT} {p : Nat} (h : p < n) (ho : ∀ j, j ≠ p → σ' j = σ j ∧ τ' j = τ j ∧ ρ' j = ρ j) : (wl G ad n kd σ τ ρ).set p (ad p, ce G ad (kd p) (σ' p) (τ' p) (ρ' p)) = wl G ad n kd σ' τ' ρ' := by
  apply List.ext_getElem?
  intro j
  rw [List.getElem?_set]
  by_cases e : p = j
  · subst e
    rw [if_pos rfl, if_pos (by unfold wl; simpa using h), wl_get h]
  · rw [if_neg e]
    obtain ⟨h1, h2, h3⟩ := ho j (fun q => e q.symm)
    by_cases hj : j < n
    · rw [wl_get hj, wl_get hj, h1, h2, h3]
    · rw [List.getElem?_eq_none (by unfold wl; simp; omega), List.getElem?_eq_none (by unfold wl; simp; omega)]
theorem ce_ad {G : GG} {ad ad' : Nat → Nat} {kp : Nat × Nat} {f g : Nat → Int} {r : Nat → Option Nat} (h : ∀ k q, r k = some q → ad' q = ad q) : ce G ad' kp f g r = ce G ad kp f g r := by
  have e : ∀ k, (r k).map ad' = (r k).map ad := fun k => by
    cases hr : r k with
    | none => rfl
    | some q => exact congrArg some (h k q hr)
  unfold ce objF
  simp only [e]
theorem wl_ad {G : GG} {ad ad' : Nat → Nat} {n : Nat} {kd : KT} {σ τ : ST} {ρ : RT} (h : ∀ p, p < n → ad' p = ad p) (hr : ∀ p k q, ρ p k = some q → q < n) : wl G ad' n kd σ τ ρ = wl G ad n kd σ τ ρ := by
  unfold wl
  apply List.map_congr_left
  intro p hp
  rw [h p (List.mem_range.mp hp), ce_ad (fun k q hq => h q (hr p k q hq))]
theorem wl_push {G : GG} {ad : Nat → Nat} {n : Nat} {kd kd' : KT} {σ τ σ' τ' : ST} {ρ ρ' : RT} {q : Nat} {e : va_E} (hr : ∀ p k q, ρ p k = some q → q < n) (ho : ∀ p, p ≠ n → kd' p = kd p ∧ σ' p = σ p ∧ τ' p = τ p ∧ ρ' p = ρ p) (he : ∀ ad', e = ce G ad' (kd' n) (σ' n) (τ' n) (ρ' n)) :
    wl G ad n kd σ τ ρ ++ [(q, e)] = wl G (va_up ad n q) (n + 1) kd' σ' τ' ρ' := by
  have h0 : ∀ p, p < n → va_up ad n q p = ad p := fun p hp => va_up_ne _ _ (by omega)
  rw [← wl_ad (ad' := va_up ad n q) h0 hr]
  unfold wl
  rw [List.range_succ, List.map_append]
  congr 1
  · apply List.map_congr_left
    intro p hp
    have hp := List.mem_range.mp hp
    obtain ⟨h1, h2, h3, h4⟩ := ho p (by omega)
    rw [h1, h2, h3, h4]
  · simp only [List.map_cons, List.map_nil]
    rw [he (va_up ad n q), va_up_self]
/-- the memory as the heap holds it -/
def RepH (G : GG) (ad : Nat → Nat) (n : Nat) (kd : KT) (σ τ : ST) (ρ : RT) (H : Heap) : Prop := va_P G.2.1 vwCl (wl G ad n kd σ τ ρ) H ∧ va_D (fun q => G.1 ≤ q) (wl G ad n kd σ τ ρ) ∧ (∀ p, (kd p).1 < 9 → p < n) ∧ (∀ p k q, ρ p k = some q → q < n) ∧ G.1 ≤ H.size
theorem RepH.ad {G : GG} {ad ad' : Nat → Nat} {n : Nat} {kd : KT} {σ τ : ST} {ρ : RT} {H : Heap} (h : RepH G ad' n kd σ τ ρ H) (ha : ∀ p, p < n → ad' p = ad p) : RepH G ad n kd σ τ ρ H := by
  obtain ⟨h1, h2, h3, h4, h5⟩ := h
  rw [wl_ad ha h4] at h1 h2
  exact ⟨h1, h2, h3, h4, h5⟩
def tys (G : GG) : List (ClassId × FieldType) := [(G.2.2.1, .int), (G.2.2.2.1, .long), (G.2.2.2.2.1, .object "ShapedRows$State")]
abbrev tN : String := Bundle.tN
/-- what stays true of the machine all along -/
def EnvP (G : GG) (U : State) : Prop := va_K G.2.1 vwCl (tys G) U ∧ (∀ q ∈ NL, va_Nw (.methodLinkNest q.1 q.2.1 q.2.2.1 q.2.2.2) U) ∧ (∀ q ∈ SL, ∃ a, vk_R q.1 q.2.1 q.2.2 a U) ∧ vx_Zq Bundle.tN "UNASSIGNED_STACK" Bundle.steD (fun q => G.1 ≤ q) U U.heap ∧ vx_Zq Bundle.tN "SUPPRESSED_SENTINEL" Bundle.listD (fun q => G.1 ≤ q) U U.heap ∧ va_X G.2.2.2.2.2.1 G.2.2.2.2.2.2.1 G.2.2.2.2.2.2.2 U U.heap ∧ G.2.2.2.2.2.1 < G.1 ∧ G.1 ≤ U.heap.size
theorem EnvP.moved {G : GG} {s U : State} (hW : s.WarmedH U.vm) (hh : ∀ q : Nat, q < G.1 → U.heap[q]? = s.heap[q]?) (hz : G.1 ≤ U.heap.size) (h : EnvP G s) : EnvP G U := by
  obtain ⟨h1, h2, h3, h4, h5, h6, h7, h8⟩ := h
  have hv := hW.alike
  exact ⟨h1.moved hv, fun q hq => va_Nw.warmM hW (h2 q hq), fun q hq => (h3 q hq).elim fun a ha => ⟨a, vk_R.warm hW ha⟩, (h4.moved hv).kept (fun a _ hb => hh a (Nat.not_le.mp hb)), (h5.moved hv).kept (fun a _ hb => hh a (Nat.not_le.mp hb)), (h6.moved hv).kept (hh _ h7), h7, hz⟩
theorem EnvP.same {G : GG} {s U : State} (hv : s.vm = U.vm) (hh : s.heap = U.heap) (h : EnvP G s) : EnvP G U := by
  obtain ⟨h1, h2, h3, h4, h5, h6, h7, h8⟩ := h
  have ha : s.vm.Alike U.vm := hv ▸ Vm.Alike.refl s.vm
  rw [hh] at h4 h5 h6 h8
  exact ⟨h1.moved ha, fun q hq => va_Nw.same rfl hv (h2 q hq), fun q hq => (h3 q hq).elim fun a ha => ⟨a, vk_R.same hv.symm ha⟩, h4.moved ha, h5.moved ha, h6.moved ha, h7, h8⟩
def trv (ad : Nat → Nat) : Value → Value
  | .ref a => .ref (ad a)
  | v => v
def scb (n : Nat) : Value → Bool
  | .ref a => decide (a < n)
  | _ => true
theorem trv_ad {ad ad' : Nat → Nat} {n : Nat} {v : Value} (h : ∀ p, p < n → ad' p = ad p) (hv : scb n v = true) : trv ad' v = trv ad v := by
  cases v <;> try rfl
  rename_i a
  have ha : a < n := of_decide_eq_true hv
  show Value.ref (ad' a) = Value.ref (ad a)
  rw [h a ha]
theorem trv_cat (ad : Nat → Nat) (v : Value) : (trv ad v).category = v.category := by cases v <;> rfl
def wsM (X : MI) : List Cond := .code X.1 X.2.1 X.2.2.1 X.2.2.2 :: TBg
theorem gin {X : MI} (h : Cond.code X.1 X.2.1 X.2.2.1 X.2.2.2 ∈ TBg) : GoodIn TBg (wsM X) := fun w hw => by
  have hm : w ∈ TBg := (List.mem_cons.mp hw).elim (fun e => e ▸ h) id
  exact ⟨hm, good_of_word (List.mem_filter.mp hm).2⟩
def rmD (dm : Nat × Nat × Nat) : Room := { frames := dm.1, cells := dm.2.1, slots := dm.2.2, locals := 37 * dm.1 }
def CtQ (G : GG) (n0 : Nat) (ad0 : Nat → Nat) (K : KK) : Array Value → State → Outcome → State → Prop := fun _ st oc t => (∃ (v : Option Value) (ad : Nat → Nat) (n : Nat) (kd : KT) (σ τ : ST) (ρ : RT), oc = .returned (v.map (trv ad)) ∧ K v n kd σ τ ρ ∧ (∀ p, p < n0 → ad p = ad0 p) ∧ RepH G ad n kd σ τ ρ t.heap ∧ (∀ w, v = some w → scb n w = true)) ∧ va_F (fun q => G.1 ≤ q) st t
def CtP (G : GG) (ad : Nat → Nat) (n : Nat) (kd : KT) (σ τ : ST) (ρ : RT) : State → Prop := fun U => RepH G ad n kd σ τ ρ U.heap ∧ EnvP G U
/-- a method's contract: from these arguments and this memory it returns, and K holds of its answer and of the memory then -/
def Ct (l : Launch) (G : GG) (X : MI) (dm : Nat × Nat × Nat) (as : List Value) (n : Nat) (kd : KT) (σ τ : ST) (ρ : RT) (K : KK) : Prop :=
  ∀ ad : Nat → Nat, Met l X.1 (wsM X) (rmD dm) (va_Pc (as.map (trv ad)) (CtP G ad n kd σ τ ρ)) (CtQ G n ad K) dm.2.1 dm.2.2 (fun q => G.1 ≤ q)
theorem Ct.mono {l : Launch} {G : GG} {X : MI} {dm : Nat × Nat × Nat} {as : List Value} {n : Nat} {kd : KT} {σ τ : ST} {ρ : RT} {K K' : KK} (h : ∀ v n kd σ τ ρ, K v n kd σ τ ρ → K' v n kd σ τ ρ) (c : Ct l G X dm as n kd σ τ ρ K) : Ct l G X dm as n kd σ τ ρ K' := by
  intro ad
  have h0 := c ad
  intro p e ha hc hk s m args below hf happ hP hT
  obtain ⟨t, o, h1, h2, h3, h4⟩ := h0 p e ha hc hk s m args below hf happ hP hT
  exact ⟨t, o, h1, h2, h3, by
    obtain ⟨⟨⟨v, ad', n', kd', σ', τ', ρ', q1, q2, q3⟩, q4⟩, q5⟩ := h4
    exact ⟨⟨⟨v, ad', n', kd', σ', τ', ρ', q1, h _ _ _ _ _ _ q2, q3⟩, q4⟩, q5⟩⟩
/-- the locals of a frame, by their numbers -/
def LsOK (nL : Nat) (ls : Array Slot) (L : List (Option Value)) : Prop := ls.size = nL ∧ lv_wf ls ∧ ∀ (k : Nat) (v : Value), L[k]? = some (some v) → ls[k]? = some (.val v)
def is2 : Value → Bool
  | .long _ => true
  | .double _ => true
  | _ => false
theorem is2_cat (v : Value) : v.category = 2 ↔ is2 v = true := by cases v <;> simp [is2, Value.category]
theorem is2_cat1 {v : Value} (h : is2 v = false) : v.category = 1 := by cases v <;> first | rfl | (simp [is2] at h)
def lpairs (L : List (Option Value)) : List (Nat × Value) := (List.range L.length).filterMap (fun k => (L[k]?.join).map (fun v => (k, v)))
theorem lpairs_mem {L : List (Option Value)} {q : Nat × Value} : q ∈ lpairs L ↔ L[q.1]? = some (some q.2) := by
  unfold lpairs
  rw [List.mem_filterMap]
  constructor
  · rintro ⟨k, hk, h⟩
    cases h1 : L[k]? with
    | none => rw [h1] at h; cases h
    | some o =>
      cases o with
      | none => rw [h1] at h; cases h
      | some v => rw [h1] at h; cases h; exact h1
  · intro h
    refine ⟨q.1, List.mem_range.mpr (List.getElem?_eq_some_iff.mp h).1, ?_⟩
    rw [h]
    rfl
theorem LsOK.has {nL : Nat} {ls : Array Slot} {L : List (Option Value)} (h : LsOK nL ls L) : lv_has ls nL (lpairs L) := ⟨h.1, h.2.1, fun q hq => h.2.2 q.1 q.2 (lpairs_mem.mp hq)⟩
/-- a value comes into a local -/
def stL : List (Option Value) → Nat → Value → List (Option Value)
  | [], _, _ => []
  | _ :: r, 0, v => some v :: (match is2 v, r with
    | true, _ :: r' => none :: r'
    | _, r => r)
  | x :: r, 1, v => (match x with
    | some w => if is2 w then none else some w
    | none => none) :: stL r 0 v
  | x :: r, i + 2, v => x :: stL r (i + 1) v
theorem stL_spec1 : ∀ (L : List (Option Value)) (i : Nat) (v : Value), is2 v = false → ∀ k w, (stL L i v)[k]? = some (some w) → (k = i ∧ w = v) ∨ (k ≠ i ∧ L[k]? = some (some w) ∧ ¬ (k + 1 = i ∧ w.category = 2)) := by
  intro L
  induction L with
  | nil => intro i v hv k w h; simp [stL] at h
  | cons x r ih =>
    intro i v hv k w h
    match i with
    | 0 =>
      simp only [stL, hv] at h
      match k with
      | 0 => left; simp at h; exact ⟨rfl, h.symm⟩
      | k + 1 => right; exact ⟨by omega, by simpa using h, by omega⟩
    | 1 =>
      match k with
      | 0 =>
        right
        cases x with
        | none => simp [stL] at h
        | some w0 =>
          by_cases h2 : is2 w0 = true
          · simp [stL, h2] at h
          · simp [stL, h2] at h
            subst h
            exact ⟨by omega, rfl, fun q => h2 ((is2_cat w0).mp q.2)⟩
      | k + 1 =>
        have h' : (stL r 0 v)[k]? = some (some w) := by simpa [stL] using h
        rcases ih 0 v hv k w h' with ⟨a, b⟩ | ⟨a, b, c⟩
        · left; exact ⟨by omega, b⟩
        · right; exact ⟨by omega, by simpa using b, by omega⟩
    | i + 2 =>
      match k with
      | 0 => right; exact ⟨by omega, by simpa [stL] using h, by omega⟩
      | k + 1 =>
        have h' : (stL r (i + 1) v)[k]? = some (some w) := by simpa [stL] using h
        rcases ih (i + 1) v hv k w h' with ⟨a, b⟩ | ⟨a, b, c⟩
        · left; exact ⟨by omega, b⟩
        · right; exact ⟨by omega, by simpa using b, by omega⟩
theorem stL_spec2 : ∀ (L : List (Option Value)) (i : Nat) (v : Value), is2 v = true → i + 1 < L.length → ∀ k w, (stL L i v)[k]? = some (some w) → (k = i ∧ w = v) ∨ (k ≠ i ∧ k ≠ i + 1 ∧ L[k]? = some (some w) ∧ ¬ (k + 1 = i ∧ w.category = 2)) := by
  intro L
  induction L with
  | nil => intro i v hv hl k w h; simp [stL] at h
  | cons x r ih =>
    intro i v hv hl k w h
    match i with
    | 0 =>
      match r, hl with
      | y :: r', hl =>
        simp only [stL, hv] at h
        match k with
        | 0 => left; simp at h; exact ⟨rfl, h.symm⟩
        | 1 => simp at h
        | k + 2 => right; exact ⟨by omega, by omega, by simpa using h, by omega⟩
      | [], hl => simp at hl
    | 1 =>
      match k with
      | 0 =>
        right
        cases x with
        | none => simp [stL] at h
        | some w0 =>
          by_cases h2 : is2 w0 = true
          · simp [stL, h2] at h
          · simp [stL, h2] at h
            subst h
            exact ⟨by omega, by omega, rfl, fun q => h2 ((is2_cat w0).mp q.2)⟩
      | k + 1 =>
        have h' : (stL r 0 v)[k]? = some (some w) := by simpa [stL] using h
        rcases ih 0 v hv (by simp at hl; omega) k w h' with ⟨a, b⟩ | ⟨a, a2, b, c⟩
        · left; exact ⟨by omega, b⟩
        · right; exact ⟨by omega, by omega, by simpa using b, by omega⟩
    | i + 2 =>
      match k with
      | 0 => right; exact ⟨by omega, by omega, by simpa [stL] using h, by omega⟩
      | k + 1 =>
        have h' : (stL r (i + 1) v)[k]? = some (some w) := by simpa [stL] using h
        rcases ih (i + 1) v hv (by simp at hl; omega) k w h' with ⟨a, b⟩ | ⟨a, a2, b, c⟩
        · left; exact ⟨by omega, b⟩
        · right; exact ⟨by omega, by omega, by simpa using b, by omega⟩
theorem LsOK.st1 {nL : Nat} {ls : Array Slot} {L : List (Option Value)} {i : Nat} {v : Value} (hv : is2 v = false) (h : lv_has ls nL ((i, v) :: (lpairs L).filter (fun q => !(q.1 == i) && !(q.1 + 1 == i && q.2.category == 2)))) : LsOK nL ls (stL L i v) := by
  refine ⟨h.1, h.2.1, fun k w hk => ?_⟩
  rcases stL_spec1 L i v hv k w hk with ⟨rfl, rfl⟩ | ⟨a, b, c⟩
  · exact h.2.2 (k, w) List.mem_cons_self
  · refine h.2.2 (k, w) (List.mem_cons_of_mem _ (List.mem_filter.mpr ⟨lpairs_mem.mpr b, ?_⟩))
    simp only [Bool.and_eq_true, Bool.not_eq_true', beq_eq_false_iff_ne, Bool.and_eq_false_iff]
    refine ⟨a, ?_⟩
    by_cases h1 : k + 1 = i
    · right; exact fun q => c ⟨h1, q⟩
    · left; exact h1
theorem LsOK.st2 {nL : Nat} {ls : Array Slot} {L : List (Option Value)} {i : Nat} {v : Value} (hv : is2 v = true) (hi : i + 1 < L.length) (h : lv_has ls nL ((i, v) :: (lpairs L).filter (fun q => !(q.1 == i) && (!(q.1 == i + 1) && !(q.1 + 1 == i && q.2.category == 2))))) : LsOK nL ls (stL L i v) := by
  refine ⟨h.1, h.2.1, fun k w hk => ?_⟩
  rcases stL_spec2 L i v hv hi k w hk with ⟨rfl, rfl⟩ | ⟨a, a2, b, c⟩
  · exact h.2.2 (k, w) List.mem_cons_self
  · refine h.2.2 (k, w) (List.mem_cons_of_mem _ (List.mem_filter.mpr ⟨lpairs_mem.mpr b, ?_⟩))
    simp only [Bool.and_eq_true, Bool.not_eq_true', beq_eq_false_iff_ne, Bool.and_eq_false_iff]
    refine ⟨a, a2, ?_⟩
    by_cases h1 : k + 1 = i
    · right; exact fun q => c ⟨h1, q⟩
    · left; exact h1
def trL (ad : Nat → Nat) (L : List (Option Value)) : List (Option Value) := L.map (Option.map (trv ad))
theorem trL_get {ad : Nat → Nat} {L : List (Option Value)} {k : Nat} {v : Value} (h : L[k]? = some (some v)) : (trL ad L)[k]? = some (some (trv ad v)) := by
  unfold trL
  rw [List.getElem?_map, h]
  rfl
theorem is2_trv (ad : Nat → Nat) (v : Value) : is2 (trv ad v) = is2 v := by cases v <;> rfl
theorem trL_st (ad : Nat → Nat) : ∀ (L : List (Option Value)) (i : Nat) (v : Value), stL (trL ad L) i (trv ad v) = trL ad (stL L i v) := by
  intro L
  induction L with
  | nil => intro i v; rfl
  | cons x r ih =>
    intro i v
    match i with
    | 0 =>
      cases h2 : is2 v with
      | true => cases r <;> simp [trL, stL, is2_trv, h2]
      | false => simp [trL, stL, is2_trv, h2]
    | 1 =>
      have h1 := ih 0 v
      cases x with
      | none => simpa [trL, stL] using h1
      | some w => cases h2 : is2 w <;> simpa [trL, stL, is2_trv, h2] using h1
    | i + 2 =>
      have h1 := ih (i + 1) v
      simpa [trL, stL] using h1
theorem LsOK.ad {nL : Nat} {ls : Array Slot} {L : List (Option Value)} {ad ad' : Nat → Nat} {n : Nat} (h : ∀ p, p < n → ad' p = ad p) (hL : L.all (fun o => o.all (scb n)) = true) (hl : LsOK nL ls (trL ad L)) : LsOK nL ls (trL ad' L) := by
  have e : trL ad' L = trL ad L := by
    unfold trL
    apply List.map_congr_left
    intro o ho
    have h1 := List.all_eq_true.mp hL o ho
    cases o with
    | none => rfl
    | some v => exact congrArg some (trv_ad h h1)
  rw [e]
  exact hl
theorem trS_ad {ad ad' : Nat → Nat} {n : Nat} {S : List Value} (h : ∀ p, p < n → ad' p = ad p) (hS : S.all (scb n) = true) : S.map (trv ad') = S.map (trv ad) := by
  apply List.map_congr_left
  intro v hv
  exact trv_ad h (List.all_eq_true.mp hS v hv)
/-- at a return, this answer on the stack -/
def RS (X : MI) (pc : Nat) (v : Option Value) (S : List Value) : Prop :=
  (∃ x, v = some (.int x) ∧ S = [.int x] ∧ decode X.2.1 pc = .ok (.ireturn, 1) ∧ ∃ ty, X.2.2.2 = some ty ∧ narrow ty (.int x) = .int x) ∨
  (∃ x, v = some (.long x) ∧ S = [.long x] ∧ decode X.2.1 pc = .ok (.lreturn, 1) ∧ X.2.2.2 = some .long) ∨
  (∃ x, v = some (.double x) ∧ S = [.double x] ∧ decode X.2.1 pc = .ok (.dreturn, 1) ∧ X.2.2.2 = some .double) ∨
  (∃ w, v = some w ∧ S = [w] ∧ (w = .null ∨ ∃ a, w = .ref a) ∧ decode X.2.1 pc = .ok (.areturn, 1) ∧ ∃ rt, X.2.2.2 = some rt ∧ ((∃ n, rt = .object n) ∨ ∃ t, rt = .array t)) ∨
  (v = none ∧ S = [] ∧ decode X.2.1 pc = .ok (.return_, 1) ∧ X.2.2.2 = none)
/-- 'throw new E(text)' at pc -/
def TA (own : String) (cc : ByteArray) (pc : Nat) (E : String) : Prop := ∃ (text : String) (names : List String) (ik is ic : Nat),
  Bundle.fit E = true ∧ (∀ n ∈ names, Bundle.fit n = true) ∧ names.length ≤ 3 ∧ (own, is, text) ∈ SL ∧
  (∀ w ∈ Cond.classLink own ik E :: Cond.initialized E :: vx_atS own ic E names, vx_ot w = true ∧ w ∈ lw_tbl) ∧
  decode cc pc = .ok (.new ik, 3) ∧ decode cc (pc + 3) = .ok (.dup, 1) ∧ decode cc (pc + 4) = .ok (.ldc is, 2) ∧ decode cc (pc + 6) = .ok (.invokespecial ic, 3) ∧ decode cc (pc + 9) = .ok (.athrow, 1)
abbrev KX : Type := String → Nat → KT → ST → ST → RT → Prop
/-- the frame's surroundings: the machine, the code, the words, and where it may end -/
def Cx (l : Launch) (G : GG) (own : String) (X : MI) (dm : Nat × Nat × Nat) (K : KK) (KE : KX) (n0 : Nat) (ad0 : Nat → Nat) (p : Program) (e : Env) (R : Room) (s : State) (m : MethodId) (args : Array Value) (below : List Frame) (meth : Method) (c : Code) (Z : State → Prop) : Prop :=
  p.tables.exec = Jvm.exec ∧ c.code = X.2.1 ∧ c.maxLocals = X.2.2.1 ∧ s.vm.findClass own = some m.cls ∧ (∀ w ∈ TBg, w.before args s = true) ∧ meth.locks = false ∧ EnvP G s ∧ (dm.1 ≤ R.frames ∧ 37 * dm.1 ≤ R.locals ∧ dm.2.1 ≤ R.cells ∧ dm.2.2 ≤ R.slots) ∧ meth.name = X.1.name ∧
  (∀ (v : Option Value) (ad : Nat → Nat) (n : Nat) (kd : KT) (σ τ : ST) (ρ : RT) (H : Heap) (locs : List Loc) (ls : Array Slot) (pc : Nat) (S : List Value) (ce sl : Nat), K v n kd σ τ ρ → (∀ p, p < n0 → ad p = ad0 p) → RepH G ad n kd σ τ ρ H → va_S (fun q => G.1 ≤ q) s.heap H locs → ce ≤ dm.2.1 → sl ≤ dm.2.2 → (∀ w, v = some w → scb n w = true) → RS X pc v S → W p l e R s m args below meth c H locs ce sl Z (F0 m pc ls (S.map (trv ad)))) ∧
  (∀ (E : String) (ad : Nat → Nat) (n : Nat) (kd : KT) (σ τ : ST) (ρ : RT) (H : Heap) (locs : List Loc) (ls : Array Slot) (pc : Nat) (ce sl : Nat), KE E n kd σ τ ρ → (∀ p, p < n0 → ad p = ad0 p) → RepH G ad n kd σ τ ρ H → va_S (fun q => G.1 ≤ q) s.heap H locs → ce + 1 ≤ dm.2.1 → sl + 6 ≤ dm.2.2 → ls.size = X.2.2.1 → TA own X.2.1 pc E → W p l e R s m args below meth c H locs ce sl Z (F0 m pc ls []))
/-- from here the method comes to its end, and K (or KE) holds there -/
def WP (l : Launch) (G : GG) (own : String) (X : MI) (dm : Nat × Nat × Nat) (K : KK) (KE : KX) (n0 pc : Nat) (L : List (Option Value)) (S : List Value) (n : Nat) (kd : KT) (σ τ : ST) (ρ : RT) (ce sl : Nat) : Prop :=
  ∀ (ad0 ad : Nat → Nat) (p : Program) (e : Env) (R : Room) (s : State) (m : MethodId) (args : Array Value) (below : List Frame) (meth : Method) (c : Code) (H : Heap) (locs : List Loc) (ls : Array Slot) (Z : State → Prop),
    Cx l G own X dm K KE n0 ad0 p e R s m args below meth c Z → (∀ p, p < n0 → ad p = ad0 p) → RepH G ad n kd σ τ ρ H → va_S (fun q => G.1 ≤ q) s.heap H locs → LsOK X.2.2.1 ls (trL ad L) → W p l e R s m args below meth c H locs ce sl Z (F0 m pc ls (S.map (trv ad)))
def noX : KX := fun _ _ _ _ _ _ => False
def up2 (σ : ST) (p k : Nat) (v : Int) : ST := fun a b => if a = p ∧ b = k then v else σ a b
def upR (ρ : RT) (p k : Nat) (v : Option Nat) : RT := fun a b => if a = p ∧ b = k then v else ρ a b
theorem up2_row (σ : ST) (p k : Nat) (v : Int) : up2 σ p k v p = fun j => if j = k then v else σ p j := by
  funext j
  unfold up2
  simp
theorem up2_off (σ : ST) {p k : Nat} {v : Int} {j : Nat} (h : j ≠ p) : up2 σ p k v j = σ j := by
  funext b
  unfold up2
  rw [if_neg (fun q => h q.1)]
theorem upR_row (ρ : RT) (p k : Nat) (v : Option Nat) : upR ρ p k v p = fun j => if j = k then v else ρ p j := by
  funext j
  unfold upR
  simp
theorem upR_off (ρ : RT) {p k : Nat} {v : Option Nat} {j : Nat} (h : j ≠ p) : upR ρ p k v j = ρ j := by
  funext b
  unfold upR
  rw [if_neg (fun q => h q.1)]
theorem trL_len (ad : Nat → Nat) (L : List (Option Value)) : (trL ad L).length = L.length := by unfold trL; simp
theorem iI_ge0 {a : Int} (ha : inR a) : 0 ≤ iI a ↔ 0 ≤ a := by rw [← iI_0, iI_le inR_0 ha]
theorem iI_gt0 {a : Int} (ha : inR a) : 0 < iI a ↔ 0 < a := by rw [← iI_0, iI_lt inR_0 ha]
section Rows
variable {l : Launch} {G : GG} {own : String} {X : MI} {dm : Nat × Nat × Nat} {K : KK} {KE : KX} {n0 pc : Nat} {L : List (Option Value)} {S : List Value} {n : Nat} {kd : KT} {σ τ : ST} {ρ : RT} {ce sl : Nat}
/-- a step that touches neither heap nor locals -/
theorem r_pure {pc' : Nat} {S' : List Value} (h : ∀ (ad : Nat → Nat) (p : Program) (e : Env) (R : Room) (s : State) (m : MethodId) (args : Array Value) (below : List Frame) (meth : Method) (c : Code) (H : Heap) (locs : List Loc) (ls : Array Slot) (Z : State → Prop), p.tables.exec = Jvm.exec → c.code = X.2.1 → LsOK X.2.2.1 ls (trL ad L) → s.vm.findClass own = some m.cls → (∀ w ∈ TBg, w.before args s = true) →
    W p l e R s m args below meth c H locs ce sl Z (F0 m pc' ls (S'.map (trv ad))) → W p l e R s m args below meth c H locs ce sl Z (F0 m pc ls (S.map (trv ad))))
    (k : WP l G own X dm K KE n0 pc' L S' n kd σ τ ρ ce sl) : WP l G own X dm K KE n0 pc L S n kd σ τ ρ ce sl := by
  intro ad0 ad p e R s m args below meth c H locs ls Z C ha hH hS hL
  obtain ⟨hx, hb, hml, hown, hts, -⟩ := id C
  exact h ad p e R s m args below meth c H locs ls Z hx hb hL hown hts (k ad0 ad p e R s m args below meth c H locs ls Z C ha hH hS hL)
/-- a branch -/
theorem r_br {c1 c2 : Prop} {pc1 pc2 : Nat} {S' : List Value} (h : ∀ (ad : Nat → Nat) (p : Program) (e : Env) (R : Room) (s : State) (m : MethodId) (args : Array Value) (below : List Frame) (meth : Method) (c : Code) (H : Heap) (locs : List Loc) (ls : Array Slot) (Z : State → Prop), p.tables.exec = Jvm.exec → c.code = X.2.1 →
    (c1 → W p l e R s m args below meth c H locs ce sl Z (F0 m pc1 ls (S'.map (trv ad)))) → (c2 → W p l e R s m args below meth c H locs ce sl Z (F0 m pc2 ls (S'.map (trv ad)))) → W p l e R s m args below meth c H locs ce sl Z (F0 m pc ls (S.map (trv ad))))
    (k1 : c1 → WP l G own X dm K KE n0 pc1 L S' n kd σ τ ρ ce sl) (k2 : c2 → WP l G own X dm K KE n0 pc2 L S' n kd σ τ ρ ce sl) : WP l G own X dm K KE n0 pc L S n kd σ τ ρ ce sl := by
  intro ad0 ad p e R s m args below meth c H locs ls Z C ha hH hS hL
  obtain ⟨hx, hb, -⟩ := id C
  exact h ad p e R s m args below meth c H locs ls Z hx hb (fun q => k1 q ad0 ad p e R s m args below meth c H locs ls Z C ha hH hS hL) (fun q => k2 q ad0 ad p e R s m args below meth c H locs ls Z C ha hH hS hL)
theorem r_iconst {z : Int} (hd : decode X.2.1 pc = .ok (.iconst z, 1)) (k : WP l G own X dm K KE n0 (pc + 1) L (.int (iI z) :: S) n kd σ τ ρ ce sl) : WP l G own X dm K KE n0 pc L (S) n kd σ τ ρ ce sl :=
  r_pure (fun ad p e R s m args below meth c H locs ls Z hx hb hL hown hts kk => lv_iconst hx hb hd rfl kk) k
theorem r_bipush {z : Int} (hd : decode X.2.1 pc = .ok (.bipush z, 2)) (hv : (Int8.ofInt z).toInt32 = iI z) (k : WP l G own X dm K KE n0 (pc + 2) L (.int (iI z) :: S) n kd σ τ ρ ce sl) : WP l G own X dm K KE n0 pc L (S) n kd σ τ ρ ce sl :=
  r_pure (fun ad p e R s m args below meth c H locs ls Z hx hb hL hown hts kk => lv_bipush hx hb hd hv kk) k
theorem r_sipush {z : Int} (hd : decode X.2.1 pc = .ok (.sipush z, 3)) (hv : (Int16.ofInt z).toInt32 = iI z) (k : WP l G own X dm K KE n0 (pc + 3) L (.int (iI z) :: S) n kd σ τ ρ ce sl) : WP l G own X dm K KE n0 pc L (S) n kd σ τ ρ ce sl :=
  r_pure (fun ad p e R s m args below meth c H locs ls Z hx hb hL hown hts kk => lv_sipush hx hb hd hv kk) k
theorem r_lconst {q : Fin 2} {z : Int} (hd : decode X.2.1 pc = .ok (.lconst q, 1)) (hv : Int64.ofNat (q : Nat) = jJ z) (k : WP l G own X dm K KE n0 (pc + 1) L (.long (jJ z) :: S) n kd σ τ ρ ce sl) : WP l G own X dm K KE n0 pc L (S) n kd σ τ ρ ce sl :=
  r_pure (fun ad p e R s m args below meth c H locs ls Z hx hb hL hown hts kk => lv_lconst hx hb hd hv kk) k
theorem r_null (hd : decode X.2.1 pc = .ok (.aconst_null, 1)) (k : WP l G own X dm K KE n0 (pc + 1) L (.null :: S) n kd σ τ ρ ce sl) : WP l G own X dm K KE n0 pc L (S) n kd σ τ ρ ce sl :=
  r_pure (fun ad p e R s m args below meth c H locs ls Z hx hb hL hown hts kk => lv_null hx hb hd kk) k
theorem r_iload_n {q : Fin 4} {i : Nat} {x : Int32} (hd : decode X.2.1 pc = .ok (.iload_n q, 1)) (hi : (q : Nat) = i) (hl : L[i]? = some (some (.int x))) (k : WP l G own X dm K KE n0 (pc + 1) L (.int x :: S) n kd σ τ ρ ce sl) : WP l G own X dm K KE n0 pc L (S) n kd σ τ ρ ce sl :=
  r_pure (fun ad p e R s m args below meth c H locs ls Z hx hb hL hown hts kk => lv_iload_n hx hb hd hi (hL.2.2 i _ (trL_get hl)) kk) k
theorem r_iload {i : Nat} {x : Int32} (hd : decode X.2.1 pc = .ok (.iload i, 2)) (hl : L[i]? = some (some (.int x))) (k : WP l G own X dm K KE n0 (pc + 2) L (.int x :: S) n kd σ τ ρ ce sl) : WP l G own X dm K KE n0 pc L (S) n kd σ τ ρ ce sl :=
  r_pure (fun ad p e R s m args below meth c H locs ls Z hx hb hL hown hts kk => lv_iload hx hb hd (hL.2.2 i _ (trL_get hl)) kk) k
theorem r_lload_n {q : Fin 4} {i : Nat} {x : Int64} (hd : decode X.2.1 pc = .ok (.lload_n q, 1)) (hi : (q : Nat) = i) (hl : L[i]? = some (some (.long x))) (k : WP l G own X dm K KE n0 (pc + 1) L (.long x :: S) n kd σ τ ρ ce sl) : WP l G own X dm K KE n0 pc L (S) n kd σ τ ρ ce sl :=
  r_pure (fun ad p e R s m args below meth c H locs ls Z hx hb hL hown hts kk => lv_lload_n hx hb hd hi (hL.2.2 i _ (trL_get hl)) kk) k
theorem r_lload {i : Nat} {x : Int64} (hd : decode X.2.1 pc = .ok (.lload i, 2)) (hl : L[i]? = some (some (.long x))) (k : WP l G own X dm K KE n0 (pc + 2) L (.long x :: S) n kd σ τ ρ ce sl) : WP l G own X dm K KE n0 pc L (S) n kd σ τ ρ ce sl :=
  r_pure (fun ad p e R s m args below meth c H locs ls Z hx hb hL hown hts kk => lv_lload hx hb hd (hL.2.2 i _ (trL_get hl)) kk) k
theorem r_dload_n {q : Fin 4} {i : Nat} {x : UInt64} (hd : decode X.2.1 pc = .ok (.dload_n q, 1)) (hi : (q : Nat) = i) (hl : L[i]? = some (some (.double x))) (k : WP l G own X dm K KE n0 (pc + 1) L (.double x :: S) n kd σ τ ρ ce sl) : WP l G own X dm K KE n0 pc L (S) n kd σ τ ρ ce sl :=
  r_pure (fun ad p e R s m args below meth c H locs ls Z hx hb hL hown hts kk => lv_dload_n hx hb hd hi (hL.2.2 i _ (trL_get hl)) kk) k
theorem r_dload {i : Nat} {x : UInt64} (hd : decode X.2.1 pc = .ok (.dload i, 2)) (hl : L[i]? = some (some (.double x))) (k : WP l G own X dm K KE n0 (pc + 2) L (.double x :: S) n kd σ τ ρ ce sl) : WP l G own X dm K KE n0 pc L (S) n kd σ τ ρ ce sl :=
  r_pure (fun ad p e R s m args below meth c H locs ls Z hx hb hL hown hts kk => lv_dload hx hb hd (hL.2.2 i _ (trL_get hl)) kk) k
theorem r_aload_n {q : Fin 4} {i a : Nat} (hd : decode X.2.1 pc = .ok (.aload_n q, 1)) (hi : (q : Nat) = i) (hl : L[i]? = some (some (.ref a))) (k : WP l G own X dm K KE n0 (pc + 1) L (.ref a :: S) n kd σ τ ρ ce sl) : WP l G own X dm K KE n0 pc L (S) n kd σ τ ρ ce sl :=
  r_pure (fun ad p e R s m args below meth c H locs ls Z hx hb hL hown hts kk => lv_aload_n hx hb hd hi (hL.2.2 i _ (trL_get hl)) kk) k
theorem r_aload {i a : Nat} (hd : decode X.2.1 pc = .ok (.aload i, 2)) (hl : L[i]? = some (some (.ref a))) (k : WP l G own X dm K KE n0 (pc + 2) L (.ref a :: S) n kd σ τ ρ ce sl) : WP l G own X dm K KE n0 pc L (S) n kd σ τ ρ ce sl :=
  r_pure (fun ad p e R s m args below meth c H locs ls Z hx hb hL hown hts kk => lv_aload hx hb hd (hL.2.2 i _ (trL_get hl)) kk) k
theorem r_iadd {a b : Int} (hd : decode X.2.1 pc = .ok (.iadd, 1)) (k : WP l G own X dm K KE n0 (pc + 1) L (.int (iI (a + b)) :: S) n kd σ τ ρ ce sl) : WP l G own X dm K KE n0 pc L (.int (iI b) :: .int (iI a) :: S) n kd σ τ ρ ce sl :=
  r_pure (fun ad p e R s m args below meth c H locs ls Z hx hb hL hown hts kk => lv_iadd hx hb hd (by rw [← iI_add]; exact kk)) k
theorem r_isub {a b : Int} (hd : decode X.2.1 pc = .ok (.isub, 1)) (k : WP l G own X dm K KE n0 (pc + 1) L (.int (iI (a - b)) :: S) n kd σ τ ρ ce sl) : WP l G own X dm K KE n0 pc L (.int (iI b) :: .int (iI a) :: S) n kd σ τ ρ ce sl :=
  r_pure (fun ad p e R s m args below meth c H locs ls Z hx hb hL hown hts kk => lv_isub hx hb hd (by rw [← iI_sub]; exact kk)) k
theorem r_imul {a b : Int} (hd : decode X.2.1 pc = .ok (.imul, 1)) (k : WP l G own X dm K KE n0 (pc + 1) L (.int (iI (a * b)) :: S) n kd σ τ ρ ce sl) : WP l G own X dm K KE n0 pc L (.int (iI b) :: .int (iI a) :: S) n kd σ τ ρ ce sl :=
  r_pure (fun ad p e R s m args below meth c H locs ls Z hx hb hL hown hts kk => lv_imul hx hb hd (by rw [← iI_mul]; exact kk)) k
theorem r_ladd {a b : Int} (hd : decode X.2.1 pc = .ok (.ladd, 1)) (k : WP l G own X dm K KE n0 (pc + 1) L (.long (jJ (a + b)) :: S) n kd σ τ ρ ce sl) : WP l G own X dm K KE n0 pc L (.long (jJ b) :: .long (jJ a) :: S) n kd σ τ ρ ce sl :=
  r_pure (fun ad p e R s m args below meth c H locs ls Z hx hb hL hown hts kk => lv_ladd hx hb hd (by rw [← jJ_add]; exact kk)) k
theorem r_lsub {a b : Int} (hd : decode X.2.1 pc = .ok (.lsub, 1)) (k : WP l G own X dm K KE n0 (pc + 1) L (.long (jJ (a - b)) :: S) n kd σ τ ρ ce sl) : WP l G own X dm K KE n0 pc L (.long (jJ b) :: .long (jJ a) :: S) n kd σ τ ρ ce sl :=
  r_pure (fun ad p e R s m args below meth c H locs ls Z hx hb hL hown hts kk => lv_lsub hx hb hd (by rw [← jJ_sub]; exact kk)) k
theorem r_lmul {a b : Int} (hd : decode X.2.1 pc = .ok (.lmul, 1)) (k : WP l G own X dm K KE n0 (pc + 1) L (.long (jJ (a * b)) :: S) n kd σ τ ρ ce sl) : WP l G own X dm K KE n0 pc L (.long (jJ b) :: .long (jJ a) :: S) n kd σ τ ρ ce sl :=
  r_pure (fun ad p e R s m args below meth c H locs ls Z hx hb hL hown hts kk => lv_lmul hx hb hd (by rw [← jJ_mul]; exact kk)) k
theorem r_i2l {a : Int} (hd : decode X.2.1 pc = .ok (.i2l, 1)) (ha : inR a) (k : WP l G own X dm K KE n0 (pc + 1) L (.long (jJ a) :: S) n kd σ τ ρ ce sl) : WP l G own X dm K KE n0 pc L (.int (iI a) :: S) n kd σ τ ρ ce sl :=
  r_pure (fun ad p e R s m args below meth c H locs ls Z hx hb hL hown hts kk => lv_i2l hx hb hd (iI_toLong ha) kk) k
theorem r_dup {v : Value} (hd : decode X.2.1 pc = .ok (.dup, 1)) (hv : v.category = 1) (k : WP l G own X dm K KE n0 (pc + 1) L (v :: v :: S) n kd σ τ ρ ce sl) : WP l G own X dm K KE n0 pc L (v :: S) n kd σ τ ρ ce sl :=
  r_pure (fun ad p e R s m args below meth c H locs ls Z hx hb hL hown hts kk => lv_dup hx hb hd (by rw [trv_cat]; exact hv) kk) k
theorem r_dup2 {v w : Value} (hd : decode X.2.1 pc = .ok (.dup2, 1)) (hv : v.category = 1) (hw : w.category = 1) (k : WP l G own X dm K KE n0 (pc + 1) L (v :: w :: v :: w :: S) n kd σ τ ρ ce sl) : WP l G own X dm K KE n0 pc L (v :: w :: S) n kd σ τ ρ ce sl :=
  r_pure (fun ad p e R s m args below meth c H locs ls Z hx hb hL hown hts kk => lv_dup2_11 hx hb hd (by rw [trv_cat]; exact hv) (by rw [trv_cat]; exact hw) kk) k
theorem r_pop {v : Value} (hd : decode X.2.1 pc = .ok (.pop, 1)) (hv : v.category = 1) (k : WP l G own X dm K KE n0 (pc + 1) L (S) n kd σ τ ρ ce sl) : WP l G own X dm K KE n0 pc L (v :: S) n kd σ τ ρ ce sl :=
  r_pure (fun ad p e R s m args below meth c H locs ls Z hx hb hL hown hts kk => lv_pop hx hb hd (by rw [trv_cat]; exact hv) kk) k
theorem r_icmp_eq {a b : Int} {off : Int} {tgt : Nat} (hd : decode X.2.1 pc = .ok (.if_icmp .eq off, 3)) (ht : (pc : Int) + off = (tgt : Int)) (ha : inR a) (hb2 : inR b) (k1 : a = b → WP l G own X dm K KE n0 tgt L S n kd σ τ ρ ce sl) (k2 : a ≠ b → WP l G own X dm K KE n0 (pc + 3) L S n kd σ τ ρ ce sl) : WP l G own X dm K KE n0 pc L (.int (iI b) :: .int (iI a) :: S) n kd σ τ ρ ce sl :=
  r_br (fun ad p e R s m args below meth c H locs ls Z hx hb q1 q2 => lv_icmp_eq hx hb hd ht (fun q => q1 ((iI_eq ha hb2).mp q)) (fun q => q2 (fun z => q ((iI_eq ha hb2).mpr z)))) k1 k2
theorem r_icmp_ne {a b : Int} {off : Int} {tgt : Nat} (hd : decode X.2.1 pc = .ok (.if_icmp .ne off, 3)) (ht : (pc : Int) + off = (tgt : Int)) (ha : inR a) (hb2 : inR b) (k1 : a ≠ b → WP l G own X dm K KE n0 tgt L S n kd σ τ ρ ce sl) (k2 : a = b → WP l G own X dm K KE n0 (pc + 3) L S n kd σ τ ρ ce sl) : WP l G own X dm K KE n0 pc L (.int (iI b) :: .int (iI a) :: S) n kd σ τ ρ ce sl :=
  r_br (fun ad p e R s m args below meth c H locs ls Z hx hb q1 q2 => lv_icmp_ne hx hb hd ht (fun q => q1 (fun z => q ((iI_eq ha hb2).mpr z))) (fun q => q2 ((iI_eq ha hb2).mp q))) k1 k2
theorem r_icmp_lt {a b : Int} {off : Int} {tgt : Nat} (hd : decode X.2.1 pc = .ok (.if_icmp .lt off, 3)) (ht : (pc : Int) + off = (tgt : Int)) (ha : inR a) (hb2 : inR b) (k1 : a < b → WP l G own X dm K KE n0 tgt L S n kd σ τ ρ ce sl) (k2 : b ≤ a → WP l G own X dm K KE n0 (pc + 3) L S n kd σ τ ρ ce sl) : WP l G own X dm K KE n0 pc L (.int (iI b) :: .int (iI a) :: S) n kd σ τ ρ ce sl :=
  r_br (fun ad p e R s m args below meth c H locs ls Z hx hb q1 q2 => lv_icmp_lt hx hb hd ht (fun q => q1 ((iI_lt ha hb2).mp q)) (fun q => q2 (Int.not_lt.mp (fun z => q ((iI_lt ha hb2).mpr z))))) k1 k2
theorem r_icmp_ge {a b : Int} {off : Int} {tgt : Nat} (hd : decode X.2.1 pc = .ok (.if_icmp .ge off, 3)) (ht : (pc : Int) + off = (tgt : Int)) (ha : inR a) (hb2 : inR b) (k1 : b ≤ a → WP l G own X dm K KE n0 tgt L S n kd σ τ ρ ce sl) (k2 : a < b → WP l G own X dm K KE n0 (pc + 3) L S n kd σ τ ρ ce sl) : WP l G own X dm K KE n0 pc L (.int (iI b) :: .int (iI a) :: S) n kd σ τ ρ ce sl :=
  r_br (fun ad p e R s m args below meth c H locs ls Z hx hb q1 q2 => lv_icmp_ge hx hb hd ht (fun q => q1 ((iI_le hb2 ha).mp q)) (fun q => q2 (Int.not_le.mp (fun z => q ((iI_le hb2 ha).mpr z))))) k1 k2
theorem r_icmp_gt {a b : Int} {off : Int} {tgt : Nat} (hd : decode X.2.1 pc = .ok (.if_icmp .gt off, 3)) (ht : (pc : Int) + off = (tgt : Int)) (ha : inR a) (hb2 : inR b) (k1 : b < a → WP l G own X dm K KE n0 tgt L S n kd σ τ ρ ce sl) (k2 : a ≤ b → WP l G own X dm K KE n0 (pc + 3) L S n kd σ τ ρ ce sl) : WP l G own X dm K KE n0 pc L (.int (iI b) :: .int (iI a) :: S) n kd σ τ ρ ce sl :=
  r_br (fun ad p e R s m args below meth c H locs ls Z hx hb q1 q2 => lv_icmp_gt hx hb hd ht (fun q => q1 ((iI_lt hb2 ha).mp q)) (fun q => q2 (Int.not_lt.mp (fun z => q ((iI_lt hb2 ha).mpr z))))) k1 k2
theorem r_icmp_le {a b : Int} {off : Int} {tgt : Nat} (hd : decode X.2.1 pc = .ok (.if_icmp .le off, 3)) (ht : (pc : Int) + off = (tgt : Int)) (ha : inR a) (hb2 : inR b) (k1 : a ≤ b → WP l G own X dm K KE n0 tgt L S n kd σ τ ρ ce sl) (k2 : b < a → WP l G own X dm K KE n0 (pc + 3) L S n kd σ τ ρ ce sl) : WP l G own X dm K KE n0 pc L (.int (iI b) :: .int (iI a) :: S) n kd σ τ ρ ce sl :=
  r_br (fun ad p e R s m args below meth c H locs ls Z hx hb q1 q2 => lv_icmp_le hx hb hd ht (fun q => q1 ((iI_le ha hb2).mp q)) (fun q => q2 (Int.not_le.mp (fun z => q ((iI_le ha hb2).mpr z))))) k1 k2
theorem r_if_eq {a : Int} {off : Int} {tgt : Nat} (hd : decode X.2.1 pc = .ok (.ifCond .eq off, 3)) (ht : (pc : Int) + off = (tgt : Int)) (ha : inR a) (k1 : a = 0 → WP l G own X dm K KE n0 tgt L S n kd σ τ ρ ce sl) (k2 : a ≠ 0 → WP l G own X dm K KE n0 (pc + 3) L S n kd σ τ ρ ce sl) : WP l G own X dm K KE n0 pc L (.int (iI a) :: S) n kd σ τ ρ ce sl :=
  r_br (fun ad p e R s m args below meth c H locs ls Z hx hb q1 q2 => lv_if_eq hx hb hd ht (fun q => q1 ((iI_eq0 ha).mp q)) (fun q => q2 (fun z => q ((iI_eq0 ha).mpr z)))) k1 k2
theorem r_if_ne {a : Int} {off : Int} {tgt : Nat} (hd : decode X.2.1 pc = .ok (.ifCond .ne off, 3)) (ht : (pc : Int) + off = (tgt : Int)) (ha : inR a) (k1 : a ≠ 0 → WP l G own X dm K KE n0 tgt L S n kd σ τ ρ ce sl) (k2 : a = 0 → WP l G own X dm K KE n0 (pc + 3) L S n kd σ τ ρ ce sl) : WP l G own X dm K KE n0 pc L (.int (iI a) :: S) n kd σ τ ρ ce sl :=
  r_br (fun ad p e R s m args below meth c H locs ls Z hx hb q1 q2 => lv_if_ne hx hb hd ht (fun q => q1 (fun z => q ((iI_eq0 ha).mpr z))) (fun q => q2 ((iI_eq0 ha).mp q))) k1 k2
theorem r_if_lt {a : Int} {off : Int} {tgt : Nat} (hd : decode X.2.1 pc = .ok (.ifCond .lt off, 3)) (ht : (pc : Int) + off = (tgt : Int)) (ha : inR a) (k1 : a < 0 → WP l G own X dm K KE n0 tgt L S n kd σ τ ρ ce sl) (k2 : 0 ≤ a → WP l G own X dm K KE n0 (pc + 3) L S n kd σ τ ρ ce sl) : WP l G own X dm K KE n0 pc L (.int (iI a) :: S) n kd σ τ ρ ce sl :=
  r_br (fun ad p e R s m args below meth c H locs ls Z hx hb q1 q2 => lv_if_lt hx hb hd ht (fun q => q1 ((iI_lt0 ha).mp q)) (fun q => q2 (Int.not_lt.mp (fun z => q ((iI_lt0 ha).mpr z))))) k1 k2
theorem r_if_ge {a : Int} {off : Int} {tgt : Nat} (hd : decode X.2.1 pc = .ok (.ifCond .ge off, 3)) (ht : (pc : Int) + off = (tgt : Int)) (ha : inR a) (k1 : 0 ≤ a → WP l G own X dm K KE n0 tgt L S n kd σ τ ρ ce sl) (k2 : a < 0 → WP l G own X dm K KE n0 (pc + 3) L S n kd σ τ ρ ce sl) : WP l G own X dm K KE n0 pc L (.int (iI a) :: S) n kd σ τ ρ ce sl :=
  r_br (fun ad p e R s m args below meth c H locs ls Z hx hb q1 q2 => lv_if_ge hx hb hd ht (fun q => q1 ((iI_ge0 ha).mp q)) (fun q => q2 (Int.not_le.mp (fun z => q ((iI_ge0 ha).mpr z))))) k1 k2
theorem r_if_gt {a : Int} {off : Int} {tgt : Nat} (hd : decode X.2.1 pc = .ok (.ifCond .gt off, 3)) (ht : (pc : Int) + off = (tgt : Int)) (ha : inR a) (k1 : 0 < a → WP l G own X dm K KE n0 tgt L S n kd σ τ ρ ce sl) (k2 : a ≤ 0 → WP l G own X dm K KE n0 (pc + 3) L S n kd σ τ ρ ce sl) : WP l G own X dm K KE n0 pc L (.int (iI a) :: S) n kd σ τ ρ ce sl :=
  r_br (fun ad p e R s m args below meth c H locs ls Z hx hb q1 q2 => lv_if_gt hx hb hd ht (fun q => q1 ((iI_gt0 ha).mp q)) (fun q => q2 (Int.not_lt.mp (fun z => q ((iI_gt0 ha).mpr z))))) k1 k2
theorem r_if_le {a : Int} {off : Int} {tgt : Nat} (hd : decode X.2.1 pc = .ok (.ifCond .le off, 3)) (ht : (pc : Int) + off = (tgt : Int)) (ha : inR a) (k1 : a ≤ 0 → WP l G own X dm K KE n0 tgt L S n kd σ τ ρ ce sl) (k2 : 0 < a → WP l G own X dm K KE n0 (pc + 3) L S n kd σ τ ρ ce sl) : WP l G own X dm K KE n0 pc L (.int (iI a) :: S) n kd σ τ ρ ce sl :=
  r_br (fun ad p e R s m args below meth c H locs ls Z hx hb q1 q2 => lv_if_le hx hb hd ht (fun q => q1 ((iI_le0 ha).mp q)) (fun q => q2 (Int.not_le.mp (fun z => q ((iI_le0 ha).mpr z))))) k1 k2
theorem r_goto {off : Int} {tgt : Nat} (hd : decode X.2.1 pc = .ok (.goto off, 3)) (ht : (pc : Int) + off = (tgt : Int)) (k : WP l G own X dm K KE n0 tgt L S n kd σ τ ρ ce sl) : WP l G own X dm K KE n0 pc L S n kd σ τ ρ ce sl :=
  r_pure (fun ad p e R s m args below meth c H locs ls Z hx hb hL hown hts kk => lv_goto hx hb hd ht kk) k
theorem r_ifeq_b {P : Prop} [Decidable P] {off : Int} {tgt : Nat} (hd : decode X.2.1 pc = .ok (.ifCond .eq off, 3)) (ht : (pc : Int) + off = (tgt : Int)) (k1 : ¬ P → WP l G own X dm K KE n0 tgt L S n kd σ τ ρ ce sl) (k2 : P → WP l G own X dm K KE n0 (pc + 3) L S n kd σ τ ρ ce sl) : WP l G own X dm K KE n0 pc L (.int (iI (if P then 1 else 0)) :: S) n kd σ τ ρ ce sl :=
  r_if_eq hd ht (by constructor <;> split <;> decide) (fun q => k1 (fun z => by rw [if_pos z] at q; cases q)) (fun q => k2 (Decidable.not_not.mp (fun z => q (if_neg z))))
theorem r_ifne_b {P : Prop} [Decidable P] {off : Int} {tgt : Nat} (hd : decode X.2.1 pc = .ok (.ifCond .ne off, 3)) (ht : (pc : Int) + off = (tgt : Int)) (k1 : P → WP l G own X dm K KE n0 tgt L S n kd σ τ ρ ce sl) (k2 : ¬ P → WP l G own X dm K KE n0 (pc + 3) L S n kd σ τ ρ ce sl) : WP l G own X dm K KE n0 pc L (.int (iI (if P then 1 else 0)) :: S) n kd σ τ ρ ce sl :=
  r_if_ne hd ht (by constructor <;> split <;> decide) (fun q => k1 (Decidable.not_not.mp (fun z => q (if_neg z)))) (fun q => k2 (fun z => by rw [if_pos z] at q; cases q))
theorem r_istore_n {q : Fin 4} {i : Nat} {x : Int32} (hd : decode X.2.1 pc = .ok (.istore_n q, 1)) (hi : (q : Nat) = i) (hn : i < X.2.2.1) {L' : List (Option Value)} (hL' : stL L i (.int x) = L') (k : WP l G own X dm K KE n0 (pc + 1) L' S n kd σ τ ρ ce sl) : WP l G own X dm K KE n0 pc L (.int x :: S) n kd σ τ ρ ce sl := by
  intro ad0 ad p e R s m args below meth c H locs ls Z C ha hH hS hL
  obtain ⟨hx, hb, -⟩ := id C
  refine lv_istore_n hx hb hd hi hL.has hn rfl (fun ls' h' => k ad0 ad p e R s m args below meth c H locs ls' Z C ha hH hS ?_)
  rw [← hL', ← trL_st]
  exact LsOK.st1 rfl  h'
theorem r_istore {i : Nat} {x : Int32} (hd : decode X.2.1 pc = .ok (.istore i, 2)) (hn : i < X.2.2.1) {L' : List (Option Value)} (hL' : stL L i (.int x) = L') (k : WP l G own X dm K KE n0 (pc + 2) L' S n kd σ τ ρ ce sl) : WP l G own X dm K KE n0 pc L (.int x :: S) n kd σ τ ρ ce sl := by
  intro ad0 ad p e R s m args below meth c H locs ls Z C ha hH hS hL
  obtain ⟨hx, hb, -⟩ := id C
  refine lv_istore hx hb hd  hL.has hn rfl (fun ls' h' => k ad0 ad p e R s m args below meth c H locs ls' Z C ha hH hS ?_)
  rw [← hL', ← trL_st]
  exact LsOK.st1 rfl  h'
theorem r_lstore_n {q : Fin 4} {i : Nat} {x : Int64} (hd : decode X.2.1 pc = .ok (.lstore_n q, 1)) (hi : (q : Nat) = i) (hn : i + 1 < X.2.2.1) (hn2 : i + 1 < L.length) {L' : List (Option Value)} (hL' : stL L i (.long x) = L') (k : WP l G own X dm K KE n0 (pc + 1) L' S n kd σ τ ρ ce sl) : WP l G own X dm K KE n0 pc L (.long x :: S) n kd σ τ ρ ce sl := by
  intro ad0 ad p e R s m args below meth c H locs ls Z C ha hH hS hL
  obtain ⟨hx, hb, -⟩ := id C
  refine lv_lstore_n hx hb hd hi hL.has hn rfl (fun ls' h' => k ad0 ad p e R s m args below meth c H locs ls' Z C ha hH hS ?_)
  rw [← hL', ← trL_st]
  exact LsOK.st2 rfl (by rw [trL_len]; exact hn2)  h'
theorem r_lstore {i : Nat} {x : Int64} (hd : decode X.2.1 pc = .ok (.lstore i, 2)) (hn : i + 1 < X.2.2.1) (hn2 : i + 1 < L.length) {L' : List (Option Value)} (hL' : stL L i (.long x) = L') (k : WP l G own X dm K KE n0 (pc + 2) L' S n kd σ τ ρ ce sl) : WP l G own X dm K KE n0 pc L (.long x :: S) n kd σ τ ρ ce sl := by
  intro ad0 ad p e R s m args below meth c H locs ls Z C ha hH hS hL
  obtain ⟨hx, hb, -⟩ := id C
  refine lv_lstore hx hb hd  hL.has hn rfl (fun ls' h' => k ad0 ad p e R s m args below meth c H locs ls' Z C ha hH hS ?_)
  rw [← hL', ← trL_st]
  exact LsOK.st2 rfl (by rw [trL_len]; exact hn2)  h'
theorem r_dstore_n {q : Fin 4} {i : Nat} {x : UInt64} (hd : decode X.2.1 pc = .ok (.dstore_n q, 1)) (hi : (q : Nat) = i) (hn : i + 1 < X.2.2.1) (hn2 : i + 1 < L.length) {L' : List (Option Value)} (hL' : stL L i (.double x) = L') (k : WP l G own X dm K KE n0 (pc + 1) L' S n kd σ τ ρ ce sl) : WP l G own X dm K KE n0 pc L (.double x :: S) n kd σ τ ρ ce sl := by
  intro ad0 ad p e R s m args below meth c H locs ls Z C ha hH hS hL
  obtain ⟨hx, hb, -⟩ := id C
  refine lv_dstore_n hx hb hd hi hL.has hn rfl (fun ls' h' => k ad0 ad p e R s m args below meth c H locs ls' Z C ha hH hS ?_)
  rw [← hL', ← trL_st]
  exact LsOK.st2 rfl (by rw [trL_len]; exact hn2)  h'
theorem r_dstore {i : Nat} {x : UInt64} (hd : decode X.2.1 pc = .ok (.dstore i, 2)) (hn : i + 1 < X.2.2.1) (hn2 : i + 1 < L.length) {L' : List (Option Value)} (hL' : stL L i (.double x) = L') (k : WP l G own X dm K KE n0 (pc + 2) L' S n kd σ τ ρ ce sl) : WP l G own X dm K KE n0 pc L (.double x :: S) n kd σ τ ρ ce sl := by
  intro ad0 ad p e R s m args below meth c H locs ls Z C ha hH hS hL
  obtain ⟨hx, hb, -⟩ := id C
  refine lv_dstore hx hb hd  hL.has hn rfl (fun ls' h' => k ad0 ad p e R s m args below meth c H locs ls' Z C ha hH hS ?_)
  rw [← hL', ← trL_st]
  exact LsOK.st2 rfl (by rw [trL_len]; exact hn2)  h'
theorem r_astore_n {q : Fin 4} {i a : Nat} (hd : decode X.2.1 pc = .ok (.astore_n q, 1)) (hi : (q : Nat) = i) (hn : i < X.2.2.1) {L' : List (Option Value)} (hL' : stL L i (.ref a) = L') (k : WP l G own X dm K KE n0 (pc + 1) L' S n kd σ τ ρ ce sl) : WP l G own X dm K KE n0 pc L (.ref a :: S) n kd σ τ ρ ce sl := by
  intro ad0 ad p e R s m args below meth c H locs ls Z C ha hH hS hL
  obtain ⟨hx, hb, -⟩ := id C
  refine lv_astore_n hx hb hd hi hL.has hn rfl (fun ls' h' => k ad0 ad p e R s m args below meth c H locs ls' Z C ha hH hS ?_)
  rw [← hL', ← trL_st]
  exact LsOK.st1 rfl  h'
theorem r_astore {i a : Nat} (hd : decode X.2.1 pc = .ok (.astore i, 2)) (hn : i < X.2.2.1) {L' : List (Option Value)} (hL' : stL L i (.ref a) = L') (k : WP l G own X dm K KE n0 (pc + 2) L' S n kd σ τ ρ ce sl) : WP l G own X dm K KE n0 pc L (.ref a :: S) n kd σ τ ρ ce sl := by
  intro ad0 ad p e R s m args below meth c H locs ls Z C ha hH hS hL
  obtain ⟨hx, hb, -⟩ := id C
  refine lv_astore hx hb hd  hL.has hn rfl (fun ls' h' => k ad0 ad p e R s m args below meth c H locs ls' Z C ha hH hS ?_)
  rw [← hL', ← trL_st]
  exact LsOK.st1 rfl  h'
theorem r_iinc {i : Nat} {z a : Int} (hd : decode X.2.1 pc = .ok (.iinc i z, 3)) (hl : L[i]? = some (some (.int (iI a)))) (hn : i < X.2.2.1) {L' : List (Option Value)} (hL' : stL L i (.int (iI (a + z))) = L') (k : WP l G own X dm K KE n0 (pc + 3) L' S n kd σ τ ρ ce sl) : WP l G own X dm K KE n0 pc L S n kd σ τ ρ ce sl := by
  intro ad0 ad p e R s m args below meth c H locs ls Z C ha hH hS hL
  obtain ⟨hx, hb, -⟩ := id C
  have h0 : (i, Value.int (iI a)) ∈ lpairs (trL ad L) := lpairs_mem.mpr (trL_get hl)
  obtain ⟨j, hj⟩ := List.mem_iff_getElem?.mp h0
  refine lv_iinc hx hb hd hL.has hj (iI_add a z).symm hn rfl (fun ls' h' => k ad0 ad p e R s m args below meth c H locs ls' Z C ha hH hS ?_)
  rw [← hL', ← trL_st]
  exact LsOK.st1 rfl h'
end Rows
theorem fval_trv (ad : Nat → Nat) (t : Nat) (a g : Int) (r : Option Nat) : trv ad (fval t a g r) = fval t a g (r.map ad) := by
  unfold fval
  match t with
  | 0 => rfl
  | 1 => rfl
  | t + 2 => cases r <;> rfl
/-- a field by its row of the constant pool -/
def FLk (own : String) (idx ci k t : Nat) (fin : Bool) (ty : FieldType) : Prop := ∃ (C : String) (T : u_T) (N : Nat) (ty0 : Nat → FieldType), vwCl[ci]? = some (C, T, N) ∧ k < N ∧ (tg ci)[k]? = some t ∧ (∀ w ∈ u_ws C T N, w ∈ TBg) ∧ Cond.fieldLink own idx (T k).1 (T k).2.1 (T k).2.2.1 ∈ TBg ∧ (T k).2.2.2 = fin ∧ (∀ k, k < N → parseFieldDescriptor (T k).2.2.1 = some (ty0 k)) ∧ (∀ a, a < N → ∀ b, b < N → a ≠ b → (T a).2.1 ≠ (T b).2.1) ∧ parseFieldDescriptor (T k).2.2.1 = some ty ∧ (T k).1 = C
/-- a class by its number: its default object -/
def CLk (ci N : Nat) (C : String) : Prop := ∃ (T : u_T) (ty0 : Nat → FieldType), vwCl[ci]? = some (C, T, N) ∧ (∀ w ∈ u_ws C T N, w ∈ TBg) ∧ (∀ k, k < N → parseFieldDescriptor (T k).2.2.1 = some (ty0 k)) ∧ (∀ j, j < N → defaultValue (ty0 j) = vp_V (objF (fun x => x) (tg ci) (fun _ => 0) (fun _ => 0) (fun _ => none)) j) ∧ Cond.instantiable C N ∈ TBg ∧ Cond.initialized C ∈ TBg
theorem RepH.obj {G : GG} {ad : Nat → Nat} {n : Nat} {kd : KT} {σ τ : ST} {ρ : RT} {H : Heap} {p ci : Nat} (h : RepH G ad n kd σ τ ρ H) (hk : kd p = (0, ci)) : p < n ∧ (wl G ad n kd σ τ ρ)[p]? = some (ad p, .inr (ci, objF ad (tg ci) (σ p) (τ p) (ρ p))) := by
  have hp : p < n := h.2.2.1 p (by rw [hk]; exact Nat.le_of_ble_eq_true rfl)
  exact ⟨hp, by rw [wl_get hp, hk]; rfl⟩
theorem RepH.ints {G : GG} {ad : Nat → Nat} {n : Nat} {kd : KT} {σ τ : ST} {ρ : RT} {H : Heap} {p len : Nat} (h : RepH G ad n kd σ τ ρ H) (hk : kd p = (1, len)) : p < n ∧ (wl G ad n kd σ τ ρ)[p]? = some (ad p, .inl (G.2.2.1, len, .inl (fun j => iI (σ p j)))) := by
  have hp : p < n := h.2.2.1 p (by rw [hk]; exact Nat.le_of_ble_eq_true rfl)
  exact ⟨hp, by rw [wl_get hp, hk]; rfl⟩
theorem RepH.longs {G : GG} {ad : Nat → Nat} {n : Nat} {kd : KT} {σ τ : ST} {ρ : RT} {H : Heap} {p len : Nat} (h : RepH G ad n kd σ τ ρ H) (hk : kd p = (2, len)) : p < n ∧ (wl G ad n kd σ τ ρ)[p]? = some (ad p, .inl (G.2.2.2.1, len, .inr (.inl (fun j => jJ (τ p j))))) := by
  have hp : p < n := h.2.2.1 p (by rw [hk]; exact Nat.le_of_ble_eq_true rfl)
  exact ⟨hp, by rw [wl_get hp, hk]; rfl⟩
theorem RepH.refs {G : GG} {ad : Nat → Nat} {n : Nat} {kd : KT} {σ τ : ST} {ρ : RT} {H : Heap} {p len : Nat} (h : RepH G ad n kd σ τ ρ H) (hk : kd p = (3, len)) : p < n ∧ (wl G ad n kd σ τ ρ)[p]? = some (ad p, .inl (G.2.2.2.2.1, len, .inr (.inr (.inr (.inr (fun j => (ρ p j).map ad)))))) := by
  have hp : p < n := h.2.2.1 p (by rw [hk]; exact Nat.le_of_ble_eq_true rfl)
  exact ⟨hp, by rw [wl_get hp, hk]; rfl⟩
section Rows
variable {l : Launch} {G : GG} {own : String} {X : MI} {dm : Nat × Nat × Nat} {K : KK} {KE : KX} {n0 pc : Nat} {L : List (Option Value)} {S : List Value} {n : Nat} {kd : KT} {σ τ : ST} {ρ : RT} {ce sl : Nat}
theorem r_get {idx ci k t p : Nat} {fin : Bool} {ty : FieldType} (hf : FLk own idx ci k t fin ty) (hd : decode X.2.1 pc = .ok (.getfield idx, 3)) (hk : kd p = (0, ci)) (kk : WP l G own X dm K KE n0 (pc + 3) L (fval t (σ p k) (τ p k) (ρ p k) :: S) n kd σ τ ρ ce sl) : WP l G own X dm K KE n0 pc L (.ref p :: S) n kd σ τ ρ ce sl := by
  intro ad0 ad p9 e R s m args below meth c H locs ls Z C ha hH hS hL
  obtain ⟨hx, hb, hml, hown, hts, hlk, henv, -⟩ := id C
  obtain ⟨Cn, T, N, ty0, h1, h2, h3, h4, h5, h6, h7, h8, h9, h10⟩ := hf
  refine va_get hx hb hts h4 hown henv.1 hH.1 p (hH.obj hk).2 h1 k h2 (hts _ h5) (fun _ z => z) (objF_get h3) hd ?_
  have h := kk ad0 ad p9 e R s m args below meth c H locs ls Z C ha hH hS hL
  rw [List.map_cons, fval_trv] at h
  exact h
theorem r_get_i {idx ci k p : Nat} {fin : Bool} {ty : FieldType} (hf : FLk own idx ci k 0 fin ty) (hd : decode X.2.1 pc = .ok (.getfield idx, 3)) (hk : kd p = (0, ci)) (kk : WP l G own X dm K KE n0 (pc + 3) L (.int (iI (σ p k)) :: S) n kd σ τ ρ ce sl) : WP l G own X dm K KE n0 pc L (.ref p :: S) n kd σ τ ρ ce sl := r_get hf hd hk kk
theorem r_get_l {idx ci k p : Nat} {fin : Bool} {ty : FieldType} (hf : FLk own idx ci k 1 fin ty) (hd : decode X.2.1 pc = .ok (.getfield idx, 3)) (hk : kd p = (0, ci)) (kk : WP l G own X dm K KE n0 (pc + 3) L (.long (jJ (τ p k)) :: S) n kd σ τ ρ ce sl) : WP l G own X dm K KE n0 pc L (.ref p :: S) n kd σ τ ρ ce sl := r_get hf hd hk kk
theorem r_get_r {idx ci k p q : Nat} {fin : Bool} {ty : FieldType} (hf : FLk own idx ci k 2 fin ty) (hd : decode X.2.1 pc = .ok (.getfield idx, 3)) (hk : kd p = (0, ci)) (hr : ρ p k = some q) (kk : WP l G own X dm K KE n0 (pc + 3) L (.ref q :: S) n kd σ τ ρ ce sl) : WP l G own X dm K KE n0 pc L (.ref p :: S) n kd σ τ ρ ce sl := r_get hf hd hk (by rw [hr]; exact kk)
theorem r_put_i {idx ci k p : Nat} {a : Int} (hf : FLk own idx ci k 0 false .int) (hd : decode X.2.1 pc = .ok (.putfield idx, 3)) (hk : kd p = (0, ci)) (kk : WP l G own X dm K KE n0 (pc + 3) L S n kd (up2 σ p k a) τ ρ ce sl) : WP l G own X dm K KE n0 pc L (.int (iI a) :: .ref p :: S) n kd σ τ ρ ce sl := by
  intro ad0 ad p9 e R s m args below meth c H locs ls Z C ha hH hS hL
  obtain ⟨hx, hb, hml, hown, hts, hlk, henv, -⟩ := id C
  obtain ⟨Cn, T, N, ty0, h1, h2, h3, h4, h5, h6, h7, h8, h9, h10⟩ := hf
  obtain ⟨hp, he⟩ := hH.obj hk
  refine va_put (v := .int (iI a)) hx hb hts h4 ty0 h7 h8 hown henv.1 hH.1 hH.2.1 hS p he h1 k h2 (hts _ h5) (fun _ z => z) h6 h9 rfl rfl (by rw [objF_len]; exact (List.getElem?_eq_some_iff.mp h3).1) hd (fun H1 locs1 hP hD hS1 => ?_)
  have e1 : (wl G ad n kd σ τ ρ).set p (ad p, .inr (ci, (objF ad (tg ci) (σ p) (τ p) (ρ p)).set k (.int (iI a)))) = wl G ad n kd (up2 σ p k a) τ ρ := by
    rw [← wl_set (σ' := up2 σ p k a) (τ' := τ) (ρ' := ρ) hp (fun j hj => ⟨up2_off σ hj, rfl, rfl⟩), hk]
    show _ = (wl G ad n kd σ τ ρ).set p (ad p, .inr (ci, objF ad (tg ci) (up2 σ p k a p) (τ p) (ρ p)))
    rw [← objF_set (f := σ p) (g := τ p) (r := ρ p) (f' := up2 σ p k a p) (g' := τ p) (r' := ρ p) h3 (fun j hj => ⟨by rw [up2_row]; exact if_neg hj, rfl, rfl⟩)]
    have e2 : up2 σ p k a p k = a := by rw [up2_row]; exact if_pos rfl
    rw [e2]
    rfl
  rw [e1] at hP hD
  exact kk ad0 ad p9 e R s m args below meth c H1 locs1 ls Z C ha ⟨hP, hD, hH.2.2.1, hH.2.2.2.1, Nat.le_trans henv.2.2.2.2.2.2.2 hS1.1⟩ hS1 hL
theorem r_put_z {idx ci k p : Nat} {a : Int} (ha01 : a = 0 ∨ a = 1) (hf : FLk own idx ci k 0 false .boolean) (hd : decode X.2.1 pc = .ok (.putfield idx, 3)) (hk : kd p = (0, ci)) (kk : WP l G own X dm K KE n0 (pc + 3) L S n kd (up2 σ p k a) τ ρ ce sl) : WP l G own X dm K KE n0 pc L (.int (iI a) :: .ref p :: S) n kd σ τ ρ ce sl := by
  intro ad0 ad p9 e R s m args below meth c H locs ls Z C ha hH hS hL
  obtain ⟨hx, hb, hml, hown, hts, hlk, henv, -⟩ := id C
  obtain ⟨Cn, T, N, ty0, h1, h2, h3, h4, h5, h6, h7, h8, h9, h10⟩ := hf
  obtain ⟨hp, he⟩ := hH.obj hk
  refine va_put (v := .int (iI a)) hx hb hts h4 ty0 h7 h8 hown henv.1 hH.1 hH.2.1 hS p he h1 k h2 (hts _ h5) (fun _ z => z) h6 h9 (by rcases ha01 with rfl | rfl <;> decide) (by rcases ha01 with rfl | rfl <;> decide) (by rw [objF_len]; exact (List.getElem?_eq_some_iff.mp h3).1) hd (fun H1 locs1 hP hD hS1 => ?_)
  have e1 : (wl G ad n kd σ τ ρ).set p (ad p, .inr (ci, (objF ad (tg ci) (σ p) (τ p) (ρ p)).set k (.int (iI a)))) = wl G ad n kd (up2 σ p k a) τ ρ := by
    rw [← wl_set (σ' := up2 σ p k a) (τ' := τ) (ρ' := ρ) hp (fun j hj => ⟨up2_off σ hj, rfl, rfl⟩), hk]
    show _ = (wl G ad n kd σ τ ρ).set p (ad p, .inr (ci, objF ad (tg ci) (up2 σ p k a p) (τ p) (ρ p)))
    rw [← objF_set (f := σ p) (g := τ p) (r := ρ p) (f' := up2 σ p k a p) (g' := τ p) (r' := ρ p) h3 (fun j hj => ⟨by rw [up2_row]; exact if_neg hj, rfl, rfl⟩)]
    have e2 : up2 σ p k a p k = a := by rw [up2_row]; exact if_pos rfl
    rw [e2]
    rfl
  rw [e1] at hP hD
  exact kk ad0 ad p9 e R s m args below meth c H1 locs1 ls Z C ha ⟨hP, hD, hH.2.2.1, hH.2.2.2.1, Nat.le_trans henv.2.2.2.2.2.2.2 hS1.1⟩ hS1 hL
theorem r_put_l {idx ci k p : Nat} {a : Int} (hf : FLk own idx ci k 1 false .long) (hd : decode X.2.1 pc = .ok (.putfield idx, 3)) (hk : kd p = (0, ci)) (kk : WP l G own X dm K KE n0 (pc + 3) L S n kd σ (up2 τ p k a) ρ ce sl) : WP l G own X dm K KE n0 pc L (.long (jJ a) :: .ref p :: S) n kd σ τ ρ ce sl := by
  intro ad0 ad p9 e R s m args below meth c H locs ls Z C ha hH hS hL
  obtain ⟨hx, hb, hml, hown, hts, hlk, henv, -⟩ := id C
  obtain ⟨Cn, T, N, ty0, h1, h2, h3, h4, h5, h6, h7, h8, h9, h10⟩ := hf
  obtain ⟨hp, he⟩ := hH.obj hk
  refine va_put (v := .long (jJ a)) hx hb hts h4 ty0 h7 h8 hown henv.1 hH.1 hH.2.1 hS p he h1 k h2 (hts _ h5) (fun _ z => z) h6 h9 rfl rfl (by rw [objF_len]; exact (List.getElem?_eq_some_iff.mp h3).1) hd (fun H1 locs1 hP hD hS1 => ?_)
  have e1 : (wl G ad n kd σ τ ρ).set p (ad p, .inr (ci, (objF ad (tg ci) (σ p) (τ p) (ρ p)).set k (.long (jJ a)))) = wl G ad n kd σ (up2 τ p k a) ρ := by
    rw [← wl_set (σ' := σ) (τ' := up2 τ p k a) (ρ' := ρ) hp (fun j hj => ⟨rfl, up2_off τ hj, rfl⟩), hk]
    show _ = (wl G ad n kd σ τ ρ).set p (ad p, .inr (ci, objF ad (tg ci) (σ p) (up2 τ p k a p) (ρ p)))
    rw [← objF_set (f := σ p) (g := τ p) (r := ρ p) (f' := σ p) (g' := up2 τ p k a p) (r' := ρ p) h3 (fun j hj => ⟨rfl, by rw [up2_row]; exact if_neg hj, rfl⟩)]
    have e2 : up2 τ p k a p k = a := by rw [up2_row]; exact if_pos rfl
    rw [e2]
    rfl
  rw [e1] at hP hD
  exact kk ad0 ad p9 e R s m args below meth c H1 locs1 ls Z C ha ⟨hP, hD, hH.2.2.1, hH.2.2.2.1, Nat.le_trans henv.2.2.2.2.2.2.2 hS1.1⟩ hS1 hL
/-- a constructor lays a reference into a final field -/
theorem r_put_rF {idx ci k p q : Nat} {ty : FieldType} (hty : (∃ z, ty = .object z) ∨ ∃ z, ty = .array z) (hin : X.1.name = "<init>") (hcl : (vwCl[ci]?).map (fun q => q.1) = some own) (hq : q < n) (hf : FLk own idx ci k 2 true ty) (hd : decode X.2.1 pc = .ok (.putfield idx, 3)) (hk : kd p = (0, ci)) (kk : WP l G own X dm K KE n0 (pc + 3) L S n kd σ τ (upR ρ p k (some q)) ce sl) : WP l G own X dm K KE n0 pc L (.ref q :: .ref p :: S) n kd σ τ ρ ce sl := by
  intro ad0 ad p9 e R s m args below meth c H locs ls Z C ha hH hS hL
  obtain ⟨hx, hb, hml, hown, hts, hlk, henv, hR, hnm, -⟩ := id C
  obtain ⟨Cn, T, N, ty0, h1, h2, h3, h4, h5, h6, h7, h8, h9, h10⟩ := hf
  obtain ⟨hp, he⟩ := hH.obj hk
  have hC : Cn = own := by rw [h1] at hcl; exact Option.some.inj hcl
  subst hC
  refine va_putF (v := .ref (ad q)) hx hb hts h4 ty0 h7 h8 hown henv.1 hH.1 hH.2.1 hS p he h1 k h2 (hts _ h5) (fun _ z => z) h6 (hnm.trans hin) h10 h9 (by rcases hty with ⟨z, rfl⟩ | ⟨z, rfl⟩ <;> rfl) (by rcases hty with ⟨z, rfl⟩ | ⟨z, rfl⟩ <;> rfl) (by rw [objF_len]; exact (List.getElem?_eq_some_iff.mp h3).1) hd (fun H1 locs1 hP hD hS1 => ?_)
  have e1 : (wl G ad n kd σ τ ρ).set p (ad p, .inr (ci, (objF ad (tg ci) (σ p) (τ p) (ρ p)).set k (.ref (ad q)))) = wl G ad n kd σ τ (upR ρ p k (some q)) := by
    rw [← wl_set (σ' := σ) (τ' := τ) (ρ' := upR ρ p k (some q)) hp (fun j hj => ⟨rfl, rfl, upR_off ρ hj⟩), hk]
    show _ = (wl G ad n kd σ τ ρ).set p (ad p, .inr (ci, objF ad (tg ci) (σ p) (τ p) (upR ρ p k (some q) p)))
    rw [← objF_set (f := σ p) (g := τ p) (r := ρ p) (f' := σ p) (g' := τ p) (r' := upR ρ p k (some q) p) h3 (fun j hj => ⟨rfl, rfl, by rw [upR_row]; exact if_neg hj⟩)]
    have e2 : upR ρ p k (some q) p k = some q := by rw [upR_row]; exact if_pos rfl
    rw [e2]
    rfl
  rw [e1] at hP hD
  refine kk ad0 ad p9 e R s m args below meth c H1 locs1 ls Z C ha ⟨hP, hD, hH.2.2.1, fun a b z hz => ?_, Nat.le_trans henv.2.2.2.2.2.2.2 hS1.1⟩ hS1 hL
  unfold upR at hz
  split at hz
  · cases hz; exact hq
  · exact hH.2.2.2.1 a b z hz
theorem r_iaload {p len k : Nat} {i : Int} (hd : decode X.2.1 pc = .ok (.iaload, 1)) (hk : kd p = (1, len)) (hi : i = (k : Int)) (hlt : k < len) (hlen : len < 2147483648) (kk : WP l G own X dm K KE n0 (pc + 1) L (.int (iI (σ p k)) :: S) n kd σ τ ρ ce sl) : WP l G own X dm K KE n0 pc L (.int (iI i) :: .ref p :: S) n kd σ τ ρ ce sl := by
  subst hi
  intro ad0 ad p9 e R s m args below meth c H locs ls Z C ha hH hS hL
  obtain ⟨hx, hb, hml, hown, hts, hlk, henv, -⟩ := id C
  refine va_iald hx hb henv.1 hH.1 p 0 (hH.ints hk).2 rfl (iI_in hlt hlen) hd ?_
  rw [iI_clamp (by omega)]
  exact kk ad0 ad p9 e R s m args below meth c H locs ls Z C ha hH hS hL
theorem r_iastore {p len k : Nat} {i a : Int} (hd : decode X.2.1 pc = .ok (.iastore, 1)) (hk : kd p = (1, len)) (hi : i = (k : Int)) (hlt : k < len) (hlen : len < 2147483648) (kk : WP l G own X dm K KE n0 (pc + 1) L S n kd (up2 σ p k a) τ ρ ce sl) : WP l G own X dm K KE n0 pc L (.int (iI a) :: .int (iI i) :: .ref p :: S) n kd σ τ ρ ce sl := by
  subst hi
  intro ad0 ad p9 e R s m args below meth c H locs ls Z C ha hH hS hL
  obtain ⟨hx, hb, hml, hown, hts, hlk, henv, -⟩ := id C
  obtain ⟨hp, he⟩ := hH.ints hk
  refine va_iast hx hb henv.1 hH.1 hH.2.1 hS p 0 he rfl (iI_in hlt hlen) hd (fun H1 locs1 hP hD hS1 => ?_)
  rw [iI_clamp (by omega)] at hP hD
  have e1 : (wl G ad n kd σ τ ρ).set p (ad p, .inl (G.2.2.1, len, .inl (upd (fun j => iI (σ p j)) k (iI a)))) = wl G ad n kd (up2 σ p k a) τ ρ := by
    rw [← wl_set (σ' := up2 σ p k a) (τ' := τ) (ρ' := ρ) hp (fun j hj => ⟨up2_off σ hj, rfl, rfl⟩), hk]
    show _ = (wl G ad n kd σ τ ρ).set p (ad p, .inl (G.2.2.1, len, .inl (fun j => iI (up2 σ p k a p j))))
    have e2 : upd (fun j => iI (σ p j)) k (iI a) = fun j => iI (up2 σ p k a p j) := by
      funext j
      rw [up2_row]
      unfold upd
      by_cases h : j = k <;> simp [h]
    rw [e2]
  rw [e1] at hP hD
  exact kk ad0 ad p9 e R s m args below meth c H1 locs1 ls Z C ha ⟨hP, hD, hH.2.2.1, hH.2.2.2.1, Nat.le_trans henv.2.2.2.2.2.2.2 hS1.1⟩ hS1 hL
theorem r_laload {p len k : Nat} {i : Int} (hd : decode X.2.1 pc = .ok (.laload, 1)) (hk : kd p = (2, len)) (hi : i = (k : Int)) (hlt : k < len) (hlen : len < 2147483648) (kk : WP l G own X dm K KE n0 (pc + 1) L (.long (jJ (τ p k)) :: S) n kd σ τ ρ ce sl) : WP l G own X dm K KE n0 pc L (.int (iI i) :: .ref p :: S) n kd σ τ ρ ce sl := by
  subst hi
  intro ad0 ad p9 e R s m args below meth c H locs ls Z C ha hH hS hL
  obtain ⟨hx, hb, hml, hown, hts, hlk, henv, -⟩ := id C
  refine va_lald hx hb henv.1 hH.1 p 1 (hH.longs hk).2 rfl (iI_in hlt hlen) hd ?_
  rw [iI_clamp (by omega)]
  exact kk ad0 ad p9 e R s m args below meth c H locs ls Z C ha hH hS hL
theorem r_lastore {p len k : Nat} {i a : Int} (hd : decode X.2.1 pc = .ok (.lastore, 1)) (hk : kd p = (2, len)) (hi : i = (k : Int)) (hlt : k < len) (hlen : len < 2147483648) (kk : WP l G own X dm K KE n0 (pc + 1) L S n kd σ (up2 τ p k a) ρ ce sl) : WP l G own X dm K KE n0 pc L (.long (jJ a) :: .int (iI i) :: .ref p :: S) n kd σ τ ρ ce sl := by
  subst hi
  intro ad0 ad p9 e R s m args below meth c H locs ls Z C ha hH hS hL
  obtain ⟨hx, hb, hml, hown, hts, hlk, henv, -⟩ := id C
  obtain ⟨hp, he⟩ := hH.longs hk
  refine va_last hx hb henv.1 hH.1 hH.2.1 hS p 1 he rfl (iI_in hlt hlen) hd (fun H1 locs1 hP hD hS1 => ?_)
  rw [iI_clamp (by omega)] at hP hD
  have e1 : (wl G ad n kd σ τ ρ).set p (ad p, .inl (G.2.2.2.1, len, .inr (.inl (vp_updL (fun j => jJ (τ p j)) k (jJ a))))) = wl G ad n kd σ (up2 τ p k a) ρ := by
    rw [← wl_set (σ' := σ) (τ' := up2 τ p k a) (ρ' := ρ) hp (fun j hj => ⟨rfl, up2_off τ hj, rfl⟩), hk]
    show _ = (wl G ad n kd σ τ ρ).set p (ad p, .inl (G.2.2.2.1, len, .inr (.inl (fun j => jJ (up2 τ p k a p j)))))
    have e2 : vp_updL (fun j => jJ (τ p j)) k (jJ a) = fun j => jJ (up2 τ p k a p j) := by
      funext j
      rw [up2_row]
      unfold vp_updL
      by_cases h : j = k <;> simp [h]
    rw [e2]
  rw [e1] at hP hD
  exact kk ad0 ad p9 e R s m args below meth c H1 locs1 ls Z C ha ⟨hP, hD, hH.2.2.1, hH.2.2.2.1, Nat.le_trans henv.2.2.2.2.2.2.2 hS1.1⟩ hS1 hL
theorem r_aaload {p len k q : Nat} {i : Int} (hd : decode X.2.1 pc = .ok (.aaload, 1)) (hk : kd p = (3, len)) (hi : i = (k : Int)) (hlt : k < len) (hlen : len < 2147483648) (hr : ρ p k = some q) (kk : WP l G own X dm K KE n0 (pc + 1) L (.ref q :: S) n kd σ τ ρ ce sl) : WP l G own X dm K KE n0 pc L (.int (iI i) :: .ref p :: S) n kd σ τ ρ ce sl := by
  subst hi
  intro ad0 ad p9 e R s m args below meth c H locs ls Z C ha hH hS hL
  obtain ⟨hx, hb, hml, hown, hts, hlk, henv, -⟩ := id C
  refine va_aldq hx hb henv.1 hH.1 p 2 (hH.refs hk).2 rfl (iI_in hlt hlen) hd ?_
  rw [iI_clamp (by omega), hr]
  exact kk ad0 ad p9 e R s m args below meth c H locs ls Z C ha hH hS hL
theorem r_aastore {p len k q : Nat} {i : Int} (hd : decode X.2.1 pc = .ok (.aastore, 1)) (hk : kd p = (3, len)) (hi : i = (k : Int)) (hlt : k < len) (hlen : len < 2147483648) (hq : kd q = (0, 3)) (kk : WP l G own X dm K KE n0 (pc + 1) L S n kd σ τ (upR ρ p k (some q)) ce sl) : WP l G own X dm K KE n0 pc L (.ref q :: .int (iI i) :: .ref p :: S) n kd σ τ ρ ce sl := by
  subst hi
  intro ad0 ad p9 e R s m args below meth c H locs ls Z C ha hH hS hL
  obtain ⟨hx, hb, hml, hown, hts, hlk, henv, -⟩ := id C
  obtain ⟨hp, he⟩ := hH.refs hk
  obtain ⟨hqn, hqe⟩ := hH.obj hq
  refine va_astq (r := (RX3, TX3, 4)) hx hb henv.1 hH.1 hH.2.1 hS p 2 q 3 he rfl hqe rfl (iI_in hlt hlen) hd (fun H1 locs1 hP hD hS1 => ?_)
  rw [iI_clamp (by omega)] at hP hD
  have e1 : (wl G ad n kd σ τ ρ).set p (ad p, .inl (G.2.2.2.2.1, len, .inr (.inr (.inr (.inr (va_up (fun j => (ρ p j).map ad) k (some (ad q)))))))) = wl G ad n kd σ τ (upR ρ p k (some q)) := by
    rw [← wl_set (σ' := σ) (τ' := τ) (ρ' := upR ρ p k (some q)) hp (fun j hj => ⟨rfl, rfl, upR_off ρ hj⟩), hk]
    show _ = (wl G ad n kd σ τ ρ).set p (ad p, .inl (G.2.2.2.2.1, len, .inr (.inr (.inr (.inr (fun j => (upR ρ p k (some q) p j).map ad))))))
    have e2 : va_up (fun j => (ρ p j).map ad) k (some (ad q)) = fun j => (upR ρ p k (some q) p j).map ad := by
      funext j
      rw [upR_row]
      unfold va_up
      by_cases h : j = k <;> simp [h]
    rw [e2]
  rw [e1] at hP hD
  refine kk ad0 ad p9 e R s m args below meth c H1 locs1 ls Z C ha ⟨hP, hD, hH.2.2.1, fun a b z hz => ?_, Nat.le_trans henv.2.2.2.2.2.2.2 hS1.1⟩ hS1 hL
  unfold upR at hz
  split at hz
  · cases hz; exact hqn
  · exact hH.2.2.2.1 a b z hz
theorem r_alen {p len t : Nat} (ht : t = 1 ∨ t = 3) (hd : decode X.2.1 pc = .ok (.arraylength, 1)) (hk : kd p = (t, len)) (kk : WP l G own X dm K KE n0 (pc + 1) L (.int (iI (len : Int)) :: S) n kd σ τ ρ ce sl) : WP l G own X dm K KE n0 pc L (.ref p :: S) n kd σ τ ρ ce sl := by
  intro ad0 ad p9 e R s m args below meth c H locs ls Z C ha hH hS hL
  obtain ⟨hx, hb, hml, hown, hts, hlk, henv, -⟩ := id C
  rcases ht with rfl | rfl
  · exact va_alen hx hb henv.1 hH.1 p 0 (hH.ints hk).2 rfl (iI_nI len).symm hd (kk ad0 ad p9 e R s m args below meth c H locs ls Z C ha hH hS hL)
  · exact va_alen hx hb henv.1 hH.1 p 2 (hH.refs hk).2 rfl (iI_nI len).symm hd (kk ad0 ad p9 e R s m args below meth c H locs ls Z C ha hH hS hL)
/-- a return -/
theorem r_ret {v : Option Value} (hK : K v n kd σ τ ρ) (hs : ∀ w, v = some w → scb n w = true) (hc : ce ≤ dm.2.1 ∧ sl ≤ dm.2.2) (hr : RS X pc v S) : WP l G own X dm K KE n0 pc L S n kd σ τ ρ ce sl := by
  intro ad0 ad p9 e R s m args below meth c H locs ls Z C ha hH hS hL
  obtain ⟨-, -, -, -, -, -, -, -, -, hE, -⟩ := id C
  exact hE v ad n kd σ τ ρ H locs ls pc S ce sl hK ha hH hS hc.1 hc.2 hs hr
theorem r_throw {E : String} (hK : KE E n kd σ τ ρ) (hc : ce + 1 ≤ dm.2.1 ∧ sl + 6 ≤ dm.2.2) (hT : TA own X.2.1 pc E) : WP l G own X dm K KE n0 pc L [] n kd σ τ ρ ce sl := by
  intro ad0 ad p9 e R s m args below meth c H locs ls Z C ha hH hS hL
  obtain ⟨-, -, -, -, -, -, -, -, -, -, hE⟩ := id C
  exact hE E ad n kd σ τ ρ H locs ls pc ce sl hK ha hH hS hc.1 hc.2 hL.1 hT
end Rows
end
