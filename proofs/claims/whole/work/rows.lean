section
-- ===== PART A: goes FIRST, ahead of the names: the tables' words, and 'selects' of the private methods out of them =====
/-- a private method of a class that the tables say can be made, by its rows of tables_1 -/
def lw_okq (q : MethodName × Nat) : Prop := (q.1.cls ≠ "java/lang/invoke/MethodHandle" ∧ q.1.cls ≠ "java/lang/invoke/VarHandle") ∧ Cond.instantiable q.1.cls q.2 ∈ tables_1 ∧ Cond.privateMethod q.1 ∈ tables_1 ∧ Cond.instanceMethod q.1 ∈ tables_1
theorem lw_p0 : lw_okq (⟨"TableMachine", "canAskFor", "(II)Z"⟩, 6) := ⟨⟨by decide +kernel, by decide +kernel⟩, List.mem_of_getElem? (i := 22) (by decide +kernel), List.mem_of_getElem? (i := 294) (by decide +kernel), List.mem_of_getElem? (i := 295) (by decide +kernel)⟩
theorem lw_p1 : lw_okq (⟨"java/lang/Throwable", "fillInStackTrace", "(I)Ljava/lang/Throwable;"⟩, 6) := ⟨⟨by decide +kernel, by decide +kernel⟩, List.mem_of_getElem? (i := 376) (by decide +kernel), List.mem_of_getElem? (i := 374) (by decide +kernel), List.mem_of_getElem? (i := 375) (by decide +kernel)⟩
theorem lw_p2 : lw_okq (⟨"TableMachine", "requireTable", "(I)V"⟩, 6) := ⟨⟨by decide +kernel, by decide +kernel⟩, List.mem_of_getElem? (i := 22) (by decide +kernel), List.mem_of_getElem? (i := 433) (by decide +kernel), List.mem_of_getElem? (i := 434) (by decide +kernel)⟩
theorem lw_p3 : lw_okq (⟨"TableMachine$Store", "isAt", "(IIJ)Z"⟩, 6) := ⟨⟨by decide +kernel, by decide +kernel⟩, List.mem_of_getElem? (i := 36) (by decide +kernel), List.mem_of_getElem? (i := 452) (by decide +kernel), List.mem_of_getElem? (i := 453) (by decide +kernel)⟩
theorem lw_p4 : lw_okq (⟨"TableMachine", "requireCell", "(IJI)I"⟩, 6) := ⟨⟨by decide +kernel, by decide +kernel⟩, List.mem_of_getElem? (i := 22) (by decide +kernel), List.mem_of_getElem? (i := 519) (by decide +kernel), List.mem_of_getElem? (i := 520) (by decide +kernel)⟩
theorem lw_p5 : lw_okq (⟨"TableMachine$Machine", "reset", "()V"⟩, 6) := ⟨⟨by decide +kernel, by decide +kernel⟩, List.mem_of_getElem? (i := 30) (by decide +kernel), List.mem_of_getElem? (i := 620) (by decide +kernel), List.mem_of_getElem? (i := 621) (by decide +kernel)⟩
theorem lw_p6 : lw_okq (⟨"TableMachine$Machine", "useCursor", "(II)I"⟩, 6) := ⟨⟨by decide +kernel, by decide +kernel⟩, List.mem_of_getElem? (i := 30) (by decide +kernel), List.mem_of_getElem? (i := 641) (by decide +kernel), List.mem_of_getElem? (i := 642) (by decide +kernel)⟩
theorem lw_p7 : lw_okq (⟨"TableMachine$Machine", "end", "(I)I"⟩, 6) := ⟨⟨by decide +kernel, by decide +kernel⟩, List.mem_of_getElem? (i := 30) (by decide +kernel), List.mem_of_getElem? (i := 649) (by decide +kernel), List.mem_of_getElem? (i := 650) (by decide +kernel)⟩
theorem lw_p8 : lw_okq (⟨"TableMachine$Machine", "moveTo", "(LTableMachine$Cursor;I)Z"⟩, 6) := ⟨⟨by decide +kernel, by decide +kernel⟩, List.mem_of_getElem? (i := 30) (by decide +kernel), List.mem_of_getElem? (i := 653) (by decide +kernel), List.mem_of_getElem? (i := 654) (by decide +kernel)⟩
theorem lw_p9 : lw_okq (⟨"TableMachine$Machine", "advance", "(LTableMachine$Cursor;)Z"⟩, 6) := ⟨⟨by decide +kernel, by decide +kernel⟩, List.mem_of_getElem? (i := 30) (by decide +kernel), List.mem_of_getElem? (i := 659) (by decide +kernel), List.mem_of_getElem? (i := 660) (by decide +kernel)⟩
theorem lw_p10 : lw_okq (⟨"TableMachine$Machine", "readColumn", "(LTableMachine$Cursor;II)V"⟩, 6) := ⟨⟨by decide +kernel, by decide +kernel⟩, List.mem_of_getElem? (i := 30) (by decide +kernel), List.mem_of_getElem? (i := 664) (by decide +kernel), List.mem_of_getElem? (i := 665) (by decide +kernel)⟩
theorem lw_p11 : lw_okq (⟨"TableMachine$Machine", "slotAt", "(LTableMachine$Cursor;)I"⟩, 6) := ⟨⟨by decide +kernel, by decide +kernel⟩, List.mem_of_getElem? (i := 30) (by decide +kernel), List.mem_of_getElem? (i := 668) (by decide +kernel), List.mem_of_getElem? (i := 669) (by decide +kernel)⟩
theorem lw_p12 : lw_okq (⟨"TableMachine$Machine", "readKey", "(LTableMachine$Cursor;I)V"⟩, 6) := ⟨⟨by decide +kernel, by decide +kernel⟩, List.mem_of_getElem? (i := 30) (by decide +kernel), List.mem_of_getElem? (i := 676) (by decide +kernel), List.mem_of_getElem? (i := 677) (by decide +kernel)⟩
theorem lw_p13 : lw_okq (⟨"TableMachine$Machine", "seek", "(LTableMachine$Cursor;I)Z"⟩, 6) := ⟨⟨by decide +kernel, by decide +kernel⟩, List.mem_of_getElem? (i := 30) (by decide +kernel), List.mem_of_getElem? (i := 681) (by decide +kernel), List.mem_of_getElem? (i := 682) (by decide +kernel)⟩
theorem lw_p14 : lw_okq (⟨"TableMachine$Machine", "bringRow", "(LTableMachine$Cursor;I)Z"⟩, 6) := ⟨⟨by decide +kernel, by decide +kernel⟩, List.mem_of_getElem? (i := 30) (by decide +kernel), List.mem_of_getElem? (i := 687) (by decide +kernel), List.mem_of_getElem? (i := 688) (by decide +kernel)⟩
theorem lw_p15 : lw_okq (⟨"TableMachine$Machine", "dropRow", "(LTableMachine$Cursor;)V"⟩, 6) := ⟨⟨by decide +kernel, by decide +kernel⟩, List.mem_of_getElem? (i := 30) (by decide +kernel), List.mem_of_getElem? (i := 692) (by decide +kernel), List.mem_of_getElem? (i := 693) (by decide +kernel)⟩
def lw_privs_1 : List (MethodName × Nat) := [(⟨"TableMachine", "canAskFor", "(II)Z"⟩, 6), (⟨"java/lang/Throwable", "fillInStackTrace", "(I)Ljava/lang/Throwable;"⟩, 6), (⟨"TableMachine", "requireTable", "(I)V"⟩, 6), (⟨"TableMachine$Store", "isAt", "(IIJ)Z"⟩, 6), (⟨"TableMachine", "requireCell", "(IJI)I"⟩, 6), (⟨"TableMachine$Machine", "reset", "()V"⟩, 6), (⟨"TableMachine$Machine", "useCursor", "(II)I"⟩, 6), (⟨"TableMachine$Machine", "end", "(I)I"⟩, 6), (⟨"TableMachine$Machine", "moveTo", "(LTableMachine$Cursor;I)Z"⟩, 6), (⟨"TableMachine$Machine", "advance", "(LTableMachine$Cursor;)Z"⟩, 6), (⟨"TableMachine$Machine", "readColumn", "(LTableMachine$Cursor;II)V"⟩, 6), (⟨"TableMachine$Machine", "slotAt", "(LTableMachine$Cursor;)I"⟩, 6), (⟨"TableMachine$Machine", "readKey", "(LTableMachine$Cursor;I)V"⟩, 6), (⟨"TableMachine$Machine", "seek", "(LTableMachine$Cursor;I)Z"⟩, 6), (⟨"TableMachine$Machine", "bringRow", "(LTableMachine$Cursor;I)Z"⟩, 6), (⟨"TableMachine$Machine", "dropRow", "(LTableMachine$Cursor;)V"⟩, 6)]
theorem lw_r1 : ∀ q ∈ lw_privs_1, lw_okq q := List.forall_mem_cons.mpr ⟨lw_p0, List.forall_mem_cons.mpr ⟨lw_p1, List.forall_mem_cons.mpr ⟨lw_p2, List.forall_mem_cons.mpr ⟨lw_p3, List.forall_mem_cons.mpr ⟨lw_p4, List.forall_mem_cons.mpr ⟨lw_p5, List.forall_mem_cons.mpr ⟨lw_p6, List.forall_mem_cons.mpr ⟨lw_p7, List.forall_mem_cons.mpr ⟨lw_p8, List.forall_mem_cons.mpr ⟨lw_p9, List.forall_mem_cons.mpr ⟨lw_p10, List.forall_mem_cons.mpr ⟨lw_p11, List.forall_mem_cons.mpr ⟨lw_p12, List.forall_mem_cons.mpr ⟨lw_p13, List.forall_mem_cons.mpr ⟨lw_p14, List.forall_mem_cons.mpr ⟨lw_p15, fun _ h => absurd h List.not_mem_nil⟩⟩⟩⟩⟩⟩⟩⟩⟩⟩⟩⟩⟩⟩⟩⟩
theorem lw_p16 : lw_okq (⟨"TableMachine$Machine", "compute", "(II)I"⟩, 6) := ⟨⟨by decide +kernel, by decide +kernel⟩, List.mem_of_getElem? (i := 30) (by decide +kernel), List.mem_of_getElem? (i := 697) (by decide +kernel), List.mem_of_getElem? (i := 698) (by decide +kernel)⟩
theorem lw_p17 : lw_okq (⟨"TableMachine$Machine", "sum", "(III)V"⟩, 6) := ⟨⟨by decide +kernel, by decide +kernel⟩, List.mem_of_getElem? (i := 30) (by decide +kernel), List.mem_of_getElem? (i := 702) (by decide +kernel), List.mem_of_getElem? (i := 703) (by decide +kernel)⟩
theorem lw_p18 : lw_okq (⟨"TableMachine$Machine", "holds", "(III)Z"⟩, 6) := ⟨⟨by decide +kernel, by decide +kernel⟩, List.mem_of_getElem? (i := 30) (by decide +kernel), List.mem_of_getElem? (i := 711) (by decide +kernel), List.mem_of_getElem? (i := 712) (by decide +kernel)⟩
theorem lw_p19 : lw_okq (⟨"TableMachine", "requireResult", "(II)I"⟩, 6) := ⟨⟨by decide +kernel, by decide +kernel⟩, List.mem_of_getElem? (i := 22) (by decide +kernel), List.mem_of_getElem? (i := 730) (by decide +kernel), List.mem_of_getElem? (i := 731) (by decide +kernel)⟩
theorem lw_p20 : lw_okq (⟨"TableMachine$Question", "writeStart", "(LTableMachine$Program;II)V"⟩, 13) := ⟨⟨by decide +kernel, by decide +kernel⟩, List.mem_of_getElem? (i := 186) (by decide +kernel), List.mem_of_getElem? (i := 755) (by decide +kernel), List.mem_of_getElem? (i := 756) (by decide +kernel)⟩
theorem lw_p21 : lw_okq (⟨"TableMachine$Question", "seekable", "(I)I"⟩, 13) := ⟨⟨by decide +kernel, by decide +kernel⟩, List.mem_of_getElem? (i := 186) (by decide +kernel), List.mem_of_getElem? (i := 759) (by decide +kernel), List.mem_of_getElem? (i := 760) (by decide +kernel)⟩
theorem lw_p22 : lw_okq (⟨"TableMachine$Question", "writeConditions", "(LTableMachine$Program;II)V"⟩, 13) := ⟨⟨by decide +kernel, by decide +kernel⟩, List.mem_of_getElem? (i := 186) (by decide +kernel), List.mem_of_getElem? (i := 766) (by decide +kernel), List.mem_of_getElem? (i := 767) (by decide +kernel)⟩
theorem lw_p23 : lw_okq (⟨"TableMachine$Question", "writeCondition", "(LTableMachine$Program;II)V"⟩, 13) := ⟨⟨by decide +kernel, by decide +kernel⟩, List.mem_of_getElem? (i := 186) (by decide +kernel), List.mem_of_getElem? (i := 770) (by decide +kernel), List.mem_of_getElem? (i := 771) (by decide +kernel)⟩
theorem lw_p24 : lw_okq (⟨"TableMachine$Question", "writeColumn", "(LTableMachine$Program;III)V"⟩, 13) := ⟨⟨by decide +kernel, by decide +kernel⟩, List.mem_of_getElem? (i := 186) (by decide +kernel), List.mem_of_getElem? (i := 774) (by decide +kernel), List.mem_of_getElem? (i := 775) (by decide +kernel)⟩
theorem lw_p25 : lw_okq (⟨"TableMachine$Question", "writeTest", "(LTableMachine$Program;III)V"⟩, 13) := ⟨⟨by decide +kernel, by decide +kernel⟩, List.mem_of_getElem? (i := 186) (by decide +kernel), List.mem_of_getElem? (i := 778) (by decide +kernel), List.mem_of_getElem? (i := 779) (by decide +kernel)⟩
theorem lw_p26 : lw_okq (⟨"TableMachine$Question", "writeInnerLoop", "(LTableMachine$Program;I)V"⟩, 13) := ⟨⟨by decide +kernel, by decide +kernel⟩, List.mem_of_getElem? (i := 186) (by decide +kernel), List.mem_of_getElem? (i := 782) (by decide +kernel), List.mem_of_getElem? (i := 783) (by decide +kernel)⟩
theorem lw_p27 : lw_okq (⟨"TableMachine$Question", "writeJoin", "(LTableMachine$Program;I)V"⟩, 13) := ⟨⟨by decide +kernel, by decide +kernel⟩, List.mem_of_getElem? (i := 186) (by decide +kernel), List.mem_of_getElem? (i := 786) (by decide +kernel), List.mem_of_getElem? (i := 787) (by decide +kernel)⟩
theorem lw_p28 : lw_okq (⟨"TableMachine$Question", "writeOutputs", "(LTableMachine$Program;)V"⟩, 13) := ⟨⟨by decide +kernel, by decide +kernel⟩, List.mem_of_getElem? (i := 186) (by decide +kernel), List.mem_of_getElem? (i := 790) (by decide +kernel), List.mem_of_getElem? (i := 791) (by decide +kernel)⟩
theorem lw_p29 : lw_okq (⟨"TableMachineModel", "isTable", "(I)Z"⟩, 32) := ⟨⟨by decide +kernel, by decide +kernel⟩, List.mem_of_getElem? (i := 794) (by decide +kernel), List.mem_of_getElem? (i := 913) (by decide +kernel), List.mem_of_getElem? (i := 914) (by decide +kernel)⟩
theorem lw_p30 : lw_okq (⟨"TableMachineModel", "rowOf", "(IJ)I"⟩, 32) := ⟨⟨by decide +kernel, by decide +kernel⟩, List.mem_of_getElem? (i := 794) (by decide +kernel), List.mem_of_getElem? (i := 917) (by decide +kernel), List.mem_of_getElem? (i := 918) (by decide +kernel)⟩
theorem lw_p31 : lw_okq (⟨"TableMachineModel", "lay", "(IJIZJ)V"⟩, 32) := ⟨⟨by decide +kernel, by decide +kernel⟩, List.mem_of_getElem? (i := 794) (by decide +kernel), List.mem_of_getElem? (i := 921) (by decide +kernel), List.mem_of_getElem? (i := 922) (by decide +kernel)⟩
def lw_privs_2 : List (MethodName × Nat) := [(⟨"TableMachine$Machine", "compute", "(II)I"⟩, 6), (⟨"TableMachine$Machine", "sum", "(III)V"⟩, 6), (⟨"TableMachine$Machine", "holds", "(III)Z"⟩, 6), (⟨"TableMachine", "requireResult", "(II)I"⟩, 6), (⟨"TableMachine$Question", "writeStart", "(LTableMachine$Program;II)V"⟩, 13), (⟨"TableMachine$Question", "seekable", "(I)I"⟩, 13), (⟨"TableMachine$Question", "writeConditions", "(LTableMachine$Program;II)V"⟩, 13), (⟨"TableMachine$Question", "writeCondition", "(LTableMachine$Program;II)V"⟩, 13), (⟨"TableMachine$Question", "writeColumn", "(LTableMachine$Program;III)V"⟩, 13), (⟨"TableMachine$Question", "writeTest", "(LTableMachine$Program;III)V"⟩, 13), (⟨"TableMachine$Question", "writeInnerLoop", "(LTableMachine$Program;I)V"⟩, 13), (⟨"TableMachine$Question", "writeJoin", "(LTableMachine$Program;I)V"⟩, 13), (⟨"TableMachine$Question", "writeOutputs", "(LTableMachine$Program;)V"⟩, 13), (⟨"TableMachineModel", "isTable", "(I)Z"⟩, 32), (⟨"TableMachineModel", "rowOf", "(IJ)I"⟩, 32), (⟨"TableMachineModel", "lay", "(IJIZJ)V"⟩, 32)]
theorem lw_r2 : ∀ q ∈ lw_privs_2, lw_okq q := List.forall_mem_cons.mpr ⟨lw_p16, List.forall_mem_cons.mpr ⟨lw_p17, List.forall_mem_cons.mpr ⟨lw_p18, List.forall_mem_cons.mpr ⟨lw_p19, List.forall_mem_cons.mpr ⟨lw_p20, List.forall_mem_cons.mpr ⟨lw_p21, List.forall_mem_cons.mpr ⟨lw_p22, List.forall_mem_cons.mpr ⟨lw_p23, List.forall_mem_cons.mpr ⟨lw_p24, List.forall_mem_cons.mpr ⟨lw_p25, List.forall_mem_cons.mpr ⟨lw_p26, List.forall_mem_cons.mpr ⟨lw_p27, List.forall_mem_cons.mpr ⟨lw_p28, List.forall_mem_cons.mpr ⟨lw_p29, List.forall_mem_cons.mpr ⟨lw_p30, List.forall_mem_cons.mpr ⟨lw_p31, fun _ h => absurd h List.not_mem_nil⟩⟩⟩⟩⟩⟩⟩⟩⟩⟩⟩⟩⟩⟩⟩⟩
theorem lw_p32 : lw_okq (⟨"TableMachineModel", "take", "(I)V"⟩, 32) := ⟨⟨by decide +kernel, by decide +kernel⟩, List.mem_of_getElem? (i := 794) (by decide +kernel), List.mem_of_getElem? (i := 929) (by decide +kernel), List.mem_of_getElem? (i := 930) (by decide +kernel)⟩
theorem lw_p33 : lw_okq (⟨"TableMachineModel", "rowFrom", "(IJZ)I"⟩, 32) := ⟨⟨by decide +kernel, by decide +kernel⟩, List.mem_of_getElem? (i := 794) (by decide +kernel), List.mem_of_getElem? (i := 941) (by decide +kernel), List.mem_of_getElem? (i := 942) (by decide +kernel)⟩
theorem lw_p34 : lw_okq (⟨"TableMachineModel", "asked", "(IJI)I"⟩, 32) := ⟨⟨by decide +kernel, by decide +kernel⟩, List.mem_of_getElem? (i := 794) (by decide +kernel), List.mem_of_getElem? (i := 949) (by decide +kernel), List.mem_of_getElem? (i := 950) (by decide +kernel)⟩
theorem lw_p35 : lw_okq (⟨"TableMachineModel", "put", "(IIII)V"⟩, 32) := ⟨⟨by decide +kernel, by decide +kernel⟩, List.mem_of_getElem? (i := 794) (by decide +kernel), List.mem_of_getElem? (i := 967) (by decide +kernel), List.mem_of_getElem? (i := 968) (by decide +kernel)⟩
theorem lw_p36 : lw_okq (⟨"TableMachineModel", "sound", "()Z"⟩, 32) := ⟨⟨by decide +kernel, by decide +kernel⟩, List.mem_of_getElem? (i := 794) (by decide +kernel), List.mem_of_getElem? (i := 986) (by decide +kernel), List.mem_of_getElem? (i := 987) (by decide +kernel)⟩
theorem lw_p37 : lw_okq (⟨"TableMachineModel", "keep", "(IZJ)V"⟩, 32) := ⟨⟨by decide +kernel, by decide +kernel⟩, List.mem_of_getElem? (i := 794) (by decide +kernel), List.mem_of_getElem? (i := 993) (by decide +kernel), List.mem_of_getElem? (i := 994) (by decide +kernel)⟩
theorem lw_p38 : lw_okq (⟨"TableMachineModel", "step", "()Z"⟩, 32) := ⟨⟨by decide +kernel, by decide +kernel⟩, List.mem_of_getElem? (i := 794) (by decide +kernel), List.mem_of_getElem? (i := 997) (by decide +kernel), List.mem_of_getElem? (i := 998) (by decide +kernel)⟩
theorem lw_p39 : lw_okq (⟨"TableMachineModel", "withCursor", "(IIII)Z"⟩, 32) := ⟨⟨by decide +kernel, by decide +kernel⟩, List.mem_of_getElem? (i := 794) (by decide +kernel), List.mem_of_getElem? (i := 1004) (by decide +kernel), List.mem_of_getElem? (i := 1005) (by decide +kernel)⟩
theorem lw_p40 : lw_okq (⟨"TableMachineModel", "firstRow", "(I)I"⟩, 32) := ⟨⟨by decide +kernel, by decide +kernel⟩, List.mem_of_getElem? (i := 794) (by decide +kernel), List.mem_of_getElem? (i := 1008) (by decide +kernel), List.mem_of_getElem? (i := 1009) (by decide +kernel)⟩
theorem lw_p41 : lw_okq (⟨"TableMachineModel", "point", "(II)V"⟩, 32) := ⟨⟨by decide +kernel, by decide +kernel⟩, List.mem_of_getElem? (i := 794) (by decide +kernel), List.mem_of_getElem? (i := 1012) (by decide +kernel), List.mem_of_getElem? (i := 1013) (by decide +kernel)⟩
theorem lw_p42 : lw_okq (⟨"TableMachineModel", "rowAt", "(I)I"⟩, 32) := ⟨⟨by decide +kernel, by decide +kernel⟩, List.mem_of_getElem? (i := 794) (by decide +kernel), List.mem_of_getElem? (i := 1016) (by decide +kernel), List.mem_of_getElem? (i := 1017) (by decide +kernel)⟩
theorem lw_p43 : lw_okq (⟨"TableMachineModel", "without", "(IIII)Z"⟩, 32) := ⟨⟨by decide +kernel, by decide +kernel⟩, List.mem_of_getElem? (i := 794) (by decide +kernel), List.mem_of_getElem? (i := 1020) (by decide +kernel), List.mem_of_getElem? (i := 1021) (by decide +kernel)⟩
theorem lw_p44 : lw_okq (⟨"TableMachineModel", "compares", "(IJJ)Z"⟩, 32) := ⟨⟨by decide +kernel, by decide +kernel⟩, List.mem_of_getElem? (i := 794) (by decide +kernel), List.mem_of_getElem? (i := 1024) (by decide +kernel), List.mem_of_getElem? (i := 1025) (by decide +kernel)⟩
theorem lw_p45 : lw_okq (⟨"TableMachineModel", "isColumn", "(II)Z"⟩, 32) := ⟨⟨by decide +kernel, by decide +kernel⟩, List.mem_of_getElem? (i := 794) (by decide +kernel), List.mem_of_getElem? (i := 1044) (by decide +kernel), List.mem_of_getElem? (i := 1045) (by decide +kernel)⟩
theorem lw_p46 : lw_okq (⟨"TableMachineModel", "tableOf", "(I)I"⟩, 32) := ⟨⟨by decide +kernel, by decide +kernel⟩, List.mem_of_getElem? (i := 794) (by decide +kernel), List.mem_of_getElem? (i := 1048) (by decide +kernel), List.mem_of_getElem? (i := 1049) (by decide +kernel)⟩
theorem lw_p47 : lw_okq (⟨"TableMachineModel", "length", "(I)I"⟩, 32) := ⟨⟨by decide +kernel, by decide +kernel⟩, List.mem_of_getElem? (i := 794) (by decide +kernel), List.mem_of_getElem? (i := 1064) (by decide +kernel), List.mem_of_getElem? (i := 1065) (by decide +kernel)⟩
def lw_privs_3 : List (MethodName × Nat) := [(⟨"TableMachineModel", "take", "(I)V"⟩, 32), (⟨"TableMachineModel", "rowFrom", "(IJZ)I"⟩, 32), (⟨"TableMachineModel", "asked", "(IJI)I"⟩, 32), (⟨"TableMachineModel", "put", "(IIII)V"⟩, 32), (⟨"TableMachineModel", "sound", "()Z"⟩, 32), (⟨"TableMachineModel", "keep", "(IZJ)V"⟩, 32), (⟨"TableMachineModel", "step", "()Z"⟩, 32), (⟨"TableMachineModel", "withCursor", "(IIII)Z"⟩, 32), (⟨"TableMachineModel", "firstRow", "(I)I"⟩, 32), (⟨"TableMachineModel", "point", "(II)V"⟩, 32), (⟨"TableMachineModel", "rowAt", "(I)I"⟩, 32), (⟨"TableMachineModel", "without", "(IIII)Z"⟩, 32), (⟨"TableMachineModel", "compares", "(IJJ)Z"⟩, 32), (⟨"TableMachineModel", "isColumn", "(II)Z"⟩, 32), (⟨"TableMachineModel", "tableOf", "(I)I"⟩, 32), (⟨"TableMachineModel", "length", "(I)I"⟩, 32)]
theorem lw_r3 : ∀ q ∈ lw_privs_3, lw_okq q := List.forall_mem_cons.mpr ⟨lw_p32, List.forall_mem_cons.mpr ⟨lw_p33, List.forall_mem_cons.mpr ⟨lw_p34, List.forall_mem_cons.mpr ⟨lw_p35, List.forall_mem_cons.mpr ⟨lw_p36, List.forall_mem_cons.mpr ⟨lw_p37, List.forall_mem_cons.mpr ⟨lw_p38, List.forall_mem_cons.mpr ⟨lw_p39, List.forall_mem_cons.mpr ⟨lw_p40, List.forall_mem_cons.mpr ⟨lw_p41, List.forall_mem_cons.mpr ⟨lw_p42, List.forall_mem_cons.mpr ⟨lw_p43, List.forall_mem_cons.mpr ⟨lw_p44, List.forall_mem_cons.mpr ⟨lw_p45, List.forall_mem_cons.mpr ⟨lw_p46, List.forall_mem_cons.mpr ⟨lw_p47, fun _ h => absurd h List.not_mem_nil⟩⟩⟩⟩⟩⟩⟩⟩⟩⟩⟩⟩⟩⟩⟩⟩
theorem lw_p48 : lw_okq (⟨"TableMachineModel", "seeker", "(I)I"⟩, 32) := ⟨⟨by decide +kernel, by decide +kernel⟩, List.mem_of_getElem? (i := 794) (by decide +kernel), List.mem_of_getElem? (i := 1068) (by decide +kernel), List.mem_of_getElem? (i := 1069) (by decide +kernel)⟩
theorem lw_p49 : lw_okq (⟨"TableMachineModel", "loop", "(III)I"⟩, 32) := ⟨⟨by decide +kernel, by decide +kernel⟩, List.mem_of_getElem? (i := 794) (by decide +kernel), List.mem_of_getElem? (i := 1072) (by decide +kernel), List.mem_of_getElem? (i := 1073) (by decide +kernel)⟩
theorem lw_p50 : lw_okq (⟨"TableMachineModel", "read", "(III)V"⟩, 32) := ⟨⟨by decide +kernel, by decide +kernel⟩, List.mem_of_getElem? (i := 794) (by decide +kernel), List.mem_of_getElem? (i := 1076) (by decide +kernel), List.mem_of_getElem? (i := 1077) (by decide +kernel)⟩
theorem lw_p51 : lw_okq (⟨"TableMachineModel", "outputsAndResult", "()V"⟩, 32) := ⟨⟨by decide +kernel, by decide +kernel⟩, List.mem_of_getElem? (i := 794) (by decide +kernel), List.mem_of_getElem? (i := 1080) (by decide +kernel), List.mem_of_getElem? (i := 1081) (by decide +kernel)⟩
def lw_privs_4 : List (MethodName × Nat) := [(⟨"TableMachineModel", "seeker", "(I)I"⟩, 32), (⟨"TableMachineModel", "loop", "(III)I"⟩, 32), (⟨"TableMachineModel", "read", "(III)V"⟩, 32), (⟨"TableMachineModel", "outputsAndResult", "()V"⟩, 32)]
theorem lw_r4 : ∀ q ∈ lw_privs_4, lw_okq q := List.forall_mem_cons.mpr ⟨lw_p48, List.forall_mem_cons.mpr ⟨lw_p49, List.forall_mem_cons.mpr ⟨lw_p50, List.forall_mem_cons.mpr ⟨lw_p51, fun _ h => absurd h List.not_mem_nil⟩⟩⟩⟩
def lw_privs : List (MethodName × Nat) := lw_privs_1 ++ (lw_privs_2 ++ (lw_privs_3 ++ (lw_privs_4)))
def lw_tbl : List Cond := k2_sels lw_privs ++ tables_1
theorem lw_privs_ok : ∀ q ∈ lw_privs, lw_okq q := by
  show ∀ q ∈ lw_privs_1 ++ (lw_privs_2 ++ (lw_privs_3 ++ (lw_privs_4))), lw_okq q
  exact List.forall_mem_append.mpr ⟨lw_r1, List.forall_mem_append.mpr ⟨lw_r2, List.forall_mem_append.mpr ⟨lw_r3, lw_r4⟩⟩⟩
end
section
/-! the classes whose objects the heap holds, their fields, by program out of the tables of the Statement -/
def zr0 : String := "TableMachine"
def zf0 : u_T := fun k => match k with
  | 0 => ("TableMachine", "machine", "LTableMachine$Machine;", true)
  | 1 => ("TableMachine", "store", "LTableMachine$Store;", true)
  | 2 => ("TableMachine", "program", "LTableMachine$Program;", true)
  | 3 => ("TableMachine", "results", "LTableMachine$Results;", true)
  | 4 => ("TableMachine", "coming", "LTableMachine$Values;", true)
  | _ => ("TableMachine", "question", "LTableMachine$Question;", true)
def zt0 : Nat → FieldType := fun k => match k with
  | 0 => .object "TableMachine$Machine"
  | 1 => .object "TableMachine$Store"
  | 2 => .object "TableMachine$Program"
  | 3 => .object "TableMachine$Results"
  | 4 => .object "TableMachine$Values"
  | _ => .object "TableMachine$Question"
theorem zn0 : ∀ a, a < 6 → ∀ b, b < 6 → a ≠ b → (zf0 a).2.1 ≠ (zf0 b).2.1 := by decide +kernel
theorem zk0 : ∀ k, k < 6 → parseFieldDescriptor (zf0 k).2.2.1 = some (zt0 k) := by decide +kernel
def zr1 : String := "TableMachine$Machine"
def zf1 : u_T := fun k => match k with
  | 0 => ("TableMachine$Machine", "store", "LTableMachine$Store;", true)
  | 1 => ("TableMachine$Machine", "program", "LTableMachine$Program;", true)
  | 2 => ("TableMachine$Machine", "results", "LTableMachine$Results;", true)
  | 3 => ("TableMachine$Machine", "registers", "LTableMachine$Values;", true)
  | 4 => ("TableMachine$Machine", "cursors", "[LTableMachine$Cursor;", true)
  | _ => ("TableMachine$Machine", "outcome", "I", false)
def zt1 : Nat → FieldType := fun k => match k with
  | 0 => .object "TableMachine$Store"
  | 1 => .object "TableMachine$Program"
  | 2 => .object "TableMachine$Results"
  | 3 => .object "TableMachine$Values"
  | 4 => .array (.object "TableMachine$Cursor")
  | _ => .int
theorem zn1 : ∀ a, a < 6 → ∀ b, b < 6 → a ≠ b → (zf1 a).2.1 ≠ (zf1 b).2.1 := by decide +kernel
theorem zk1 : ∀ k, k < 6 → parseFieldDescriptor (zf1 k).2.2.1 = some (zt1 k) := by decide +kernel
def zr2 : String := "TableMachine$Store"
def zf2 : u_T := fun k => match k with
  | 0 => ("TableMachine$Store", "tables", "[LTableMachine$Table;", true)
  | 1 => ("TableMachine$Store", "tableCount", "I", false)
  | 2 => ("TableMachine$Store", "cells", "LTableMachine$Values;", true)
  | 3 => ("TableMachine$Store", "keys", "[J", true)
  | 4 => ("TableMachine$Store", "spare", "[I", true)
  | _ => ("TableMachine$Store", "spareCount", "I", false)
def zt2 : Nat → FieldType := fun k => match k with
  | 0 => .array (.object "TableMachine$Table")
  | 1 => .int
  | 2 => .object "TableMachine$Values"
  | 3 => .array .long
  | 4 => .array .int
  | _ => .int
theorem zn2 : ∀ a, a < 6 → ∀ b, b < 6 → a ≠ b → (zf2 a).2.1 ≠ (zf2 b).2.1 := by decide +kernel
theorem zk2 : ∀ k, k < 6 → parseFieldDescriptor (zf2 k).2.2.1 = some (zt2 k) := by decide +kernel
def zr3 : String := "TableMachine$Table"
def zf3 : u_T := fun k => match k with
  | 0 => ("TableMachine$Table", "columns", "I", false)
  | 1 => ("TableMachine$Table", "size", "I", false)
  | _ => ("TableMachine$Table", "slots", "[I", true)
def zt3 : Nat → FieldType := fun k => match k with
  | 0 => .int
  | 1 => .int
  | _ => .array .int
theorem zn3 : ∀ a, a < 3 → ∀ b, b < 3 → a ≠ b → (zf3 a).2.1 ≠ (zf3 b).2.1 := by decide +kernel
theorem zk3 : ∀ k, k < 3 → parseFieldDescriptor (zf3 k).2.2.1 = some (zt3 k) := by decide +kernel
def zr4 : String := "TableMachine$Values"
def zf4 : u_T := fun k => match k with
  | 0 => ("TableMachine$Values", "numbers", "[J", true)
  | _ => ("TableMachine$Values", "known", "[Z", true)
def zt4 : Nat → FieldType := fun k => match k with
  | 0 => .array .long
  | _ => .array .boolean
theorem zn4 : ∀ a, a < 2 → ∀ b, b < 2 → a ≠ b → (zf4 a).2.1 ≠ (zf4 b).2.1 := by decide +kernel
theorem zk4 : ∀ k, k < 2 → parseFieldDescriptor (zf4 k).2.2.1 = some (zt4 k) := by decide +kernel
def zr5 : String := "TableMachine$Cursor"
def zf5 : u_T := fun k => match k with
  | 0 => ("TableMachine$Cursor", "table", "I", false)
  | 1 => ("TableMachine$Cursor", "hasKey", "Z", false)
  | _ => ("TableMachine$Cursor", "key", "J", false)
def zt5 : Nat → FieldType := fun k => match k with
  | 0 => .int
  | 1 => .boolean
  | _ => .long
theorem zn5 : ∀ a, a < 3 → ∀ b, b < 3 → a ≠ b → (zf5 a).2.1 ≠ (zf5 b).2.1 := by decide +kernel
theorem zk5 : ∀ k, k < 3 → parseFieldDescriptor (zf5 k).2.2.1 = some (zt5 k) := by decide +kernel
def zr6 : String := "TableMachine$Program"
def zf6 : u_T := fun k => match k with
  | 0 => ("TableMachine$Program", "size", "I", false)
  | _ => ("TableMachine$Program", "words", "[I", true)
def zt6 : Nat → FieldType := fun k => match k with
  | 0 => .int
  | _ => .array .int
theorem zn6 : ∀ a, a < 2 → ∀ b, b < 2 → a ≠ b → (zf6 a).2.1 ≠ (zf6 b).2.1 := by decide +kernel
theorem zk6 : ∀ k, k < 2 → parseFieldDescriptor (zf6 k).2.2.1 = some (zt6 k) := by decide +kernel
def zr7 : String := "TableMachine$Results"
def zf7 : u_T := fun k => match k with
  | 0 => ("TableMachine$Results", "size", "I", false)
  | 1 => ("TableMachine$Results", "widths", "[I", true)
  | _ => ("TableMachine$Results", "cells", "LTableMachine$Values;", true)
def zt7 : Nat → FieldType := fun k => match k with
  | 0 => .int
  | 1 => .array .int
  | _ => .object "TableMachine$Values"
theorem zn7 : ∀ a, a < 3 → ∀ b, b < 3 → a ≠ b → (zf7 a).2.1 ≠ (zf7 b).2.1 := by decide +kernel
theorem zk7 : ∀ k, k < 3 → parseFieldDescriptor (zf7 k).2.2.1 = some (zt7 k) := by decide +kernel
def zr8 : String := "TableMachine$Question"
def zf8 : u_T := fun k => match k with
  | 0 => ("TableMachine$Question", "tables", "[I", true)
  | 1 => ("TableMachine$Question", "outputs", "I", false)
  | 2 => ("TableMachine$Question", "conditions", "I", false)
  | 3 => ("TableMachine$Question", "cursors", "I", false)
  | 4 => ("TableMachine$Question", "outputCursors", "[I", true)
  | 5 => ("TableMachine$Question", "outputColumns", "[I", true)
  | 6 => ("TableMachine$Question", "conditionCursors", "[I", true)
  | 7 => ("TableMachine$Question", "conditionColumns", "[I", true)
  | 8 => ("TableMachine$Question", "comparisons", "[I", true)
  | 9 => ("TableMachine$Question", "numbers", "[I", true)
  | 10 => ("TableMachine$Question", "joined", "Z", false)
  | 11 => ("TableMachine$Question", "firstJoined", "I", false)
  | _ => ("TableMachine$Question", "secondJoined", "I", false)
def zt8 : Nat → FieldType := fun k => match k with
  | 0 => .array .int
  | 1 => .int
  | 2 => .int
  | 3 => .int
  | 4 => .array .int
  | 5 => .array .int
  | 6 => .array .int
  | 7 => .array .int
  | 8 => .array .int
  | 9 => .array .int
  | 10 => .boolean
  | 11 => .int
  | _ => .int
theorem zn8 : ∀ a, a < 13 → ∀ b, b < 13 → a ≠ b → (zf8 a).2.1 ≠ (zf8 b).2.1 := by decide +kernel
theorem zk8 : ∀ k, k < 13 → parseFieldDescriptor (zf8 k).2.2.1 = some (zt8 k) := by decide +kernel
def zr9 : String := "TableMachineModel"
def zf9 : u_T := fun k => match k with
  | 0 => ("TableMachineModel", "thrown", "I", false)
  | 1 => ("TableMachineModel", "tables", "I", false)
  | 2 => ("TableMachineModel", "columns", "[I", true)
  | 3 => ("TableMachineModel", "rows", "I", false)
  | 4 => ("TableMachineModel", "owner", "[I", true)
  | 5 => ("TableMachineModel", "keys", "[J", true)
  | 6 => ("TableMachineModel", "values", "[J", true)
  | 7 => ("TableMachineModel", "has", "[Z", true)
  | 8 => ("TableMachineModel", "coming", "[J", true)
  | 9 => ("TableMachineModel", "comes", "[Z", true)
  | 10 => ("TableMachineModel", "size", "I", false)
  | 11 => ("TableMachineModel", "code", "[I", true)
  | 12 => ("TableMachineModel", "registers", "[J", true)
  | 13 => ("TableMachineModel", "full", "[Z", true)
  | 14 => ("TableMachineModel", "open", "[I", true)
  | 15 => ("TableMachineModel", "keyed", "[Z", true)
  | 16 => ("TableMachineModel", "at", "[J", true)
  | 17 => ("TableMachineModel", "outcome", "I", false)
  | 18 => ("TableMachineModel", "place", "I", false)
  | 19 => ("TableMachineModel", "results", "I", false)
  | 20 => ("TableMachineModel", "wide", "[I", true)
  | 21 => ("TableMachineModel", "told", "[J", true)
  | 22 => ("TableMachineModel", "given", "[Z", true)
  | 23 => ("TableMachineModel", "first", "I", false)
  | 24 => ("TableMachineModel", "second", "I", false)
  | 25 => ("TableMachineModel", "outputs", "I", false)
  | 26 => ("TableMachineModel", "output", "[I", true)
  | 27 => ("TableMachineModel", "conditions", "I", false)
  | 28 => ("TableMachineModel", "condition", "[I", true)
  | 29 => ("TableMachineModel", "joins", "Z", false)
  | 30 => ("TableMachineModel", "joinFirst", "I", false)
  | _ => ("TableMachineModel", "joinSecond", "I", false)
def zt9 : Nat → FieldType := fun k => match k with
  | 0 => .int
  | 1 => .int
  | 2 => .array .int
  | 3 => .int
  | 4 => .array .int
  | 5 => .array .long
  | 6 => .array .long
  | 7 => .array .boolean
  | 8 => .array .long
  | 9 => .array .boolean
  | 10 => .int
  | 11 => .array .int
  | 12 => .array .long
  | 13 => .array .boolean
  | 14 => .array .int
  | 15 => .array .boolean
  | 16 => .array .long
  | 17 => .int
  | 18 => .int
  | 19 => .int
  | 20 => .array .int
  | 21 => .array .long
  | 22 => .array .boolean
  | 23 => .int
  | 24 => .int
  | 25 => .int
  | 26 => .array .int
  | 27 => .int
  | 28 => .array .int
  | 29 => .boolean
  | 30 => .int
  | _ => .int
theorem zn9 : ∀ a, a < 32 → ∀ b, b < 32 → a ≠ b → (zf9 a).2.1 ≠ (zf9 b).2.1 := by decide +kernel
theorem zk9 : ∀ k, k < 32 → parseFieldDescriptor (zf9 k).2.2.1 = some (zt9 k) := by decide +kernel
abbrev zCl : List vw_C := [(zr0, zf0, 6), (zr1, zf1, 6), (zr2, zf2, 6), (zr3, zf3, 3), (zr4, zf4, 2), (zr5, zf5, 3), (zr6, zf6, 2), (zr7, zf7, 3), (zr8, zf8, 13), (zr9, zf9, 32)]
def zTab : String := "TableMachine$Table"
def zCur : String := "TableMachine$Cursor"
end
section
/-! A light judgement over the machine's: heaps as functions of small numbers, one row an instruction. -/
abbrev zX : Type := Launch × (Nat → ClassId) × (Nat → Nat → Nat) × (Nat → Nat) × (Nat → ClassId)
abbrev zM : Type := MethodName × ByteArray × Nat × Option FieldType
abbrev zH : Type := Nat → va_E
def zV (ad : Nat → Nat) (v : Value) : Value := match v with
  | .ref i => .ref (ad i)
  | v => v
def zA (ad : Nat → Nat) (a : vp_A) : vp_A := match a with
  | (n, .inr (.inr (.inr (.inr g)))) => (n, .inr (.inr (.inr (.inr fun i => (g i).map ad))))
  | x => x
def zE (ad : Nat → Nat) (ca : Nat → ClassId) (e : va_E) : va_E := match e with
  | .inl (t, x) => .inl (ca t, zA ad x)
  | .inr (c, fs) => .inr (c, fs.map (zV ad))
def zW (ad : Nat → Nat) (ca : Nat → ClassId) (h : zH) (n : Nat) : va_W := (List.range n).map fun i => (ad i, zE ad ca (h i))
theorem zV_cat (ad : Nat → Nat) (v : Value) : (zV ad v).category = v.category := by cases v <;> rfl
theorem zW_get {ad : Nat → Nat} {ca : Nat → ClassId} {h : zH} {n i : Nat} (hi : i < n) : (zW ad ca h n)[i]? = some (ad i, zE ad ca (h i)) := by
  simp [zW, List.getElem?_range hi]
theorem zW_inv {ad : Nat → Nat} {ca : Nat → ClassId} {h : zH} {n i : Nat} {q : Nat × va_E} (hq : (zW ad ca h n)[i]? = some q) : i < n ∧ q = (ad i, zE ad ca (h i)) := by
  have hl : i < (zW ad ca h n).length := (List.getElem?_eq_some_iff.mp hq).1
  have hi : i < n := by simpa [zW] using hl
  rw [zW_get hi] at hq
  exact ⟨hi, (Option.some.inj hq).symm⟩
theorem zW_set {ad : Nat → Nat} {ca : Nat → ClassId} {h : zH} {n i : Nat} {e : va_E} (hi : i < n) : (zW ad ca h n).set i (ad i, zE ad ca e) = zW ad ca (va_up h i e) n := by
  apply List.ext_getElem?
  intro j
  by_cases hj : j < n
  · by_cases hij : i = j
    · subst hij
      rw [List.getElem?_set_self (by simpa [zW] using hi), zW_get hi]
      simp [va_up]
    · rw [List.getElem?_set_ne hij, zW_get hj, zW_get hj]
      simp [va_up, Ne.symm hij]
  · rw [List.getElem?_eq_none (by simp [zW]; omega), List.getElem?_eq_none (by simp [zW]; omega)]
theorem zW_push {ad : Nat → Nat} {ca : Nat → ClassId} {h : zH} {n : Nat} {e : va_E} : zW ad ca h n ++ [(ad n, zE ad ca e)] = zW ad ca (va_up h n e) (n + 1) := by
  apply List.ext_getElem?
  intro j
  by_cases hj : j < n
  · rw [List.getElem?_append_left (by simpa [zW] using hj), zW_get hj, zW_get (by omega)]
    simp [va_up, Nat.ne_of_lt hj]
  · by_cases hij : j = n
    · subst hij
      rw [List.getElem?_append_right (by simp [zW]), zW_get (by omega)]
      simp [zW, va_up]
    · rw [List.getElem?_eq_none (by simp [zW]; omega), List.getElem?_eq_none (by simp [zW]; omega)]
/-- the words that hold at every state of the run -/
def zWA : List Cond := lw_tbl.filter goodWord
theorem zWA_good : ∀ w ∈ zWA, goodWord w = true := fun _ h => (List.mem_filter.mp h).2
theorem zWA_of {i : Nat} {w : Cond} (h : tables_1[i]? = some w) (hg : goodWord w = true) : w ∈ zWA := List.mem_filter.mpr ⟨List.mem_append_right _ (List.mem_of_getElem? h), hg⟩
theorem zWA_sel {i : Nat} {w : Cond} (h : (k2_sels lw_privs)[i]? = some w) (hg : goodWord w = true) : w ∈ zWA := List.mem_filter.mpr ⟨List.mem_append_left _ (List.mem_of_getElem? h), hg⟩
def zNest : List (String × Nat × MethodName) := [("TableMachine$Store", 41, ⟨"TableMachine$Table", "<init>", "()V"⟩), ("TableMachine$Machine", 20, ⟨"TableMachine$Program", "<init>", "()V"⟩), ("TableMachine$Machine", 27, ⟨"TableMachine$Results", "<init>", "()V"⟩), ("TableMachine$Machine", 51, ⟨"TableMachine$Cursor", "<init>", "()V"⟩), ("TableMachine", 42, ⟨"TableMachine$Question", "<init>", "()V"⟩), ("TableMachine$Store", 45, ⟨"TableMachine", "isIndex", "(II)Z"⟩), ("TableMachine$Question", 53, ⟨"TableMachine", "isIndex", "(II)Z"⟩), ("TableMachine$Op", 15, ⟨"TableMachine", "isIndex", "(II)Z"⟩), ("TableMachine$Kind", 9, ⟨"TableMachine", "isIndex", "(II)Z"⟩), ("TableMachine$Results", 28, ⟨"TableMachine", "isIndex", "(II)Z"⟩)]
def zKinds : List Int32 := [0, 0, 0, 1, 2, 0, 1, 3, 0, 1, 3, 0, 1, 4, 5, 1, 5, 0, 8, 5, 0, 5, 0, 0, 1, 3, 5, 5, 3, 5, 5, 3, 5, 5, 3, 5, 5, 3, 5, 5, 3, 5, 5, 3, 5, 5, 3, 0, 5, 3, 0, 5, 5, 5, 5, 7, 0, 3, 0, 0, 1, 3, 6, 1, 0, 0]
/-- what holds of the statics and the tables all the time; A: the cells that may change -/
def zS (X : zX) (A : Nat → Prop) (U : State) (H : Heap) : Prop :=
  (∀ q ∈ zNest, va_Nw (.methodLinkNest q.1 q.2.1 q.2.2 "TableMachine") U) ∧
  va_Z "TableMachine$Op" "KINDS" "[I" (.ref (X.2.2.2.1 900)) A U H ∧ va_T .int (X.2.2.2.1 900) 66 (fun j => .int (zKinds.getD j 0)) A U H ∧
  ∀ i, i < 200 → X.2.2.2.1 (i + 1) = X.2.2.2.1 i + 1
theorem zS_same {X : zX} {A : Nat → Prop} {U U' : State} (hv : U.vm = U'.vm) (hh : U'.heap = U.heap) (h : zS X A U U.heap) : zS X A U' U'.heap := by
  obtain ⟨h1, h2, h3, h4⟩ := h
  have ha : U.vm.Alike U'.vm := by rw [hv]; exact Vm.Alike.refl _
  rw [hh]
  exact ⟨fun q hq => va_Nw.same rfl hv (h1 q hq), va_Z.moved ha h2, va_T.moved ha h3, h4⟩
theorem zS_move {X : zX} {A A1 : Nat → Prop} {s U : State} {H : Heap} {locs : List Loc} (hW : s.WarmedH U.vm) (hA : ∀ q, A1 q → A q) (hS : va_S A s.heap H locs) (h : zS X A s s.heap) : zS X A1 U H := by
  obtain ⟨h1, h2, h3, h4⟩ := h
  exact ⟨fun q hq => va_Nw.warmM hW (h1 q hq), va_Z.narrow (va_Z.moved hW.alike (va_Z.kept h2 hS.2.1)) hA, va_T.narrow (va_T.moved hW.alike (va_T.kept h3 hS.2.1)) hA, h4⟩
/-- the arrays' classes, by small numbers -/
def zT (ca : Nat → ClassId) : List (ClassId × FieldType) := [(ca 0, .int), (ca 1, .long), (ca 2, .boolean), (ca 3, .object zTab), (ca 4, .object zCur)]
def zws (M : zM) : List Cond := .code M.1 M.2.1 M.2.2.1 M.2.2.2 :: zWA
/-- the room of a method d calls high, that makes mc cells of ms slots -/
def zR (d mc ms : Nat) : Room := { frames := d + 3, cells := mc, slots := ms, locals := 33 * d }
/-- what holds from the start of a method to its end -/
def zB (X : zX) (M : zM) (p : Program) (s : State) (m : MethodId) (args : Array Value) (meth : Method) (c : Code) (A : Nat → Prop) : Prop :=
  p.tables.exec = Jvm.exec ∧ c.code = M.2.1 ∧ c.maxLocals = M.2.2.1 ∧ meth.sig.returnType = M.2.2.2 ∧ meth.locks = false ∧ (∀ w ∈ zWA, w.before args s = true) ∧ s.vm.findClass M.1.cls = some m.cls ∧ meth.name = M.1.name ∧
  (∀ x ∈ c.exceptionTable.toList, False) ∧ va_K (X.2.1, X.2.2.1) zCl (zT X.2.2.2.2) s ∧ zS X A s s.heap ∧ (∀ q, s.heap.size ≤ q → A q)
section ZB
variable {X : zX} {M : zM} {p : Program} {s : State} {m : MethodId} {args : Array Value} {meth : Method} {c : Code} {A : Nat → Prop}
theorem zB.words (hB : zB X M p s m args meth c A) : ∀ w ∈ zWA, w.before args s = true := hB.2.2.2.2.2.1
theorem zB.word (hB : zB X M p s m args meth c A) {w : Cond} (h : w ∈ zWA) : w.before args s = true := hB.words w h
theorem zB.own (hB : zB X M p s m args meth c A) : s.vm.findClass M.1.cls = some m.cls := hB.2.2.2.2.2.2.1
theorem zB.mname (hB : zB X M p s m args meth c A) : meth.name = M.1.name := hB.2.2.2.2.2.2.2.1
theorem zB.noEx (hB : zB X M p s m args meth c A) : ∀ x ∈ c.exceptionTable.toList, False := hB.2.2.2.2.2.2.2.2.1
theorem zB.kinds (hB : zB X M p s m args meth c A) : va_K (X.2.1, X.2.2.1) zCl (zT X.2.2.2.2) s := hB.2.2.2.2.2.2.2.2.2.1
theorem zB.stat (hB : zB X M p s m args meth c A) : zS X A s s.heap := hB.2.2.2.2.2.2.2.2.2.2.1
theorem zB.hA (hB : zB X M p s m args meth c A) : ∀ q, s.heap.size ≤ q → A q := hB.2.2.2.2.2.2.2.2.2.2.2
end ZB
/-- the heap as it is now -/
def zD (X : zX) (A : Nat → Prop) (s : State) (fr : Bool) (k : Nat) (h : zH) (n : Nat) (H : Heap) (locs : List Loc) : Prop :=
  va_P (X.2.1, X.2.2.1) zCl (zW X.2.2.2.1 X.2.2.2.2 h n) H ∧ va_D A (zW X.2.2.2.1 X.2.2.2.2 h n) ∧ va_S A s.heap H locs ∧ (fr = true → X.2.2.2.1 n ≤ H.size ∧ X.2.2.2.1 n = s.heap.size + k)
/-- how it ends -/
def zF (X : zX) (A : Nat → Prop) (fr : Bool) (h : zH) (n : Nat) (st t : State) : Prop :=
  va_P (X.2.1, X.2.2.1) zCl (zW X.2.2.2.1 X.2.2.2.2 h n) t.heap ∧ va_D A (zW X.2.2.2.1 X.2.2.2.2 h n) ∧ va_F A st t ∧ (fr = true → X.2.2.2.1 n ≤ t.heap.size)
def zQ (X : zX) (A : Nat → Prop) (fr : Bool) (v : Option Value) (h : zH) (n : Nat) : Array Value → State → Outcome → State → Prop := fun _ st oc t => oc = .returned (v.map (zV X.2.2.2.1)) ∧ zF X A fr h n st t
abbrev zQT : Type := (Nat → Prop) → List Frame → Array Value → State → State → Prop
/-- the method returns v, with the heap h -/
def zRet (X : zX) (mc ms : Nat) (fr : Bool) (v : Option Value) (h : zH) (n : Nat) : zQT := fun A below args s => MQ below (zQ X A fr v h n) args s mc ms A
def zJ (X : zX) (R : Room) (M : zM) (Q : zQT) (fr : Bool) (k j : Nat) (h : zH) (n : Nat) (pc : Nat) (lv : List (Nat × Value)) (st : List Value) : Prop :=
  ∀ (p : Program) (e : Env) (s : State) (m : MethodId) (args : Array Value) (below : List Frame) (meth : Method) (c : Code) (A : Nat → Prop) (H : Heap) (locs : List Loc) (ls : Array Slot),
    zB X M p s m args meth c A → zD X A s fr k h n H locs → lv_has ls M.2.2.1 (lv.map fun q => (q.1, zV X.2.2.2.1 q.2)) →
    W p X.1 e R s m args below meth c H locs k j (Q A below args s) (F0 m pc ls (st.map (zV X.2.2.2.1)))
def zPc (X : zX) (fr : Bool) (av : List Value) (h : zH) (n sz : Nat) : Array Value → State → Prop := va_Pc (av.map (zV X.2.2.2.1)) (fun U => U.heap.size = sz ∧ va_P (X.2.1, X.2.2.1) zCl (zW X.2.2.2.1 X.2.2.2.2 h n) U.heap ∧ va_K (X.2.1, X.2.2.1) zCl (zT X.2.2.2.2) U ∧ va_D (fun _ => True) (zW X.2.2.2.1 X.2.2.2.2 h n) ∧ zS X (va_A (zW X.2.2.2.1 X.2.2.2.2 h n) sz) U U.heap ∧ (fr = true → sz = X.2.2.2.1 n))
/-- a contract: from the heap h, called with av, M returns v and leaves the heap hf -/
def zC (X : zX) (d : Nat) (M : zM) (mc ms : Nat) (fr : Bool) (av : List Value) (h : zH) (n : Nat) (v : Option Value) (hf : zH) (nf : Nat) : Prop :=
  ∀ sz : Nat, Met X.1 M.1 (zws M) (zR d mc ms) (zPc X fr av h n sz) (zQ X (va_A (zW X.2.2.2.1 X.2.2.2.2 h n) sz) fr v hf nf) mc ms (va_A (zW X.2.2.2.1 X.2.2.2.2 h n) sz)
/-! locals -/
def zst (i : Nat) (v : Value) (lv : List (Nat × Value)) : List (Nat × Value) :=
  (lv.filter fun q => !(q.1 == i) && !(q.1 + 1 == i && q.2.category == 2) && !(v.category == 2 && q.1 == i + 1)) ++ [(i, v)]
theorem zlv_map (ad : Nat → Nat) : ∀ (av : List Value) (i : Nat), lv_args i (av.map (zV ad)) = (lv_args i av).map fun q => (q.1, zV ad q.2)
  | [], _ => rfl
  | v :: vs, i => by
    show (i, zV ad v) :: lv_args (if (zV ad v).category = 2 then i + 2 else i + 1) (vs.map (zV ad)) = (i, zV ad v) :: (lv_args (if v.category = 2 then i + 2 else i + 1) vs).map _
    rw [zV_cat, zlv_map ad vs]
theorem zl_mem : ∀ {lv : List (Nat × Value)} {i : Nat} {v : Value}, lv.lookup i = some v → (i, v) ∈ lv
  | [], _, _, h => by simp [List.lookup] at h
  | (a, b) :: r, i, v, h => by
    by_cases hi : i = a
    · subst hi
      rw [List.lookup_cons_self] at h
      cases h
      exact List.mem_cons_self
    · have : (i == a) = false := by simpa using hi
      simp only [List.lookup, this] at h
      exact List.mem_cons_of_mem _ (zl_mem h)
theorem zl_at {ad : Nat → Nat} {ls : Array Slot} {nL : Nat} {lv : List (Nat × Value)} (hL : lv_has ls nL (lv.map fun q => (q.1, zV ad q.2))) {i : Nat} {v : Value} (h : lv.lookup i = some v) : ls[i]? = some (.val (zV ad v)) :=
  hL.2.2 (i, zV ad v) (List.mem_map.mpr ⟨(i, v), zl_mem h, rfl⟩)
theorem zl_ix {ad : Nat → Nat} {lv : List (Nat × Value)} {i : Nat} {v : Value} (h : lv.lookup i = some v) : ∃ k0 : Nat, (lv.map fun q => (q.1, zV ad q.2))[k0]? = some (i, zV ad v) :=
  List.getElem?_of_mem (List.mem_map.mpr ⟨(i, v), zl_mem h, rfl⟩)
theorem zl_st1 {ad : Nat → Nat} {ls : Array Slot} {nL i : Nat} {v : Value} {lv : List (Nat × Value)} (hL : lv_has ls nL ((i, zV ad v) :: (lv.map fun q => (q.1, zV ad q.2)).filter (fun q => !(q.1 == i) && !(q.1 + 1 == i && q.2.category == 2)))) : lv_has ls nL ((zst i v lv).map fun q => (q.1, zV ad q.2)) := by
  refine ⟨hL.1, hL.2.1, fun q hq => hL.2.2 q ?_⟩
  obtain ⟨q0, hq0, rfl⟩ := List.mem_map.mp hq
  rcases List.mem_append.mp hq0 with h | h
  · obtain ⟨h1, h2⟩ := List.mem_filter.mp h
    refine List.mem_cons_of_mem _ (List.mem_filter.mpr ⟨List.mem_map.mpr ⟨q0, h1, rfl⟩, ?_⟩)
    simp only [zV_cat]
    simp only [Bool.and_eq_true] at h2 ⊢
    exact h2.1
  · rw [List.mem_singleton.mp h]
    exact List.mem_cons_self
theorem zl_st2 {ad : Nat → Nat} {ls : Array Slot} {nL i : Nat} {v : Value} {lv : List (Nat × Value)} (hc : v.category = 2) (hL : lv_has ls nL ((i, zV ad v) :: (lv.map fun q => (q.1, zV ad q.2)).filter (fun q => !(q.1 == i) && (!(q.1 == i + 1) && !(q.1 + 1 == i && q.2.category == 2))))) : lv_has ls nL ((zst i v lv).map fun q => (q.1, zV ad q.2)) := by
  refine ⟨hL.1, hL.2.1, fun q hq => hL.2.2 q ?_⟩
  obtain ⟨q0, hq0, rfl⟩ := List.mem_map.mp hq
  rcases List.mem_append.mp hq0 with h | h
  · obtain ⟨h1, h2⟩ := List.mem_filter.mp h
    refine List.mem_cons_of_mem _ (List.mem_filter.mpr ⟨List.mem_map.mpr ⟨q0, h1, rfl⟩, ?_⟩)
    simp only [zV_cat]
    simp only [Bool.and_eq_true, hc] at h2 ⊢
    exact ⟨h2.1.1, by simpa using h2.2, h2.1.2⟩
  · rw [List.mem_singleton.mp h]
    exact List.mem_cons_self
/-! an index in range -/
def zin (i : Int32) (t len : Nat) : Prop := i = nI t ∧ t < len ∧ len < 2 ^ 31
theorem zin.cl {i : Int32} {t len : Nat} (h : zin i t len) : i.toNatClampNeg = t := by
  rw [h.1, nI_clamp (Nat.lt_trans h.2.1 h.2.2)]
theorem zin.vp {i : Int32} {t len : Nat} (h : zin i t len) : vp_in i len := by
  rw [h.1]; exact vp_in_nI h.2.1 h.2.2
/-! the heap behind a write -/
theorem zS_self {A : Nat → Prop} {H0 H : Heap} {locs : List Loc} (h : va_S A H0 H locs) : va_S A H H locs := ⟨Nat.le_refl _, fun _ _ _ => rfl, h.2.2⟩
theorem zS_tr {A : Nat → Prop} {H0 H H1 : Heap} {locs locs1 : List Loc} (h : va_S A H0 H locs) (h1 : va_S A H H1 locs1) : va_S A H0 H1 locs1 :=
  ⟨Nat.le_trans h.1 h1.1, fun q hq hA => (h1.2.1 q (Nat.lt_of_lt_of_le hq h.1) hA).trans (h.2.1 q hq hA), h1.2.2⟩
theorem zD_put {X : zX} {A : Nat → Prop} {s : State} {fr : Bool} {k : Nat} {h : zH} {n a : Nat} {H H1 : Heap} {locs locs1 : List Loc} {e : va_E} (ha : a < n) (hDD : zD X A s fr k h n H locs)
    (hP : va_P (X.2.1, X.2.2.1) zCl ((zW X.2.2.2.1 X.2.2.2.2 h n).set a (X.2.2.2.1 a, zE X.2.2.2.1 X.2.2.2.2 e)) H1) (hD : va_D A ((zW X.2.2.2.1 X.2.2.2.2 h n).set a (X.2.2.2.1 a, zE X.2.2.2.1 X.2.2.2.2 e))) (hS : va_S A H H1 locs1) : zD X A s fr k (va_up h a e) n H1 locs1 := by
  rw [zW_set ha] at hP hD
  exact ⟨hP, hD, zS_tr hDD.2.2.1 hS, fun hf => ⟨Nat.le_trans (hDD.2.2.2 hf).1 hS.1, (hDD.2.2.2 hf).2⟩⟩
theorem zA_len (ad : Nat → Nat) (x : vp_A) : (zA ad x).1 = x.1 := by
  obtain ⟨n, f | f | f | f | f⟩ := x <;> rfl
/-- a field that an instruction names: its class and place -/
def zFd (own : String) (ix ci kf : Nat) : Prop := ∃ (C : String) (T : u_T) (N : Nat), zCl[ci]? = some (C, T, N) ∧ kf < N ∧ (∀ w ∈ u_ws C T N, w ∈ zWA) ∧ Cond.fieldLink own ix (T kf).1 (T kf).2.1 (T kf).2.2.1 ∈ zWA
def zFp (ci kf : Nat) (ty : FieldType) (fin : Bool) : Prop := ∀ (C : String) (T : u_T) (N : Nat), zCl[ci]? = some (C, T, N) → ∃ ty0 : Nat → FieldType, (∀ k, k < N → parseFieldDescriptor (T k).2.2.1 = some (ty0 k)) ∧ (∀ a, a < N → ∀ b, b < N → a ≠ b → (T a).2.1 ≠ (T b).2.1) ∧ (T kf).2.2.2 = fin ∧ parseFieldDescriptor (T kf).2.2.1 = some ty
end
